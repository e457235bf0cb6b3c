set_option maxRecDepth 20000 in
theorem ggL_isAccused_L_areGuests_r5 : GoodIn wsL_isAccused wsL_areGuests_r5 := goodIn_r _ [99, 100, 101, 102, 103, 104, 105, 106, 107, 108, 109, 110, 111] (by decide +kernel) (by decide +kernel)
set_option maxRecDepth 20000 in
theorem ggL_isAccused_L_areGuests_x4 : GoodIn wsL_isAccused wsX40 := goodIn_r _ [188, 189, 190, 191, 192, 193, 194] (by decide +kernel) (by decide +kernel)
set_option maxRecDepth 20000 in
theorem ggL_isAccused_L_areGuests_x1 : GoodIn wsL_isAccused wsX10 := goodIn_r _ [195, 196, 197, 198, 199, 200, 201, 202, 203, 204, 205, 206, 207, 208, 209, 210, 211] (by decide +kernel) (by decide +kernel)
set_option maxRecDepth 20000 in
theorem ggL_isAccused_L_areGuests_x0 : GoodIn wsL_isAccused wsX00 := goodIn_r _ [212, 213, 214, 215] (by decide +kernel) (by decide +kernel)
set_option maxRecDepth 20000 in
theorem ggL_isAccused_L_areGuests : GoodIn wsL_isAccused wsL_areGuests := goodIn_ca (goodIn_ca (goodIn_cc ggL_isAccused_L_areGuests_h (goodIn_app (goodIn_app (goodIn_app (goodIn_app ggL_isAccused_L_areGuests_r1 (goodIn_app ggL_isAccused_L_areGuests_r2 (goodIn_app ggL_isAccused_L_areGuests_r3 (goodIn_app ggL_isAccused_L_areGuests_r4 (ggL_isAccused_L_areGuests_r5))))) ggL_isAccused_L_areGuests_x4) ggL_isAccused_L_areGuests_x1) ggL_isAccused_L_areGuests_x0)) (goodIn_sub (fun _ h => List.mem_cons_of_mem _ (List.mem_append_left _ (List.mem_append_left _ (List.mem_append_right _ h)))) (by decide +kernel))) (goodIn_sub (fun _ h => List.mem_cons_of_mem _ (List.mem_append_left _ (List.mem_append_right _ h))) (by decide +kernel))
set_option maxRecDepth 20000 in
theorem gL_isAccused_L_areGuests : GoodIn wsL_isAccused (va_wsS RL 145 yL_areGuests wsL_areGuests) := goodIn_app (goodIn_of _ (by decide +kernel)) ggL_isAccused_L_areGuests
set_option maxRecDepth 20000 in
theorem ggL_isAccused_L_guest_h : GoodIn wsL_isAccused [.codeWith yL_guest cL_guest 5 (some .int) [(0, 7, 10, 25), (0, 7, 15, 15)]] := goodIn_r _ [44] (by decide +kernel) (by decide +kernel)
set_option maxRecDepth 20000 in
theorem ggL_isAccused_L_guest_r1 : GoodIn wsL_isAccused wsL_guest_r1 := goodIn_r _ [45, 5, 46, 6, 47, 48, 49, 10, 50, 51, 52, 12, 13, 14, 53, 54, 55, 18, 56, 20, 57, 58, 59, 60] (by decide +kernel) (by decide +kernel)
set_option maxRecDepth 20000 in
theorem ggL_isAccused_L_guest_r2 : GoodIn wsL_isAccused wsL_guest_r2 := goodIn_r _ [28, 61, 62, 21, 63, 64, 65, 66, 67, 68, 69, 70, 22, 71, 72, 73, 74, 75, 76, 77, 78, 79, 80, 81] (by decide +kernel) (by decide +kernel)
set_option maxRecDepth 20000 in
theorem ggL_isAccused_L_guest_r3 : GoodIn wsL_isAccused wsL_guest_r3 := goodIn_r _ [82, 83, 84, 85, 86, 87, 88, 89, 90, 91, 92, 93, 94, 95, 96, 97, 98] (by decide +kernel) (by decide +kernel)
set_option maxRecDepth 20000 in
theorem ggL_isAccused_L_guest_x4 : GoodIn wsL_isAccused wsX40 := goodIn_r _ [188, 189, 190, 191, 192, 193, 194] (by decide +kernel) (by decide +kernel)
set_option maxRecDepth 20000 in
theorem ggL_isAccused_L_guest_x1 : GoodIn wsL_isAccused wsX10 := goodIn_r _ [195, 196, 197, 198, 199, 200, 201, 202, 203, 204, 205, 206, 207, 208, 209, 210, 211] (by decide +kernel) (by decide +kernel)
set_option maxRecDepth 20000 in
theorem ggL_isAccused_L_guest_x0 : GoodIn wsL_isAccused wsX00 := goodIn_r _ [212, 213, 214, 215] (by decide +kernel) (by decide +kernel)
set_option maxRecDepth 20000 in
theorem ggL_isAccused_L_guest : GoodIn wsL_isAccused wsL_guest := goodIn_ca (goodIn_ca (goodIn_cc ggL_isAccused_L_guest_h (goodIn_app (goodIn_app (goodIn_app (goodIn_app ggL_isAccused_L_guest_r1 (goodIn_app ggL_isAccused_L_guest_r2 (ggL_isAccused_L_guest_r3))) ggL_isAccused_L_guest_x4) ggL_isAccused_L_guest_x1) ggL_isAccused_L_guest_x0)) (goodIn_sub (fun _ h => List.mem_cons_of_mem _ (List.mem_append_left _ (List.mem_append_right _ h))) (by decide +kernel))) (goodIn_sub (fun _ h => List.mem_cons_of_mem _ (List.mem_append_left _ (List.mem_append_left _ (List.mem_append_right _ h)))) (by decide +kernel))
set_option maxRecDepth 20000 in
theorem gL_isAccused_L_guest : GoodIn wsL_isAccused (va_wsS RL 90 yL_guest wsL_guest) := goodIn_app (goodIn_of _ (by decide +kernel)) ggL_isAccused_L_guest
set_option maxRecDepth 20000 in
theorem ggL_isAccused_L_undo_h : GoodIn wsL_isAccused [.codeWith yL_undo cL_undo 3 (some .int) [(0, 5, 8, 18)]] := goodIn_r _ [179] (by decide +kernel) (by decide +kernel)
set_option maxRecDepth 20000 in
theorem ggL_isAccused_L_undo_r1 : GoodIn wsL_isAccused wsL_undo_r1 := goodIn_r _ [120, 121, 180, 181, 182, 10, 183, 126, 127, 135, 184, 185, 186, 187, 14, 137, 138, 139, 140, 136, 141, 142, 143, 18] (by decide +kernel) (by decide +kernel)
set_option maxRecDepth 20000 in
theorem ggL_isAccused_L_undo_r2 : GoodIn wsL_isAccused wsL_undo_r2 := goodIn_r _ [144, 27, 20, 21, 29, 24, 25, 26, 28, 145, 98, 23, 61, 22, 71, 110, 111, 62, 146, 147, 148, 149, 150, 151] (by decide +kernel) (by decide +kernel)
set_option maxRecDepth 20000 in
theorem ggL_isAccused_L_undo_r3 : GoodIn wsL_isAccused wsL_undo_r3 := goodIn_r _ [152, 153, 154, 155, 156, 157, 158, 75, 159, 160, 161, 77, 78, 86, 162, 163, 164, 165, 166] (by decide +kernel) (by decide +kernel)
set_option maxRecDepth 20000 in
theorem ggL_isAccused_L_undo_x4 : GoodIn wsL_isAccused wsX40 := goodIn_r _ [188, 189, 190, 191, 192, 193, 194] (by decide +kernel) (by decide +kernel)
set_option maxRecDepth 20000 in
theorem ggL_isAccused_L_undo_x1 : GoodIn wsL_isAccused wsX10 := goodIn_r _ [195, 196, 197, 198, 199, 200, 201, 202, 203, 204, 205, 206, 207, 208, 209, 210, 211] (by decide +kernel) (by decide +kernel)
set_option maxRecDepth 20000 in
theorem ggL_isAccused_L_undo_x0 : GoodIn wsL_isAccused wsX00 := goodIn_r _ [212, 213, 214, 215] (by decide +kernel) (by decide +kernel)
set_option maxRecDepth 20000 in
theorem ggL_isAccused_L_undo : GoodIn wsL_isAccused wsL_undo := goodIn_ca (goodIn_cc ggL_isAccused_L_undo_h (goodIn_app (goodIn_app (goodIn_app (goodIn_app ggL_isAccused_L_undo_r1 (goodIn_app ggL_isAccused_L_undo_r2 (ggL_isAccused_L_undo_r3))) ggL_isAccused_L_undo_x4) ggL_isAccused_L_undo_x1) ggL_isAccused_L_undo_x0)) (goodIn_sub (fun _ h => List.mem_cons_of_mem _ (List.mem_append_right _ h)) (by decide +kernel))
set_option maxRecDepth 20000 in
theorem gL_isAccused_L_undo : GoodIn wsL_isAccused (va_wsS RL 139 yL_undo wsL_undo) := goodIn_app (goodIn_of _ (by decide +kernel)) ggL_isAccused_L_undo
theorem dL_isAccused_0 : decode cL_isAccused 0 = .ok (.aload_n 0, 1) := by decide +kernel
theorem dL_isAccused_1 : decode cL_isAccused 1 = .ok (.iconst 1, 1) := by decide +kernel
theorem dL_isAccused_2 : decode cL_isAccused 2 = .ok (.invokestatic 85, 3) := by decide +kernel
theorem dL_isAccused_5 : decode cL_isAccused 5 = .ok (.ifCond .ne 5, 3) := by decide +kernel
theorem dL_isAccused_8 : decode cL_isAccused 8 = .ok (.iconst 1, 1) := by decide +kernel
theorem dL_isAccused_9 : decode cL_isAccused 9 = .ok (.ireturn, 1) := by decide +kernel
theorem dL_isAccused_10 : decode cL_isAccused 10 = .ok (.aload_n 0, 1) := by decide +kernel
theorem dL_isAccused_11 : decode cL_isAccused 11 = .ok (.invokestatic 95, 3) := by decide +kernel
theorem dL_isAccused_14 : decode cL_isAccused 14 = .ok (.lstore_n 2, 1) := by decide +kernel
theorem dL_isAccused_15 : decode cL_isAccused 15 = .ok (.aload_n 0, 1) := by decide +kernel
theorem dL_isAccused_16 : decode cL_isAccused 16 = .ok (.bipush 6, 2) := by decide +kernel
theorem dL_isAccused_18 : decode cL_isAccused 18 = .ok (.invokestatic 85, 3) := by decide +kernel
theorem dL_isAccused_21 : decode cL_isAccused 21 = .ok (.istore 4, 2) := by decide +kernel
theorem dL_isAccused_23 : decode cL_isAccused 23 = .ok (.aload_n 0, 1) := by decide +kernel
theorem dL_isAccused_24 : decode cL_isAccused 24 = .ok (.iconst 5, 1) := by decide +kernel
theorem dL_isAccused_25 : decode cL_isAccused 25 = .ok (.invokestatic 85, 3) := by decide +kernel
theorem dL_isAccused_28 : decode cL_isAccused 28 = .ok (.istore 5, 2) := by decide +kernel
theorem dL_isAccused_30 : decode cL_isAccused 30 = .ok (.aload_n 0, 1) := by decide +kernel
theorem dL_isAccused_31 : decode cL_isAccused 31 = .ok (.iconst 4, 1) := by decide +kernel
theorem dL_isAccused_32 : decode cL_isAccused 32 = .ok (.invokestatic 85, 3) := by decide +kernel
theorem dL_isAccused_35 : decode cL_isAccused 35 = .ok (.istore 6, 2) := by decide +kernel
theorem dL_isAccused_37 : decode cL_isAccused 37 = .ok (.aload_n 0, 1) := by decide +kernel
theorem dL_isAccused_38 : decode cL_isAccused 38 = .ok (.invokevirtual 130, 3) := by decide +kernel
theorem dL_isAccused_41 : decode cL_isAccused 41 = .ok (.istore 7, 2) := by decide +kernel
theorem dL_isAccused_43 : decode cL_isAccused 43 = .ok (.aload_n 0, 1) := by decide +kernel
theorem dL_isAccused_44 : decode cL_isAccused 44 = .ok (.iload_n 1, 1) := by decide +kernel
theorem dL_isAccused_45 : decode cL_isAccused 45 = .ok (.invokestatic 109, 3) := by decide +kernel
theorem dL_isAccused_48 : decode cL_isAccused 48 = .ok (.istore 8, 2) := by decide +kernel
theorem dL_isAccused_50 : decode cL_isAccused 50 = .ok (.iload 7, 2) := by decide +kernel
theorem dL_isAccused_52 : decode cL_isAccused 52 = .ok (.iload 8, 2) := by decide +kernel
theorem dL_isAccused_54 : decode cL_isAccused 54 = .ok (.ishr, 1) := by decide +kernel
theorem dL_isAccused_55 : decode cL_isAccused 55 = .ok (.iconst 1, 1) := by decide +kernel
theorem dL_isAccused_56 : decode cL_isAccused 56 = .ok (.iand, 1) := by decide +kernel
theorem dL_isAccused_57 : decode cL_isAccused 57 = .ok (.iconst 1, 1) := by decide +kernel
theorem dL_isAccused_58 : decode cL_isAccused 58 = .ok (.if_icmp .ne 98, 3) := by decide +kernel
theorem dL_isAccused_61 : decode cL_isAccused 61 = .ok (.aload_n 0, 1) := by decide +kernel
theorem dL_isAccused_62 : decode cL_isAccused 62 = .ok (.bipush 9, 2) := by decide +kernel
theorem dL_isAccused_64 : decode cL_isAccused 64 = .ok (.invokestatic 85, 3) := by decide +kernel
theorem dL_isAccused_67 : decode cL_isAccused 67 = .ok (.iload 8, 2) := by decide +kernel
theorem dL_isAccused_69 : decode cL_isAccused 69 = .ok (.if_icmp .ne 87, 3) := by decide +kernel
theorem dL_isAccused_72 : decode cL_isAccused 72 = .ok (.aload_n 0, 1) := by decide +kernel
theorem dL_isAccused_73 : decode cL_isAccused 73 = .ok (.iconst 4, 1) := by decide +kernel
theorem dL_isAccused_74 : decode cL_isAccused 74 = .ok (.invokestatic 85, 3) := by decide +kernel
theorem dL_isAccused_77 : decode cL_isAccused 77 = .ok (.iload 6, 2) := by decide +kernel
theorem dL_isAccused_79 : decode cL_isAccused 79 = .ok (.iconst 1, 1) := by decide +kernel
theorem dL_isAccused_80 : decode cL_isAccused 80 = .ok (.iadd, 1) := by decide +kernel
theorem dL_isAccused_81 : decode cL_isAccused 81 = .ok (.if_icmp .ne 75, 3) := by decide +kernel
theorem dL_isAccused_84 : decode cL_isAccused 84 = .ok (.aload_n 0, 1) := by decide +kernel
theorem dL_isAccused_85 : decode cL_isAccused 85 = .ok (.iconst 5, 1) := by decide +kernel
theorem dL_isAccused_86 : decode cL_isAccused 86 = .ok (.invokestatic 85, 3) := by decide +kernel
theorem dL_isAccused_89 : decode cL_isAccused 89 = .ok (.iload 5, 2) := by decide +kernel
theorem dL_isAccused_91 : decode cL_isAccused 91 = .ok (.iload 8, 2) := by decide +kernel
theorem dL_isAccused_93 : decode cL_isAccused 93 = .ok (.iload_n 1, 1) := by decide +kernel
theorem dL_isAccused_94 : decode cL_isAccused 94 = .ok (.if_icmp .ne 7, 3) := by decide +kernel
theorem dL_isAccused_97 : decode cL_isAccused 97 = .ok (.iconst 1, 1) := by decide +kernel
theorem dL_isAccused_98 : decode cL_isAccused 98 = .ok (.goto 4, 3) := by decide +kernel
theorem dL_isAccused_101 : decode cL_isAccused 101 = .ok (.iconst 0, 1) := by decide +kernel
theorem dL_isAccused_102 : decode cL_isAccused 102 = .ok (.iadd, 1) := by decide +kernel
theorem dL_isAccused_103 : decode cL_isAccused 103 = .ok (.if_icmp .ne 53, 3) := by decide +kernel
theorem dL_isAccused_106 : decode cL_isAccused 106 = .ok (.aload_n 0, 1) := by decide +kernel
theorem dL_isAccused_107 : decode cL_isAccused 107 = .ok (.bipush 6, 2) := by decide +kernel
theorem dL_isAccused_109 : decode cL_isAccused 109 = .ok (.invokestatic 85, 3) := by decide +kernel
theorem dL_isAccused_112 : decode cL_isAccused 112 = .ok (.iload 4, 2) := by decide +kernel
theorem dL_isAccused_114 : decode cL_isAccused 114 = .ok (.iload 8, 2) := by decide +kernel
theorem dL_isAccused_116 : decode cL_isAccused 116 = .ok (.iload_n 1, 1) := by decide +kernel
theorem dL_isAccused_117 : decode cL_isAccused 117 = .ok (.if_icmp .ne 14, 3) := by decide +kernel
theorem dL_isAccused_120 : decode cL_isAccused 120 = .ok (.bipush 21, 2) := by decide +kernel
theorem dL_isAccused_122 : decode cL_isAccused 122 = .ok (.aload_n 0, 1) := by decide +kernel
theorem dL_isAccused_123 : decode cL_isAccused 123 = .ok (.iconst 2, 1) := by decide +kernel
theorem dL_isAccused_124 : decode cL_isAccused 124 = .ok (.invokestatic 85, 3) := by decide +kernel
theorem dL_isAccused_127 : decode cL_isAccused 127 = .ok (.isub, 1) := by decide +kernel
theorem dL_isAccused_128 : decode cL_isAccused 128 = .ok (.goto 5, 3) := by decide +kernel
theorem dL_isAccused_131 : decode cL_isAccused 131 = .ok (.bipush (-10), 2) := by decide +kernel
theorem dL_isAccused_133 : decode cL_isAccused 133 = .ok (.iadd, 1) := by decide +kernel
theorem dL_isAccused_134 : decode cL_isAccused 134 = .ok (.if_icmp .ne 22, 3) := by decide +kernel
theorem dL_isAccused_137 : decode cL_isAccused 137 = .ok (.aload_n 0, 1) := by decide +kernel
theorem dL_isAccused_138 : decode cL_isAccused 138 = .ok (.iconst 1, 1) := by decide +kernel
theorem dL_isAccused_139 : decode cL_isAccused 139 = .ok (.invokestatic 85, 3) := by decide +kernel
theorem dL_isAccused_142 : decode cL_isAccused 142 = .ok (.ifCond .ne 14, 3) := by decide +kernel
theorem dL_isAccused_145 : decode cL_isAccused 145 = .ok (.aload_n 0, 1) := by decide +kernel
theorem dL_isAccused_146 : decode cL_isAccused 146 = .ok (.invokestatic 145, 3) := by decide +kernel
theorem dL_isAccused_149 : decode cL_isAccused 149 = .ok (.ifCond .eq 7, 3) := by decide +kernel
theorem dL_isAccused_152 : decode cL_isAccused 152 = .ok (.iconst 1, 1) := by decide +kernel
theorem dL_isAccused_153 : decode cL_isAccused 153 = .ok (.goto 4, 3) := by decide +kernel
theorem dL_isAccused_156 : decode cL_isAccused 156 = .ok (.iconst 0, 1) := by decide +kernel
theorem dL_isAccused_157 : decode cL_isAccused 157 = .ok (.istore 9, 2) := by decide +kernel
theorem dL_isAccused_159 : decode cL_isAccused 159 = .ok (.iconst 0, 1) := by decide +kernel
theorem dL_isAccused_160 : decode cL_isAccused 160 = .ok (.istore 10, 2) := by decide +kernel
theorem dL_isAccused_162 : decode cL_isAccused 162 = .ok (.iload 10, 2) := by decide +kernel
theorem dL_isAccused_164 : decode cL_isAccused 164 = .ok (.aload_n 0, 1) := by decide +kernel
theorem dL_isAccused_165 : decode cL_isAccused 165 = .ok (.iconst 0, 1) := by decide +kernel
theorem dL_isAccused_166 : decode cL_isAccused 166 = .ok (.invokestatic 85, 3) := by decide +kernel
theorem dL_isAccused_169 : decode cL_isAccused 169 = .ok (.if_icmp .ge 61, 3) := by decide +kernel
theorem dL_isAccused_172 : decode cL_isAccused 172 = .ok (.iload 9, 2) := by decide +kernel
theorem dL_isAccused_174 : decode cL_isAccused 174 = .ok (.ifCond .eq 56, 3) := by decide +kernel
theorem dL_isAccused_177 : decode cL_isAccused 177 = .ok (.aload_n 0, 1) := by decide +kernel
theorem dL_isAccused_178 : decode cL_isAccused 178 = .ok (.iload 10, 2) := by decide +kernel
theorem dL_isAccused_180 : decode cL_isAccused 180 = .ok (.bipush 7, 2) := by decide +kernel
theorem dL_isAccused_182 : decode cL_isAccused 182 = .ok (.invokestatic 90, 3) := by decide +kernel
theorem dL_isAccused_185 : decode cL_isAccused 185 = .ok (.istore 11, 2) := by decide +kernel
theorem dL_isAccused_187 : decode cL_isAccused 187 = .ok (.iload 11, 2) := by decide +kernel
theorem dL_isAccused_189 : decode cL_isAccused 189 = .ok (.aload_n 0, 1) := by decide +kernel
theorem dL_isAccused_190 : decode cL_isAccused 190 = .ok (.iload 10, 2) := by decide +kernel
theorem dL_isAccused_192 : decode cL_isAccused 192 = .ok (.iconst 5, 1) := by decide +kernel
theorem dL_isAccused_193 : decode cL_isAccused 193 = .ok (.invokestatic 90, 3) := by decide +kernel
theorem dL_isAccused_196 : decode cL_isAccused 196 = .ok (.iconst (-1), 1) := by decide +kernel
theorem dL_isAccused_197 : decode cL_isAccused 197 = .ok (.ixor, 1) := by decide +kernel
theorem dL_isAccused_198 : decode cL_isAccused 198 = .ok (.iand, 1) := by decide +kernel
theorem dL_isAccused_199 : decode cL_isAccused 199 = .ok (.ifCond .ne 22, 3) := by decide +kernel
theorem dL_isAccused_202 : decode cL_isAccused 202 = .ok (.aload_n 0, 1) := by decide +kernel
theorem dL_isAccused_203 : decode cL_isAccused 203 = .ok (.iload 10, 2) := by decide +kernel
theorem dL_isAccused_205 : decode cL_isAccused 205 = .ok (.iconst 4, 1) := by decide +kernel
theorem dL_isAccused_206 : decode cL_isAccused 206 = .ok (.invokestatic 90, 3) := by decide +kernel
theorem dL_isAccused_209 : decode cL_isAccused 209 = .ok (.iload 11, 2) := by decide +kernel
theorem dL_isAccused_211 : decode cL_isAccused 211 = .ok (.iconst (-1), 1) := by decide +kernel
theorem dL_isAccused_212 : decode cL_isAccused 212 = .ok (.ixor, 1) := by decide +kernel
theorem dL_isAccused_213 : decode cL_isAccused 213 = .ok (.iand, 1) := by decide +kernel
theorem dL_isAccused_214 : decode cL_isAccused 214 = .ok (.ifCond .ne 7, 3) := by decide +kernel
theorem dL_isAccused_217 : decode cL_isAccused 217 = .ok (.iconst 1, 1) := by decide +kernel
theorem dL_isAccused_218 : decode cL_isAccused 218 = .ok (.goto 4, 3) := by decide +kernel
theorem dL_isAccused_221 : decode cL_isAccused 221 = .ok (.iconst 0, 1) := by decide +kernel
theorem dL_isAccused_222 : decode cL_isAccused 222 = .ok (.istore 9, 2) := by decide +kernel
theorem dL_isAccused_224 : decode cL_isAccused 224 = .ok (.iinc 10 1, 3) := by decide +kernel
theorem dL_isAccused_227 : decode cL_isAccused 227 = .ok (.goto (-65), 3) := by decide +kernel
theorem dL_isAccused_230 : decode cL_isAccused 230 = .ok (.iload 9, 2) := by decide +kernel
theorem dL_isAccused_232 : decode cL_isAccused 232 = .ok (.ifCond .eq 23, 3) := by decide +kernel
theorem dL_isAccused_235 : decode cL_isAccused 235 = .ok (.aload_n 0, 1) := by decide +kernel
theorem dL_isAccused_236 : decode cL_isAccused 236 = .ok (.invokestatic 139, 3) := by decide +kernel
theorem dL_isAccused_239 : decode cL_isAccused 239 = .ok (.ifCond .lt 16, 3) := by decide +kernel
theorem dL_isAccused_242 : decode cL_isAccused 242 = .ok (.aload_n 0, 1) := by decide +kernel
theorem dL_isAccused_243 : decode cL_isAccused 243 = .ok (.invokestatic 95, 3) := by decide +kernel
theorem dL_isAccused_246 : decode cL_isAccused 246 = .ok (.lload_n 2, 1) := by decide +kernel
theorem dL_isAccused_247 : decode cL_isAccused 247 = .ok (.lcmp, 1) := by decide +kernel
theorem dL_isAccused_248 : decode cL_isAccused 248 = .ok (.ifCond .ne 7, 3) := by decide +kernel
theorem dL_isAccused_251 : decode cL_isAccused 251 = .ok (.iconst 1, 1) := by decide +kernel
theorem dL_isAccused_252 : decode cL_isAccused 252 = .ok (.goto 4, 3) := by decide +kernel
theorem dL_isAccused_255 : decode cL_isAccused 255 = .ok (.iconst 0, 1) := by decide +kernel
theorem dL_isAccused_256 : decode cL_isAccused 256 = .ok (.ireturn, 1) := by decide +kernel
set_option maxRecDepth 20000 in
theorem ggL_acts_L_value : GoodIn wsL_acts wsL_value := goodIn_ca (goodIn_r _ [4, 5, 6, 7, 8, 9, 10, 11, 12, 13, 14, 15, 16, 17, 18, 19, 20, 21, 22, 23, 24, 25, 26, 27, 28, 29, 30, 31, 32, 33, 34, 35, 36, 232, 233, 234, 235, 236, 237, 238, 239, 240, 241, 242, 243, 244, 245, 246, 247, 248, 249, 250, 251, 252, 253, 254, 255] (by decide +kernel) (by decide +kernel)) (goodIn_sub (fun _ h => List.mem_cons_of_mem _ (List.mem_append_left _ (List.mem_append_left _ (List.mem_append_right _ h)))) (by decide +kernel))
