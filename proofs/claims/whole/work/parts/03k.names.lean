theorem dX5_reads_69 : decode cX5_reads 69 = .ok (.aload_n 0, 1) := by decide +kernel
theorem dX5_reads_70 : decode cX5_reads 70 = .ok (.bipush 48, 2) := by decide +kernel
theorem dX5_reads_72 : decode cX5_reads 72 = .ok (.bipush 51, 2) := by decide +kernel
theorem dX5_reads_74 : decode cX5_reads 74 = .ok (.invokevirtual 154, 3) := by decide +kernel
theorem dX5_reads_77 : decode cX5_reads 77 = .ok (.ifCond .ne 5, 3) := by decide +kernel
theorem dX5_reads_80 : decode cX5_reads 80 = .ok (.iconst 0, 1) := by decide +kernel
theorem dX5_reads_81 : decode cX5_reads 81 = .ok (.ireturn, 1) := by decide +kernel
theorem dX5_reads_82 : decode cX5_reads 82 = .ok (.aload_n 0, 1) := by decide +kernel
theorem dX5_reads_83 : decode cX5_reads 83 = .ok (.aload_n 0, 1) := by decide +kernel
theorem dX5_reads_84 : decode cX5_reads 84 = .ok (.getfield 16, 3) := by decide +kernel
theorem dX5_reads_87 : decode cX5_reads 87 = .ok (.aload_n 0, 1) := by decide +kernel
theorem dX5_reads_88 : decode cX5_reads 88 = .ok (.getfield 145, 3) := by decide +kernel
theorem dX5_reads_91 : decode cX5_reads 91 = .ok (.iconst 1, 1) := by decide +kernel
theorem dX5_reads_92 : decode cX5_reads 92 = .ok (.isub, 1) := by decide +kernel
theorem dX5_reads_93 : decode cX5_reads 93 = .ok (.iaload, 1) := by decide +kernel
theorem dX5_reads_94 : decode cX5_reads 94 = .ok (.bipush 48, 2) := by decide +kernel
theorem dX5_reads_96 : decode cX5_reads 96 = .ok (.isub, 1) := by decide +kernel
theorem dX5_reads_97 : decode cX5_reads 97 = .ok (.putfield 157, 3) := by decide +kernel
theorem dX5_reads_100 : decode cX5_reads 100 = .ok (.aload_n 0, 1) := by decide +kernel
theorem dX5_reads_101 : decode cX5_reads 101 = .ok (.iconst 0, 1) := by decide +kernel
theorem dX5_reads_102 : decode cX5_reads 102 = .ok (.putfield 160, 3) := by decide +kernel
theorem dX5_reads_105 : decode cX5_reads 105 = .ok (.aload_n 0, 1) := by decide +kernel
theorem dX5_reads_106 : decode cX5_reads 106 = .ok (.getfield 151, 3) := by decide +kernel
theorem dX5_reads_109 : decode cX5_reads 109 = .ok (.bipush 103, 2) := by decide +kernel
theorem dX5_reads_111 : decode cX5_reads 111 = .ok (.if_icmp .ne 12, 3) := by decide +kernel
theorem dX5_reads_114 : decode cX5_reads 114 = .ok (.aload_n 0, 1) := by decide +kernel
theorem dX5_reads_115 : decode cX5_reads 115 = .ok (.bipush 59, 2) := by decide +kernel
theorem dX5_reads_117 : decode cX5_reads 117 = .ok (.bipush 59, 2) := by decide +kernel
theorem dX5_reads_119 : decode cX5_reads 119 = .ok (.invokevirtual 154, 3) := by decide +kernel
theorem dX5_reads_122 : decode cX5_reads 122 = .ok (.ireturn, 1) := by decide +kernel
theorem dX5_reads_123 : decode cX5_reads 123 = .ok (.aload_n 0, 1) := by decide +kernel
theorem dX5_reads_124 : decode cX5_reads 124 = .ok (.bipush 58, 2) := by decide +kernel
theorem dX5_reads_126 : decode cX5_reads 126 = .ok (.bipush 58, 2) := by decide +kernel
theorem dX5_reads_128 : decode cX5_reads 128 = .ok (.invokevirtual 154, 3) := by decide +kernel
theorem dX5_reads_131 : decode cX5_reads 131 = .ok (.ifCond .eq 14, 3) := by decide +kernel
theorem dX5_reads_134 : decode cX5_reads 134 = .ok (.aload_n 0, 1) := by decide +kernel
theorem dX5_reads_135 : decode cX5_reads 135 = .ok (.bipush 48, 2) := by decide +kernel
theorem dX5_reads_137 : decode cX5_reads 137 = .ok (.bipush 55, 2) := by decide +kernel
theorem dX5_reads_139 : decode cX5_reads 139 = .ok (.invokevirtual 154, 3) := by decide +kernel
theorem dX5_reads_142 : decode cX5_reads 142 = .ok (.ifCond .ne 5, 3) := by decide +kernel
theorem dX5_reads_145 : decode cX5_reads 145 = .ok (.iconst 0, 1) := by decide +kernel
theorem dX5_reads_146 : decode cX5_reads 146 = .ok (.ireturn, 1) := by decide +kernel
theorem dX5_reads_147 : decode cX5_reads 147 = .ok (.aload_n 0, 1) := by decide +kernel
theorem dX5_reads_148 : decode cX5_reads 148 = .ok (.iconst 1, 1) := by decide +kernel
theorem dX5_reads_149 : decode cX5_reads 149 = .ok (.aload_n 0, 1) := by decide +kernel
theorem dX5_reads_150 : decode cX5_reads 150 = .ok (.getfield 16, 3) := by decide +kernel
theorem dX5_reads_153 : decode cX5_reads 153 = .ok (.aload_n 0, 1) := by decide +kernel
theorem dX5_reads_154 : decode cX5_reads 154 = .ok (.getfield 145, 3) := by decide +kernel
theorem dX5_reads_157 : decode cX5_reads 157 = .ok (.iconst 1, 1) := by decide +kernel
theorem dX5_reads_158 : decode cX5_reads 158 = .ok (.isub, 1) := by decide +kernel
theorem dX5_reads_159 : decode cX5_reads 159 = .ok (.iaload, 1) := by decide +kernel
theorem dX5_reads_160 : decode cX5_reads 160 = .ok (.bipush 48, 2) := by decide +kernel
theorem dX5_reads_162 : decode cX5_reads 162 = .ok (.isub, 1) := by decide +kernel
theorem dX5_reads_163 : decode cX5_reads 163 = .ok (.ishl, 1) := by decide +kernel
theorem dX5_reads_164 : decode cX5_reads 164 = .ok (.putfield 160, 3) := by decide +kernel
theorem dX5_reads_167 : decode cX5_reads 167 = .ok (.aload_n 0, 1) := by decide +kernel
theorem dX5_reads_168 : decode cX5_reads 168 = .ok (.getfield 151, 3) := by decide +kernel
theorem dX5_reads_171 : decode cX5_reads 171 = .ok (.bipush 112, 2) := by decide +kernel
theorem dX5_reads_173 : decode cX5_reads 173 = .ok (.if_icmp .eq 61, 3) := by decide +kernel
theorem dX5_reads_176 : decode cX5_reads 176 = .ok (.aload_n 0, 1) := by decide +kernel
theorem dX5_reads_177 : decode cX5_reads 177 = .ok (.aload_n 0, 1) := by decide +kernel
theorem dX5_reads_178 : decode cX5_reads 178 = .ok (.getfield 16, 3) := by decide +kernel
theorem dX5_reads_181 : decode cX5_reads 181 = .ok (.aload_n 0, 1) := by decide +kernel
theorem dX5_reads_182 : decode cX5_reads 182 = .ok (.getfield 145, 3) := by decide +kernel
theorem dX5_reads_185 : decode cX5_reads 185 = .ok (.iconst 1, 1) := by decide +kernel
theorem dX5_reads_186 : decode cX5_reads 186 = .ok (.isub, 1) := by decide +kernel
theorem dX5_reads_187 : decode cX5_reads 187 = .ok (.iaload, 1) := by decide +kernel
theorem dX5_reads_188 : decode cX5_reads 188 = .ok (.iconst 1, 1) := by decide +kernel
theorem dX5_reads_189 : decode cX5_reads 189 = .ok (.iadd, 1) := by decide +kernel
theorem dX5_reads_190 : decode cX5_reads 190 = .ok (.bipush 55, 2) := by decide +kernel
theorem dX5_reads_192 : decode cX5_reads 192 = .ok (.invokevirtual 148, 3) := by decide +kernel
theorem dX5_reads_195 : decode cX5_reads 195 = .ok (.ifCond .eq 39, 3) := by decide +kernel
theorem dX5_reads_198 : decode cX5_reads 198 = .ok (.aload_n 0, 1) := by decide +kernel
theorem dX5_reads_199 : decode cX5_reads 199 = .ok (.dup, 1) := by decide +kernel
theorem dX5_reads_200 : decode cX5_reads 200 = .ok (.getfield 160, 3) := by decide +kernel
theorem dX5_reads_203 : decode cX5_reads 203 = .ok (.iconst 1, 1) := by decide +kernel
theorem dX5_reads_204 : decode cX5_reads 204 = .ok (.aload_n 0, 1) := by decide +kernel
theorem dX5_reads_205 : decode cX5_reads 205 = .ok (.getfield 16, 3) := by decide +kernel
theorem dX5_reads_208 : decode cX5_reads 208 = .ok (.aload_n 0, 1) := by decide +kernel
theorem dX5_reads_209 : decode cX5_reads 209 = .ok (.getfield 145, 3) := by decide +kernel
theorem dX5_reads_212 : decode cX5_reads 212 = .ok (.iaload, 1) := by decide +kernel
theorem dX5_reads_213 : decode cX5_reads 213 = .ok (.bipush 48, 2) := by decide +kernel
theorem dX5_reads_215 : decode cX5_reads 215 = .ok (.isub, 1) := by decide +kernel
theorem dX5_reads_216 : decode cX5_reads 216 = .ok (.ishl, 1) := by decide +kernel
theorem dX5_reads_217 : decode cX5_reads 217 = .ok (.ior, 1) := by decide +kernel
theorem dX5_reads_218 : decode cX5_reads 218 = .ok (.putfield 160, 3) := by decide +kernel
theorem dX5_reads_221 : decode cX5_reads 221 = .ok (.aload_n 0, 1) := by decide +kernel
theorem dX5_reads_222 : decode cX5_reads 222 = .ok (.dup, 1) := by decide +kernel
theorem dX5_reads_223 : decode cX5_reads 223 = .ok (.getfield 145, 3) := by decide +kernel
theorem dX5_reads_226 : decode cX5_reads 226 = .ok (.iconst 1, 1) := by decide +kernel
theorem dX5_reads_227 : decode cX5_reads 227 = .ok (.iadd, 1) := by decide +kernel
theorem dX5_reads_228 : decode cX5_reads 228 = .ok (.putfield 145, 3) := by decide +kernel
theorem dX5_reads_231 : decode cX5_reads 231 = .ok (.goto (-64), 3) := by decide +kernel
theorem dX5_reads_234 : decode cX5_reads 234 = .ok (.aload_n 0, 1) := by decide +kernel
theorem dX5_reads_235 : decode cX5_reads 235 = .ok (.bipush 59, 2) := by decide +kernel
theorem dX5_reads_237 : decode cX5_reads 237 = .ok (.bipush 59, 2) := by decide +kernel
theorem dX5_reads_239 : decode cX5_reads 239 = .ok (.invokevirtual 154, 3) := by decide +kernel
theorem dX5_reads_242 : decode cX5_reads 242 = .ok (.ireturn, 1) := by decide +kernel
theorem dX5_cardOf_0 : decode cX5_cardOf 0 = .ok (.iconst 0, 1) := by decide +kernel
theorem dX5_cardOf_1 : decode cX5_cardOf 1 = .ok (.istore_n 1, 1) := by decide +kernel
theorem dX5_cardOf_2 : decode cX5_cardOf 2 = .ok (.iload_n 0, 1) := by decide +kernel
theorem dX5_cardOf_3 : decode cX5_cardOf 3 = .ok (.iload_n 1, 1) := by decide +kernel
theorem dX5_cardOf_4 : decode cX5_cardOf 4 = .ok (.ishr, 1) := by decide +kernel
theorem dX5_cardOf_5 : decode cX5_cardOf 5 = .ok (.iconst 1, 1) := by decide +kernel
theorem dX5_cardOf_6 : decode cX5_cardOf 6 = .ok (.if_icmp .eq 9, 3) := by decide +kernel
theorem dX5_cardOf_9 : decode cX5_cardOf 9 = .ok (.iinc 1 1, 3) := by decide +kernel
theorem dX5_cardOf_12 : decode cX5_cardOf 12 = .ok (.goto (-10), 3) := by decide +kernel
theorem dX5_cardOf_15 : decode cX5_cardOf 15 = .ok (.iload_n 1, 1) := by decide +kernel
theorem dX5_cardOf_16 : decode cX5_cardOf 16 = .ok (.ireturn, 1) := by decide +kernel
set_option maxRecDepth 20000 in
theorem ggX5_plays_X5_isGuest : GoodIn wsX5_plays wsX5_isGuest := goodIn_r _ [9, 3, 10, 11, 8, 12, 35, 36, 37, 38, 39, 40, 41, 42, 43, 44, 45, 46, 47, 48, 49, 50, 51, 52, 53, 54] (by decide +kernel) (by decide +kernel)
set_option maxRecDepth 20000 in
theorem gX5_plays_X5_isGuest : GoodIn wsX5_plays (wsV RX5 84 RX5 yX5_isGuest wsX5_isGuest) := goodIn_app (goodIn_of _ (by decide +kernel)) ggX5_plays_X5_isGuest
set_option maxRecDepth 20000 in
theorem ggX5_plays_X5_isHere : GoodIn wsX5_plays wsX5_isHere := goodIn_r _ [16, 3, 35, 36, 37, 38, 39, 40, 41, 42, 43, 44, 45, 46, 47, 48, 49, 50, 51, 52, 53, 54] (by decide +kernel) (by decide +kernel)
set_option maxRecDepth 20000 in
theorem gX5_plays_X5_isHere : GoodIn wsX5_plays (wsV RX5 101 RX5 yX5_isHere wsX5_isHere) := goodIn_app (goodIn_of _ (by decide +kernel)) ggX5_plays_X5_isHere
set_option maxRecDepth 20000 in
theorem ggX5_plays_X5_cardOf : GoodIn wsX5_plays wsX5_cardOf := goodIn_r _ [19] (by decide +kernel) (by decide +kernel)
set_option maxRecDepth 20000 in
theorem gX5_plays_X5_cardOf : GoodIn wsX5_plays (va_wsS RX5 163 yX5_cardOf wsX5_cardOf) := goodIn_app (goodIn_of _ (by decide +kernel)) ggX5_plays_X5_cardOf
set_option maxRecDepth 20000 in
theorem ggX5_plays_X5_proves : GoodIn wsX5_plays wsX5_proves := goodIn_r _ [23, 3, 35, 36, 37, 38, 39, 40, 41, 42, 43, 44, 45, 46, 47, 48, 49, 50, 51, 52, 53, 54] (by decide +kernel) (by decide +kernel)
set_option maxRecDepth 20000 in
theorem gX5_plays_X5_proves : GoodIn wsX5_plays (wsV RX5 104 RX5 yX5_proves wsX5_proves) := goodIn_app (goodIn_of _ (by decide +kernel)) ggX5_plays_X5_proves
set_option maxRecDepth 20000 in
theorem ggX5_plays_X5_canAsk : GoodIn wsX5_plays wsX5_canAsk := goodIn_r _ [27, 3, 35, 36, 37, 38, 39, 40, 41, 42, 43, 44, 45, 46, 47, 48, 49, 50, 51, 52, 53, 54] (by decide +kernel) (by decide +kernel)
set_option maxRecDepth 20000 in
theorem gX5_plays_X5_canAsk : GoodIn wsX5_plays (wsV RX5 90 RX5 yX5_canAsk wsX5_canAsk) := goodIn_app (goodIn_of _ (by decide +kernel)) ggX5_plays_X5_canAsk
set_option maxRecDepth 20000 in
theorem ggX5_plays_X5_asks : GoodIn wsX5_plays wsX5_asks := goodIn_r _ [31, 3, 32, 33, 8, 34, 35, 36, 37, 38, 39, 40, 41, 42, 43, 44, 45, 46, 47, 48, 49, 50, 51, 52, 53, 54] (by decide +kernel) (by decide +kernel)
set_option maxRecDepth 20000 in
theorem gX5_plays_X5_asks : GoodIn wsX5_plays (wsV RX5 94 RX5 yX5_asks wsX5_asks) := goodIn_app (goodIn_of _ (by decide +kernel)) ggX5_plays_X5_asks
theorem dX5_plays_0 : decode cX5_plays 0 = .ok (.aload_n 0, 1) := by decide +kernel
theorem dX5_plays_1 : decode cX5_plays 1 = .ok (.aload_n 0, 1) := by decide +kernel
theorem dX5_plays_2 : decode cX5_plays 2 = .ok (.getfield 157, 3) := by decide +kernel
theorem dX5_plays_5 : decode cX5_plays 5 = .ok (.invokevirtual 84, 3) := by decide +kernel
theorem dX5_plays_8 : decode cX5_plays 8 = .ok (.ifCond .ne 5, 3) := by decide +kernel
theorem dX5_plays_11 : decode cX5_plays 11 = .ok (.iconst 0, 1) := by decide +kernel
theorem dX5_plays_12 : decode cX5_plays 12 = .ok (.ireturn, 1) := by decide +kernel
theorem dX5_plays_13 : decode cX5_plays 13 = .ok (.aload_n 0, 1) := by decide +kernel
theorem dX5_plays_14 : decode cX5_plays 14 = .ok (.getfield 151, 3) := by decide +kernel
theorem dX5_plays_17 : decode cX5_plays 17 = .ok (.bipush 103, 2) := by decide +kernel
theorem dX5_plays_19 : decode cX5_plays 19 = .ok (.if_icmp .eq 12, 3) := by decide +kernel
theorem dX5_plays_22 : decode cX5_plays 22 = .ok (.aload_n 0, 1) := by decide +kernel
theorem dX5_plays_23 : decode cX5_plays 23 = .ok (.getfield 151, 3) := by decide +kernel
theorem dX5_plays_26 : decode cX5_plays 26 = .ok (.bipush 112, 2) := by decide +kernel
theorem dX5_plays_28 : decode cX5_plays 28 = .ok (.if_icmp .ne 63, 3) := by decide +kernel
theorem dX5_plays_31 : decode cX5_plays 31 = .ok (.aload_n 0, 1) := by decide +kernel
theorem dX5_plays_32 : decode cX5_plays 32 = .ok (.aload_n 0, 1) := by decide +kernel
theorem dX5_plays_33 : decode cX5_plays 33 = .ok (.getfield 157, 3) := by decide +kernel
theorem dX5_plays_36 : decode cX5_plays 36 = .ok (.invokevirtual 101, 3) := by decide +kernel
theorem dX5_plays_39 : decode cX5_plays 39 = .ok (.istore_n 1, 1) := by decide +kernel
theorem dX5_plays_40 : decode cX5_plays 40 = .ok (.iload_n 1, 1) := by decide +kernel
theorem dX5_plays_41 : decode cX5_plays 41 = .ok (.ifCond .eq 28, 3) := by decide +kernel
theorem dX5_plays_44 : decode cX5_plays 44 = .ok (.aload_n 0, 1) := by decide +kernel
theorem dX5_plays_45 : decode cX5_plays 45 = .ok (.getfield 151, 3) := by decide +kernel
theorem dX5_plays_48 : decode cX5_plays 48 = .ok (.bipush 103, 2) := by decide +kernel
theorem dX5_plays_50 : decode cX5_plays 50 = .ok (.if_icmp .ne 19, 3) := by decide +kernel
theorem dX5_plays_53 : decode cX5_plays 53 = .ok (.aload_n 0, 1) := by decide +kernel
theorem dX5_plays_54 : decode cX5_plays 54 = .ok (.getfield 7, 3) := by decide +kernel
theorem dX5_plays_57 : decode cX5_plays 57 = .ok (.bipush 17, 2) := by decide +kernel
theorem dX5_plays_59 : decode cX5_plays 59 = .ok (.aload_n 0, 1) := by decide +kernel
theorem dX5_plays_60 : decode cX5_plays 60 = .ok (.getfield 157, 3) := by decide +kernel
theorem dX5_plays_63 : decode cX5_plays 63 = .ok (.iadd, 1) := by decide +kernel
theorem dX5_plays_64 : decode cX5_plays 64 = .ok (.iconst 0, 1) := by decide +kernel
theorem dX5_plays_65 : decode cX5_plays 65 = .ok (.iastore, 1) := by decide +kernel
theorem dX5_plays_66 : decode cX5_plays 66 = .ok (.goto 23, 3) := by decide +kernel
theorem dX5_plays_69 : decode cX5_plays 69 = .ok (.iload_n 1, 1) := by decide +kernel
theorem dX5_plays_70 : decode cX5_plays 70 = .ok (.ifCond .eq 19, 3) := by decide +kernel
theorem dX5_plays_73 : decode cX5_plays 73 = .ok (.aload_n 0, 1) := by decide +kernel
theorem dX5_plays_74 : decode cX5_plays 74 = .ok (.aload_n 0, 1) := by decide +kernel
theorem dX5_plays_75 : decode cX5_plays 75 = .ok (.getfield 157, 3) := by decide +kernel
theorem dX5_plays_78 : decode cX5_plays 78 = .ok (.aload_n 0, 1) := by decide +kernel
theorem dX5_plays_79 : decode cX5_plays 79 = .ok (.getfield 160, 3) := by decide +kernel
theorem dX5_plays_82 : decode cX5_plays 82 = .ok (.invokestatic 163, 3) := by decide +kernel
theorem dX5_plays_85 : decode cX5_plays 85 = .ok (.invokevirtual 104, 3) := by decide +kernel
theorem dX5_plays_88 : decode cX5_plays 88 = .ok (.istore_n 2, 1) := by decide +kernel
theorem dX5_plays_89 : decode cX5_plays 89 = .ok (.iload_n 1, 1) := by decide +kernel
theorem dX5_plays_90 : decode cX5_plays 90 = .ok (.ireturn, 1) := by decide +kernel
theorem dX5_plays_91 : decode cX5_plays 91 = .ok (.aload_n 0, 1) := by decide +kernel
theorem dX5_plays_92 : decode cX5_plays 92 = .ok (.aload_n 0, 1) := by decide +kernel
theorem dX5_plays_93 : decode cX5_plays 93 = .ok (.getfield 157, 3) := by decide +kernel
theorem dX5_plays_96 : decode cX5_plays 96 = .ok (.aload_n 0, 1) := by decide +kernel
theorem dX5_plays_97 : decode cX5_plays 97 = .ok (.getfield 151, 3) := by decide +kernel
theorem dX5_plays_100 : decode cX5_plays 100 = .ok (.bipush 108, 2) := by decide +kernel
theorem dX5_plays_102 : decode cX5_plays 102 = .ok (.if_icmp .ne 7, 3) := by decide +kernel
theorem dX5_plays_105 : decode cX5_plays 105 = .ok (.iconst 1, 1) := by decide +kernel
theorem dX5_plays_106 : decode cX5_plays 106 = .ok (.goto 4, 3) := by decide +kernel
theorem dX5_plays_109 : decode cX5_plays 109 = .ok (.iconst 0, 1) := by decide +kernel
theorem dX5_plays_110 : decode cX5_plays 110 = .ok (.invokevirtual 90, 3) := by decide +kernel
theorem dX5_plays_113 : decode cX5_plays 113 = .ok (.istore_n 1, 1) := by decide +kernel
theorem dX5_plays_114 : decode cX5_plays 114 = .ok (.iload_n 1, 1) := by decide +kernel
theorem dX5_plays_115 : decode cX5_plays 115 = .ok (.ifCond .eq 30, 3) := by decide +kernel
theorem dX5_plays_118 : decode cX5_plays 118 = .ok (.aload_n 0, 1) := by decide +kernel
theorem dX5_plays_119 : decode cX5_plays 119 = .ok (.aload_n 0, 1) := by decide +kernel
theorem dX5_plays_120 : decode cX5_plays 120 = .ok (.getfield 157, 3) := by decide +kernel
theorem dX5_plays_123 : decode cX5_plays 123 = .ok (.aload_n 0, 1) := by decide +kernel
theorem dX5_plays_124 : decode cX5_plays 124 = .ok (.getfield 160, 3) := by decide +kernel
theorem dX5_plays_127 : decode cX5_plays 127 = .ok (.aload_n 0, 1) := by decide +kernel
theorem dX5_plays_128 : decode cX5_plays 128 = .ok (.getfield 151, 3) := by decide +kernel
theorem dX5_plays_131 : decode cX5_plays 131 = .ok (.bipush 108, 2) := by decide +kernel
theorem dX5_plays_133 : decode cX5_plays 133 = .ok (.if_icmp .ne 7, 3) := by decide +kernel
theorem dX5_plays_136 : decode cX5_plays 136 = .ok (.iconst 1, 1) := by decide +kernel
theorem dX5_plays_137 : decode cX5_plays 137 = .ok (.goto 4, 3) := by decide +kernel
theorem dX5_plays_140 : decode cX5_plays 140 = .ok (.iconst 0, 1) := by decide +kernel
theorem dX5_plays_141 : decode cX5_plays 141 = .ok (.invokevirtual 94, 3) := by decide +kernel
theorem dX5_plays_144 : decode cX5_plays 144 = .ok (.istore_n 2, 1) := by decide +kernel
theorem dX5_plays_145 : decode cX5_plays 145 = .ok (.iload_n 1, 1) := by decide +kernel
theorem dX5_plays_146 : decode cX5_plays 146 = .ok (.ireturn, 1) := by decide +kernel
set_option maxRecDepth 20000 in
theorem ggX5_play_X5_reads : GoodIn wsX5_play wsX5_reads := goodIn_r _ [8, 9, 2, 10, 11, 12, 13, 14, 15, 7, 16, 3, 17, 18, 19, 20, 21, 22, 23, 61, 62, 63, 64, 65, 66, 67, 68, 69, 70, 71, 72, 73, 74, 75, 76, 77, 78, 79, 80] (by decide +kernel) (by decide +kernel)
set_option maxRecDepth 20000 in
theorem gX5_play_X5_reads : GoodIn wsX5_play (wsV RX5 166 RX5 yX5_reads wsX5_reads) := goodIn_app (goodIn_of _ (by decide +kernel)) ggX5_play_X5_reads
set_option maxRecDepth 20000 in
theorem ggX5_play_X5_saves : GoodIn wsX5_play wsX5_saves := goodIn_r _ [27, 28, 29, 30, 61, 62, 63, 64, 65, 66, 67, 68, 69, 70, 71, 72, 73, 74, 75, 76, 77, 78, 79, 80] (by decide +kernel) (by decide +kernel)
set_option maxRecDepth 20000 in
theorem gX5_play_X5_saves : GoodIn wsX5_play (wsV RX5 70 RX5 yX5_saves wsX5_saves) := goodIn_app (goodIn_of _ (by decide +kernel)) ggX5_play_X5_saves
set_option maxRecDepth 20000 in
theorem ggX5_play_X5_plays : GoodIn wsX5_play wsX5_plays := goodIn_r _ [34, 11, 10, 30, 12, 35, 36, 37, 7, 38, 17, 18, 19, 39, 40, 41, 42, 43, 44, 45, 46, 47, 48, 49, 50, 51, 52, 53, 54, 55, 56, 57, 58, 59, 60, 61, 62, 63, 64, 65, 66, 67, 68, 69, 70, 71, 72, 73, 74, 75, 76, 77, 78, 79, 80] (by decide +kernel) (by decide +kernel)
set_option maxRecDepth 20000 in
theorem gX5_play_X5_plays : GoodIn wsX5_play (wsV RX5 169 RX5 yX5_plays wsX5_plays) := goodIn_app (goodIn_of _ (by decide +kernel)) ggX5_play_X5_plays
theorem dX5_play_0 : decode cX5_play 0 = .ok (.aload_n 0, 1) := by decide +kernel
theorem dX5_play_1 : decode cX5_play 1 = .ok (.iconst 0, 1) := by decide +kernel
theorem dX5_play_2 : decode cX5_play 2 = .ok (.putfield 43, 3) := by decide +kernel
theorem dX5_play_5 : decode cX5_play 5 = .ok (.aload_n 0, 1) := by decide +kernel
theorem dX5_play_6 : decode cX5_play 6 = .ok (.iconst 0, 1) := by decide +kernel
theorem dX5_play_7 : decode cX5_play 7 = .ok (.putfield 145, 3) := by decide +kernel
theorem dX5_play_10 : decode cX5_play 10 = .ok (.aload_n 0, 1) := by decide +kernel
theorem dX5_play_11 : decode cX5_play 11 = .ok (.getfield 145, 3) := by decide +kernel
theorem dX5_play_14 : decode cX5_play 14 = .ok (.aload_n 0, 1) := by decide +kernel
theorem dX5_play_15 : decode cX5_play 15 = .ok (.getfield 142, 3) := by decide +kernel
theorem dX5_play_18 : decode cX5_play 18 = .ok (.if_icmp .ge 18, 3) := by decide +kernel
theorem dX5_play_21 : decode cX5_play 21 = .ok (.aload_n 0, 1) := by decide +kernel
theorem dX5_play_22 : decode cX5_play 22 = .ok (.invokevirtual 166, 3) := by decide +kernel
theorem dX5_play_25 : decode cX5_play 25 = .ok (.ifCond .ne (-15), 3) := by decide +kernel
theorem dX5_play_28 : decode cX5_play 28 = .ok (.bipush (-10), 2) := by decide +kernel
theorem dX5_play_30 : decode cX5_play 30 = .ok (.aload_n 0, 1) := by decide +kernel
theorem dX5_play_31 : decode cX5_play 31 = .ok (.getfield 145, 3) := by decide +kernel
theorem dX5_play_34 : decode cX5_play 34 = .ok (.isub, 1) := by decide +kernel
theorem dX5_play_35 : decode cX5_play 35 = .ok (.ireturn, 1) := by decide +kernel
theorem dX5_play_36 : decode cX5_play 36 = .ok (.aload_n 0, 1) := by decide +kernel
theorem dX5_play_37 : decode cX5_play 37 = .ok (.invokevirtual 70, 3) := by decide +kernel
theorem dX5_play_40 : decode cX5_play 40 = .ok (.aload_n 0, 1) := by decide +kernel
theorem dX5_play_41 : decode cX5_play 41 = .ok (.iconst 0, 1) := by decide +kernel
theorem dX5_play_42 : decode cX5_play 42 = .ok (.putfield 145, 3) := by decide +kernel
theorem dX5_play_45 : decode cX5_play 45 = .ok (.iconst 0, 1) := by decide +kernel
theorem dX5_play_46 : decode cX5_play 46 = .ok (.istore_n 1, 1) := by decide +kernel
theorem dX5_play_47 : decode cX5_play 47 = .ok (.iconst 1, 1) := by decide +kernel
theorem dX5_play_48 : decode cX5_play 48 = .ok (.istore_n 2, 1) := by decide +kernel
theorem dX5_play_49 : decode cX5_play 49 = .ok (.aload_n 0, 1) := by decide +kernel
theorem dX5_play_50 : decode cX5_play 50 = .ok (.getfield 145, 3) := by decide +kernel
theorem dX5_play_53 : decode cX5_play 53 = .ok (.aload_n 0, 1) := by decide +kernel
theorem dX5_play_54 : decode cX5_play 54 = .ok (.getfield 142, 3) := by decide +kernel
theorem dX5_play_57 : decode cX5_play 57 = .ok (.if_icmp .ge 32, 3) := by decide +kernel
theorem dX5_play_60 : decode cX5_play 60 = .ok (.iload_n 2, 1) := by decide +kernel
theorem dX5_play_61 : decode cX5_play 61 = .ok (.ifCond .eq 28, 3) := by decide +kernel
theorem dX5_play_64 : decode cX5_play 64 = .ok (.aload_n 0, 1) := by decide +kernel
theorem dX5_play_65 : decode cX5_play 65 = .ok (.invokevirtual 166, 3) := by decide +kernel
theorem dX5_play_68 : decode cX5_play 68 = .ok (.istore_n 3, 1) := by decide +kernel
theorem dX5_play_69 : decode cX5_play 69 = .ok (.aload_n 0, 1) := by decide +kernel
theorem dX5_play_70 : decode cX5_play 70 = .ok (.invokevirtual 169, 3) := by decide +kernel
theorem dX5_play_73 : decode cX5_play 73 = .ok (.istore_n 2, 1) := by decide +kernel
theorem dX5_play_74 : decode cX5_play 74 = .ok (.iload_n 1, 1) := by decide +kernel
theorem dX5_play_75 : decode cX5_play 75 = .ok (.iload_n 2, 1) := by decide +kernel
theorem dX5_play_76 : decode cX5_play 76 = .ok (.ifCond .eq 7, 3) := by decide +kernel
theorem dX5_play_79 : decode cX5_play 79 = .ok (.iconst 1, 1) := by decide +kernel
theorem dX5_play_80 : decode cX5_play 80 = .ok (.goto 4, 3) := by decide +kernel
theorem dX5_play_83 : decode cX5_play 83 = .ok (.iconst 0, 1) := by decide +kernel
theorem dX5_play_84 : decode cX5_play 84 = .ok (.iadd, 1) := by decide +kernel
theorem dX5_play_85 : decode cX5_play 85 = .ok (.istore_n 1, 1) := by decide +kernel
theorem dX5_play_86 : decode cX5_play 86 = .ok (.goto (-37), 3) := by decide +kernel
theorem dX5_play_89 : decode cX5_play 89 = .ok (.iload_n 1, 1) := by decide +kernel
theorem dX5_play_90 : decode cX5_play 90 = .ok (.ireturn, 1) := by decide +kernel
theorem dX5_mix_0 : decode cX5_mix 0 = .ok (.aload_n 0, 1) := by decide +kernel
theorem dX5_mix_1 : decode cX5_mix 1 = .ok (.ldc2_w 172, 3) := by decide +kernel
theorem dX5_mix_4 : decode cX5_mix 4 = .ok (.aload_n 0, 1) := by decide +kernel
theorem dX5_mix_5 : decode cX5_mix 5 = .ok (.getfield 174, 3) := by decide +kernel
theorem dX5_mix_8 : decode cX5_mix 8 = .ok (.lmul, 1) := by decide +kernel
theorem dX5_mix_9 : decode cX5_mix 9 = .ok (.iload_n 1, 1) := by decide +kernel
theorem dX5_mix_10 : decode cX5_mix 10 = .ok (.i2l, 1) := by decide +kernel
theorem dX5_mix_11 : decode cX5_mix 11 = .ok (.ladd, 1) := by decide +kernel
theorem dX5_mix_12 : decode cX5_mix 12 = .ok (.putfield 174, 3) := by decide +kernel
theorem dX5_mix_15 : decode cX5_mix 15 = .ok (.return_, 1) := by decide +kernel
set_option maxRecDepth 20000 in
theorem ggX5_digest_X5_countsAll : GoodIn wsX5_digest wsX5_countsAll := goodIn_r _ [13, 6, 7, 14, 15, 16, 17, 18, 5, 19, 20, 21, 12, 22, 23, 24, 25, 26, 27, 28, 29, 30, 31, 32, 33, 34, 35, 53, 54, 55, 56, 57, 58, 59, 60, 61, 62, 63, 64, 65, 66, 67, 68, 69, 70, 71, 72] (by decide +kernel) (by decide +kernel)
set_option maxRecDepth 20000 in
theorem gX5_digest_X5_countsAll : GoodIn wsX5_digest (wsV RX5 126 RX5 yX5_countsAll wsX5_countsAll) := goodIn_app (goodIn_of _ (by decide +kernel)) ggX5_digest_X5_countsAll
set_option maxRecDepth 20000 in
theorem ggX5_digest_X5_mix : GoodIn wsX5_digest wsX5_mix := goodIn_r _ [39, 40, 3, 53, 54, 55, 56, 57, 58, 59, 60, 61, 62, 63, 64, 65, 66, 67, 68, 69, 70, 71, 72] (by decide +kernel) (by decide +kernel)
set_option maxRecDepth 20000 in
theorem gX5_digest_X5_mix : GoodIn wsX5_digest (wsV RX5 180 RX5 yX5_mix wsX5_mix) := goodIn_app (goodIn_of _ (by decide +kernel)) ggX5_digest_X5_mix
set_option maxRecDepth 20000 in
theorem ggX5_digest_X5_tellValue : GoodIn wsX5_digest wsX5_tellValue := goodIn_r _ [44, 5, 45, 46, 47, 12, 48, 53, 54, 55, 56, 57, 58, 59, 60, 61, 62, 63, 64, 65, 66, 67, 68, 69, 70, 71, 72] (by decide +kernel) (by decide +kernel)
set_option maxRecDepth 20000 in
theorem gX5_digest_X5_tellValue : GoodIn wsX5_digest (wsV RX5 133 RX5 yX5_tellValue wsX5_tellValue) := goodIn_app (goodIn_of _ (by decide +kernel)) ggX5_digest_X5_tellValue
set_option maxRecDepth 20000 in
theorem ggX5_digest_X5_tellGuest : GoodIn wsX5_digest wsX5_tellGuest := goodIn_r _ [52, 5, 6, 16, 17, 18, 53, 54, 55, 56, 57, 58, 59, 60, 61, 62, 63, 64, 65, 66, 67, 68, 69, 70, 71, 72] (by decide +kernel) (by decide +kernel)
set_option maxRecDepth 20000 in
theorem gX5_digest_X5_tellGuest : GoodIn wsX5_digest (wsV RX5 130 RX5 yX5_tellGuest wsX5_tellGuest) := goodIn_app (goodIn_of _ (by decide +kernel)) ggX5_digest_X5_tellGuest
theorem dX5_digest_0 : decode cX5_digest 0 = .ok (.aload_n 0, 1) := by decide +kernel
theorem dX5_digest_1 : decode cX5_digest 1 = .ok (.iconst 0, 1) := by decide +kernel
theorem dX5_digest_2 : decode cX5_digest 2 = .ok (.putfield 43, 3) := by decide +kernel
theorem dX5_digest_5 : decode cX5_digest 5 = .ok (.aload_n 0, 1) := by decide +kernel
theorem dX5_digest_6 : decode cX5_digest 6 = .ok (.iconst (-1), 1) := by decide +kernel
theorem dX5_digest_7 : decode cX5_digest 7 = .ok (.invokevirtual 126, 3) := by decide +kernel
theorem dX5_digest_10 : decode cX5_digest 10 = .ok (.aload_n 0, 1) := by decide +kernel
theorem dX5_digest_11 : decode cX5_digest 11 = .ok (.ldc2_w 178, 3) := by decide +kernel
theorem dX5_digest_14 : decode cX5_digest 14 = .ok (.putfield 174, 3) := by decide +kernel
theorem dX5_digest_17 : decode cX5_digest 17 = .ok (.aload_n 0, 1) := by decide +kernel
theorem dX5_digest_18 : decode cX5_digest 18 = .ok (.aload_n 0, 1) := by decide +kernel
theorem dX5_digest_19 : decode cX5_digest 19 = .ok (.getfield 142, 3) := by decide +kernel
theorem dX5_digest_22 : decode cX5_digest 22 = .ok (.invokevirtual 180, 3) := by decide +kernel
theorem dX5_digest_25 : decode cX5_digest 25 = .ok (.iconst 0, 1) := by decide +kernel
theorem dX5_digest_26 : decode cX5_digest 26 = .ok (.istore_n 1, 1) := by decide +kernel
theorem dX5_digest_27 : decode cX5_digest 27 = .ok (.iload_n 1, 1) := by decide +kernel
theorem dX5_digest_28 : decode cX5_digest 28 = .ok (.bipush 10, 2) := by decide +kernel
theorem dX5_digest_30 : decode cX5_digest 30 = .ok (.if_icmp .ge 18, 3) := by decide +kernel
theorem dX5_digest_33 : decode cX5_digest 33 = .ok (.aload_n 0, 1) := by decide +kernel
theorem dX5_digest_34 : decode cX5_digest 34 = .ok (.aload_n 0, 1) := by decide +kernel
theorem dX5_digest_35 : decode cX5_digest 35 = .ok (.iload_n 1, 1) := by decide +kernel
theorem dX5_digest_36 : decode cX5_digest 36 = .ok (.invokevirtual 133, 3) := by decide +kernel
theorem dX5_digest_39 : decode cX5_digest 39 = .ok (.invokevirtual 180, 3) := by decide +kernel
theorem dX5_digest_42 : decode cX5_digest 42 = .ok (.iinc 1 1, 3) := by decide +kernel
theorem dX5_digest_45 : decode cX5_digest 45 = .ok (.goto (-18), 3) := by decide +kernel
theorem dX5_digest_48 : decode cX5_digest 48 = .ok (.iconst 0, 1) := by decide +kernel
theorem dX5_digest_49 : decode cX5_digest 49 = .ok (.istore_n 1, 1) := by decide +kernel
theorem dX5_digest_50 : decode cX5_digest 50 = .ok (.iload_n 1, 1) := by decide +kernel
theorem dX5_digest_51 : decode cX5_digest 51 = .ok (.bipush 8, 2) := by decide +kernel
theorem dX5_digest_53 : decode cX5_digest 53 = .ok (.aload_n 0, 1) := by decide +kernel
theorem dX5_digest_54 : decode cX5_digest 54 = .ok (.getfield 7, 3) := by decide +kernel
theorem dX5_digest_57 : decode cX5_digest 57 = .ok (.iconst 0, 1) := by decide +kernel
theorem dX5_digest_58 : decode cX5_digest 58 = .ok (.iaload, 1) := by decide +kernel
theorem dX5_digest_59 : decode cX5_digest 59 = .ok (.imul, 1) := by decide +kernel
theorem dX5_digest_60 : decode cX5_digest 60 = .ok (.if_icmp .ge 25, 3) := by decide +kernel
theorem dX5_digest_63 : decode cX5_digest 63 = .ok (.aload_n 0, 1) := by decide +kernel
theorem dX5_digest_64 : decode cX5_digest 64 = .ok (.aload_n 0, 1) := by decide +kernel
theorem dX5_digest_65 : decode cX5_digest 65 = .ok (.iload_n 1, 1) := by decide +kernel
theorem dX5_digest_66 : decode cX5_digest 66 = .ok (.bipush 8, 2) := by decide +kernel
theorem dX5_digest_68 : decode cX5_digest 68 = .ok (.idiv, 1) := by decide +kernel
theorem dX5_digest_69 : decode cX5_digest 69 = .ok (.iload_n 1, 1) := by decide +kernel
theorem dX5_digest_70 : decode cX5_digest 70 = .ok (.bipush 8, 2) := by decide +kernel
theorem dX5_digest_72 : decode cX5_digest 72 = .ok (.irem, 1) := by decide +kernel
theorem dX5_digest_73 : decode cX5_digest 73 = .ok (.invokevirtual 130, 3) := by decide +kernel
theorem dX5_digest_76 : decode cX5_digest 76 = .ok (.invokevirtual 180, 3) := by decide +kernel
theorem dX5_digest_79 : decode cX5_digest 79 = .ok (.iinc 1 1, 3) := by decide +kernel
theorem dX5_digest_82 : decode cX5_digest 82 = .ok (.goto (-32), 3) := by decide +kernel
theorem dX5_digest_85 : decode cX5_digest 85 = .ok (.iconst 0, 1) := by decide +kernel
theorem dX5_digest_86 : decode cX5_digest 86 = .ok (.istore_n 1, 1) := by decide +kernel
theorem dX5_digest_87 : decode cX5_digest 87 = .ok (.iload_n 1, 1) := by decide +kernel
theorem dX5_digest_88 : decode cX5_digest 88 = .ok (.iconst 3, 1) := by decide +kernel
theorem dX5_digest_89 : decode cX5_digest 89 = .ok (.aload_n 0, 1) := by decide +kernel
theorem dX5_digest_90 : decode cX5_digest 90 = .ok (.getfield 7, 3) := by decide +kernel
theorem dX5_digest_93 : decode cX5_digest 93 = .ok (.bipush 7, 2) := by decide +kernel
theorem dX5_digest_95 : decode cX5_digest 95 = .ok (.iaload, 1) := by decide +kernel
theorem dX5_digest_96 : decode cX5_digest 96 = .ok (.imul, 1) := by decide +kernel
theorem dX5_digest_97 : decode cX5_digest 97 = .ok (.if_icmp .ge 22, 3) := by decide +kernel
theorem dX5_digest_100 : decode cX5_digest 100 = .ok (.aload_n 0, 1) := by decide +kernel
theorem dX5_digest_101 : decode cX5_digest 101 = .ok (.aload_n 0, 1) := by decide +kernel
theorem dX5_digest_102 : decode cX5_digest 102 = .ok (.getfield 7, 3) := by decide +kernel
theorem dX5_digest_105 : decode cX5_digest 105 = .ok (.bipush 41, 2) := by decide +kernel
theorem dX5_digest_107 : decode cX5_digest 107 = .ok (.iload_n 1, 1) := by decide +kernel
theorem dX5_digest_108 : decode cX5_digest 108 = .ok (.iadd, 1) := by decide +kernel
theorem dX5_digest_109 : decode cX5_digest 109 = .ok (.iaload, 1) := by decide +kernel
theorem dX5_digest_110 : decode cX5_digest 110 = .ok (.invokevirtual 180, 3) := by decide +kernel
theorem dX5_digest_113 : decode cX5_digest 113 = .ok (.iinc 1 1, 3) := by decide +kernel
theorem dX5_digest_116 : decode cX5_digest 116 = .ok (.goto (-29), 3) := by decide +kernel
theorem dX5_digest_119 : decode cX5_digest 119 = .ok (.aload_n 0, 1) := by decide +kernel
theorem dX5_digest_120 : decode cX5_digest 120 = .ok (.aload_n 0, 1) := by decide +kernel
theorem dX5_digest_121 : decode cX5_digest 121 = .ok (.getfield 116, 3) := by decide +kernel
theorem dX5_digest_124 : decode cX5_digest 124 = .ok (.invokevirtual 180, 3) := by decide +kernel
theorem dX5_digest_127 : decode cX5_digest 127 = .ok (.iconst 0, 1) := by decide +kernel
theorem dX5_digest_128 : decode cX5_digest 128 = .ok (.istore_n 1, 1) := by decide +kernel
theorem dX5_digest_129 : decode cX5_digest 129 = .ok (.iload_n 1, 1) := by decide +kernel
theorem dX5_digest_130 : decode cX5_digest 130 = .ok (.bipush 8, 2) := by decide +kernel
theorem dX5_digest_132 : decode cX5_digest 132 = .ok (.if_icmp .ge 19, 3) := by decide +kernel
theorem dX5_digest_135 : decode cX5_digest 135 = .ok (.aload_n 0, 1) := by decide +kernel
theorem dX5_digest_136 : decode cX5_digest 136 = .ok (.aload_n 0, 1) := by decide +kernel
theorem dX5_digest_137 : decode cX5_digest 137 = .ok (.getfield 19, 3) := by decide +kernel
theorem dX5_digest_140 : decode cX5_digest 140 = .ok (.iload_n 1, 1) := by decide +kernel
theorem dX5_digest_141 : decode cX5_digest 141 = .ok (.iaload, 1) := by decide +kernel
theorem dX5_digest_142 : decode cX5_digest 142 = .ok (.invokevirtual 180, 3) := by decide +kernel
theorem dX5_digest_145 : decode cX5_digest 145 = .ok (.iinc 1 1, 3) := by decide +kernel
theorem dX5_digest_148 : decode cX5_digest 148 = .ok (.goto (-19), 3) := by decide +kernel
theorem dX5_digest_151 : decode cX5_digest 151 = .ok (.aload_n 0, 1) := by decide +kernel
theorem dX5_digest_152 : decode cX5_digest 152 = .ok (.aload_n 0, 1) := by decide +kernel
theorem dX5_digest_153 : decode cX5_digest 153 = .ok (.getfield 47, 3) := by decide +kernel
theorem dX5_digest_156 : decode cX5_digest 156 = .ok (.invokevirtual 180, 3) := by decide +kernel
theorem dX5_digest_159 : decode cX5_digest 159 = .ok (.aload_n 0, 1) := by decide +kernel
theorem dX5_digest_160 : decode cX5_digest 160 = .ok (.getfield 174, 3) := by decide +kernel
theorem dX5_digest_163 : decode cX5_digest 163 = .ok (.lreturn, 1) := by decide +kernel
theorem dJ6_bitCount_0f7a4_0 : decode cJ6_bitCount_0f7a4 0 = .ok (.iload_n 0, 1) := by decide +kernel
theorem dJ6_bitCount_0f7a4_1 : decode cJ6_bitCount_0f7a4 1 = .ok (.iload_n 0, 1) := by decide +kernel
theorem dJ6_bitCount_0f7a4_2 : decode cJ6_bitCount_0f7a4 2 = .ok (.iconst 1, 1) := by decide +kernel
theorem dJ6_bitCount_0f7a4_3 : decode cJ6_bitCount_0f7a4 3 = .ok (.iushr, 1) := by decide +kernel
theorem dJ6_bitCount_0f7a4_4 : decode cJ6_bitCount_0f7a4 4 = .ok (.ldc_w 265, 3) := by decide +kernel
theorem dJ6_bitCount_0f7a4_7 : decode cJ6_bitCount_0f7a4 7 = .ok (.iand, 1) := by decide +kernel
theorem dJ6_bitCount_0f7a4_8 : decode cJ6_bitCount_0f7a4 8 = .ok (.isub, 1) := by decide +kernel
theorem dJ6_bitCount_0f7a4_9 : decode cJ6_bitCount_0f7a4 9 = .ok (.istore_n 0, 1) := by decide +kernel
theorem dJ6_bitCount_0f7a4_10 : decode cJ6_bitCount_0f7a4 10 = .ok (.iload_n 0, 1) := by decide +kernel
theorem dJ6_bitCount_0f7a4_11 : decode cJ6_bitCount_0f7a4 11 = .ok (.ldc_w 266, 3) := by decide +kernel
theorem dJ6_bitCount_0f7a4_14 : decode cJ6_bitCount_0f7a4 14 = .ok (.iand, 1) := by decide +kernel
theorem dJ6_bitCount_0f7a4_15 : decode cJ6_bitCount_0f7a4 15 = .ok (.iload_n 0, 1) := by decide +kernel
theorem dJ6_bitCount_0f7a4_16 : decode cJ6_bitCount_0f7a4 16 = .ok (.iconst 2, 1) := by decide +kernel
theorem dJ6_bitCount_0f7a4_17 : decode cJ6_bitCount_0f7a4 17 = .ok (.iushr, 1) := by decide +kernel
theorem dJ6_bitCount_0f7a4_18 : decode cJ6_bitCount_0f7a4 18 = .ok (.ldc_w 266, 3) := by decide +kernel
theorem dJ6_bitCount_0f7a4_21 : decode cJ6_bitCount_0f7a4 21 = .ok (.iand, 1) := by decide +kernel
theorem dJ6_bitCount_0f7a4_22 : decode cJ6_bitCount_0f7a4 22 = .ok (.iadd, 1) := by decide +kernel
theorem dJ6_bitCount_0f7a4_23 : decode cJ6_bitCount_0f7a4 23 = .ok (.istore_n 0, 1) := by decide +kernel
theorem dJ6_bitCount_0f7a4_24 : decode cJ6_bitCount_0f7a4 24 = .ok (.iload_n 0, 1) := by decide +kernel
theorem dJ6_bitCount_0f7a4_25 : decode cJ6_bitCount_0f7a4 25 = .ok (.iload_n 0, 1) := by decide +kernel
theorem dJ6_bitCount_0f7a4_26 : decode cJ6_bitCount_0f7a4 26 = .ok (.iconst 4, 1) := by decide +kernel
theorem dJ6_bitCount_0f7a4_27 : decode cJ6_bitCount_0f7a4 27 = .ok (.iushr, 1) := by decide +kernel
theorem dJ6_bitCount_0f7a4_28 : decode cJ6_bitCount_0f7a4 28 = .ok (.iadd, 1) := by decide +kernel
theorem dJ6_bitCount_0f7a4_29 : decode cJ6_bitCount_0f7a4 29 = .ok (.ldc_w 267, 3) := by decide +kernel
theorem dJ6_bitCount_0f7a4_32 : decode cJ6_bitCount_0f7a4 32 = .ok (.iand, 1) := by decide +kernel
theorem dJ6_bitCount_0f7a4_33 : decode cJ6_bitCount_0f7a4 33 = .ok (.istore_n 0, 1) := by decide +kernel
theorem dJ6_bitCount_0f7a4_34 : decode cJ6_bitCount_0f7a4 34 = .ok (.iload_n 0, 1) := by decide +kernel
theorem dJ6_bitCount_0f7a4_35 : decode cJ6_bitCount_0f7a4 35 = .ok (.iload_n 0, 1) := by decide +kernel
theorem dJ6_bitCount_0f7a4_36 : decode cJ6_bitCount_0f7a4 36 = .ok (.bipush 8, 2) := by decide +kernel
theorem dJ6_bitCount_0f7a4_38 : decode cJ6_bitCount_0f7a4 38 = .ok (.iushr, 1) := by decide +kernel
theorem dJ6_bitCount_0f7a4_39 : decode cJ6_bitCount_0f7a4 39 = .ok (.iadd, 1) := by decide +kernel
theorem dJ6_bitCount_0f7a4_40 : decode cJ6_bitCount_0f7a4 40 = .ok (.istore_n 0, 1) := by decide +kernel
theorem dJ6_bitCount_0f7a4_41 : decode cJ6_bitCount_0f7a4 41 = .ok (.iload_n 0, 1) := by decide +kernel
theorem dJ6_bitCount_0f7a4_42 : decode cJ6_bitCount_0f7a4 42 = .ok (.iload_n 0, 1) := by decide +kernel
theorem dJ6_bitCount_0f7a4_43 : decode cJ6_bitCount_0f7a4 43 = .ok (.bipush 16, 2) := by decide +kernel
theorem dJ6_bitCount_0f7a4_45 : decode cJ6_bitCount_0f7a4 45 = .ok (.iushr, 1) := by decide +kernel
theorem dJ6_bitCount_0f7a4_46 : decode cJ6_bitCount_0f7a4 46 = .ok (.iadd, 1) := by decide +kernel
theorem dJ6_bitCount_0f7a4_47 : decode cJ6_bitCount_0f7a4 47 = .ok (.istore_n 0, 1) := by decide +kernel
theorem dJ6_bitCount_0f7a4_48 : decode cJ6_bitCount_0f7a4 48 = .ok (.iload_n 0, 1) := by decide +kernel
theorem dJ6_bitCount_0f7a4_49 : decode cJ6_bitCount_0f7a4 49 = .ok (.bipush 63, 2) := by decide +kernel
theorem dJ6_bitCount_0f7a4_51 : decode cJ6_bitCount_0f7a4 51 = .ok (.iand, 1) := by decide +kernel
theorem dJ6_bitCount_0f7a4_52 : decode cJ6_bitCount_0f7a4 52 = .ok (.ireturn, 1) := by decide +kernel
theorem dJ9_max_7cf53_0 : decode cJ9_max_7cf53 0 = .ok (.iload_n 0, 1) := by decide +kernel
theorem dJ9_max_7cf53_1 : decode cJ9_max_7cf53 1 = .ok (.iload_n 1, 1) := by decide +kernel
theorem dJ9_max_7cf53_2 : decode cJ9_max_7cf53 2 = .ok (.if_icmp .lt 7, 3) := by decide +kernel
theorem dJ9_max_7cf53_5 : decode cJ9_max_7cf53 5 = .ok (.iload_n 0, 1) := by decide +kernel
theorem dJ9_max_7cf53_6 : decode cJ9_max_7cf53 6 = .ok (.goto 4, 3) := by decide +kernel
theorem dJ9_max_7cf53_9 : decode cJ9_max_7cf53 9 = .ok (.iload_n 1, 1) := by decide +kernel
theorem dJ9_max_7cf53_10 : decode cJ9_max_7cf53 10 = .ok (.ireturn, 1) := by decide +kernel
theorem dJ9_min_7cf53_0 : decode cJ9_min_7cf53 0 = .ok (.iload_n 0, 1) := by decide +kernel
theorem dJ9_min_7cf53_1 : decode cJ9_min_7cf53 1 = .ok (.iload_n 1, 1) := by decide +kernel
theorem dJ9_min_7cf53_2 : decode cJ9_min_7cf53 2 = .ok (.if_icmp .gt 7, 3) := by decide +kernel
theorem dJ9_min_7cf53_5 : decode cJ9_min_7cf53 5 = .ok (.iload_n 0, 1) := by decide +kernel
theorem dJ9_min_7cf53_6 : decode cJ9_min_7cf53 6 = .ok (.goto 4, 3) := by decide +kernel
theorem dJ9_min_7cf53_9 : decode cJ9_min_7cf53 9 = .ok (.iload_n 1, 1) := by decide +kernel
theorem dJ9_min_7cf53_10 : decode cJ9_min_7cf53 10 = .ok (.ireturn, 1) := by decide +kernel
set_option maxRecDepth 20000 in
theorem ggL_begin_X4_begin : GoodIn wsL_begin wsX4_begin := goodIn_ca (goodIn_ca (goodIn_r _ [7, 8, 9, 10, 11, 12, 13, 14, 15, 16, 17, 18, 6, 19, 20, 21, 22, 23, 24, 25, 26, 27, 28, 29, 30, 31, 32, 33, 34, 35, 36, 37, 38, 39, 40, 41, 42, 43, 44, 45, 46, 47, 48, 49, 50, 51, 52, 53, 54, 55, 56, 57, 58, 59, 60, 61, 62, 63, 64, 65, 66, 67, 68, 69, 70, 71, 72, 73, 74, 75, 76, 77, 78, 79, 80, 81, 82, 83, 84, 85, 86, 87, 88, 89, 90, 91, 92, 93, 94, 95, 96, 97, 98, 99, 100, 101, 102, 103, 104, 105, 106, 107, 108, 109, 110, 111, 112, 113, 114, 115, 116, 117, 118, 119, 120, 121, 122, 123, 124, 125, 126, 127, 128, 129, 130, 131, 132, 133, 134, 135, 136, 137, 138, 139, 140, 141, 142, 143, 144, 145, 146, 147, 148, 149, 150] (by decide +kernel) (by decide +kernel)) (goodIn_sub (fun _ h => List.mem_cons_of_mem _ (List.mem_append_left _ (List.mem_append_right _ h))) (by decide +kernel))) (goodIn_sub (fun _ h => List.mem_cons_of_mem _ (List.mem_append_right _ h)) (by decide +kernel))
set_option maxRecDepth 20000 in
theorem gL_begin_X4_begin : GoodIn wsL_begin (wsV RL 7 RX4 yX4_begin wsX4_begin) := goodIn_app (goodIn_of _ (by decide +kernel)) ggL_begin_X4_begin
theorem dL_begin_0 : decode cL_begin 0 = .ok (.aload_n 3, 1) := by decide +kernel
theorem dL_begin_1 : decode cL_begin 1 = .ok (.iconst 0, 1) := by decide +kernel
theorem dL_begin_2 : decode cL_begin 2 = .ok (.aload_n 0, 1) := by decide +kernel
theorem dL_begin_3 : decode cL_begin 3 = .ok (.iload_n 1, 1) := by decide +kernel
theorem dL_begin_4 : decode cL_begin 4 = .ok (.iload_n 2, 1) := by decide +kernel
theorem dL_begin_5 : decode cL_begin 5 = .ok (.invokevirtual 7, 3) := by decide +kernel
theorem dL_begin_8 : decode cL_begin 8 = .ok (.i2l, 1) := by decide +kernel
theorem dL_begin_9 : decode cL_begin 9 = .ok (.lastore, 1) := by decide +kernel
theorem dL_begin_10 : decode cL_begin 10 = .ok (.goto 11, 3) := by decide +kernel
theorem dL_begin_13 : decode cL_begin 13 = .ok (.astore 4, 2) := by decide +kernel
theorem dL_begin_15 : decode cL_begin 15 = .ok (.iconst 1, 1) := by decide +kernel
theorem dL_begin_16 : decode cL_begin 16 = .ok (.ireturn, 1) := by decide +kernel
theorem dL_begin_17 : decode cL_begin 17 = .ok (.astore 4, 2) := by decide +kernel
theorem dL_begin_19 : decode cL_begin 19 = .ok (.iconst 2, 1) := by decide +kernel
theorem dL_begin_20 : decode cL_begin 20 = .ok (.ireturn, 1) := by decide +kernel
theorem dL_begin_21 : decode cL_begin 21 = .ok (.iconst 0, 1) := by decide +kernel
theorem dL_begin_22 : decode cL_begin 22 = .ok (.ireturn, 1) := by decide +kernel
set_option maxRecDepth 20000 in
theorem ggL_ask_X4_ask : GoodIn wsL_ask wsX4_ask := goodIn_ca (goodIn_ca (goodIn_ca (goodIn_r _ [8, 9, 10, 11, 12, 13, 14, 15, 16, 17, 18, 19, 20, 21, 22, 23, 7, 24, 25, 26, 27, 28, 29, 30, 31, 32, 33, 34, 35, 36, 37, 38, 39, 40, 41, 42, 43, 44, 45, 46, 47, 48, 49, 50, 51, 52, 53, 54, 55, 56, 57, 58, 59, 60, 61, 62, 63, 64, 65, 66, 67, 68, 69, 70, 71, 72, 73, 74, 75, 76, 77, 78, 79, 80, 81, 82, 83, 84, 85, 86, 87, 88, 89, 90, 91, 92, 93, 94, 95, 96, 97, 98, 99, 100, 101, 102, 103, 104, 105, 106, 107, 108, 109, 110, 111, 112, 113, 114, 115, 116, 117, 118, 119, 120, 121, 122, 123, 124, 125, 126, 127, 128, 129, 130, 131, 132, 133, 134, 135, 136, 137, 138, 139, 140, 141, 142, 143, 144, 145, 146, 147, 148, 149, 150, 151, 152, 153, 154, 155] (by decide +kernel) (by decide +kernel)) (goodIn_sub (fun _ h => List.mem_cons_of_mem _ (List.mem_append_left _ (List.mem_append_left _ (List.mem_append_right _ h)))) (by decide +kernel))) (goodIn_sub (fun _ h => List.mem_cons_of_mem _ (List.mem_append_left _ (List.mem_append_right _ h))) (by decide +kernel))) (goodIn_sub (fun _ h => List.mem_cons_of_mem _ (List.mem_append_right _ h)) (by decide +kernel))
set_option maxRecDepth 20000 in
theorem gL_ask_X4_ask : GoodIn wsL_ask (wsV RL 17 RX4 yX4_ask wsX4_ask) := goodIn_app (goodIn_of _ (by decide +kernel)) ggL_ask_X4_ask
theorem dL_ask_0 : decode cL_ask 0 = .ok (.aload 4, 2) := by decide +kernel
theorem dL_ask_2 : decode cL_ask 2 = .ok (.iconst 0, 1) := by decide +kernel
theorem dL_ask_3 : decode cL_ask 3 = .ok (.aload_n 0, 1) := by decide +kernel
theorem dL_ask_4 : decode cL_ask 4 = .ok (.iload_n 1, 1) := by decide +kernel
theorem dL_ask_5 : decode cL_ask 5 = .ok (.iload_n 2, 1) := by decide +kernel
theorem dL_ask_6 : decode cL_ask 6 = .ok (.iload_n 3, 1) := by decide +kernel
theorem dL_ask_7 : decode cL_ask 7 = .ok (.invokevirtual 17, 3) := by decide +kernel
theorem dL_ask_10 : decode cL_ask 10 = .ok (.i2l, 1) := by decide +kernel
theorem dL_ask_11 : decode cL_ask 11 = .ok (.lastore, 1) := by decide +kernel
theorem dL_ask_12 : decode cL_ask 12 = .ok (.goto 15, 3) := by decide +kernel
theorem dL_ask_15 : decode cL_ask 15 = .ok (.astore 5, 2) := by decide +kernel
theorem dL_ask_17 : decode cL_ask 17 = .ok (.iconst 1, 1) := by decide +kernel
theorem dL_ask_18 : decode cL_ask 18 = .ok (.ireturn, 1) := by decide +kernel
theorem dL_ask_19 : decode cL_ask 19 = .ok (.astore 5, 2) := by decide +kernel
theorem dL_ask_21 : decode cL_ask 21 = .ok (.iconst 2, 1) := by decide +kernel
theorem dL_ask_22 : decode cL_ask 22 = .ok (.ireturn, 1) := by decide +kernel
theorem dL_ask_23 : decode cL_ask 23 = .ok (.astore 5, 2) := by decide +kernel
theorem dL_ask_25 : decode cL_ask 25 = .ok (.iconst 3, 1) := by decide +kernel
theorem dL_ask_26 : decode cL_ask 26 = .ok (.ireturn, 1) := by decide +kernel
theorem dL_ask_27 : decode cL_ask 27 = .ok (.iconst 0, 1) := by decide +kernel
theorem dL_ask_28 : decode cL_ask 28 = .ok (.ireturn, 1) := by decide +kernel
set_option maxRecDepth 20000 in
theorem ggL_prove_X4_prove : GoodIn wsL_prove wsX4_prove := goodIn_ca (goodIn_ca (goodIn_r _ [7, 8, 9, 10, 11, 12, 13, 14, 15, 16, 17, 18, 19, 20, 6, 21, 22, 23, 24, 25, 26, 27, 28, 29, 30, 31, 32, 33, 34, 35, 36, 37, 38, 39, 40, 41, 42, 43, 44, 45, 46, 47, 48, 49, 50, 51, 52, 53, 54, 55, 56, 57, 58, 59, 60, 61, 62, 63, 64, 65, 66, 67, 68, 69, 70, 71, 72, 73, 74, 75, 76, 77, 78, 79, 80, 81, 82, 83, 84, 85, 86, 87, 88, 89, 90, 91, 92, 93, 94, 95, 96, 97, 98, 99, 100, 101, 102, 103, 104, 105, 106, 107, 108, 109, 110, 111, 112, 113, 114, 115, 116, 117, 118, 119, 120, 121, 122, 123, 124, 125, 126, 127, 128, 129, 130, 131, 132, 133] (by decide +kernel) (by decide +kernel)) (goodIn_sub (fun _ h => List.mem_cons_of_mem _ (List.mem_append_left _ (List.mem_append_right _ h))) (by decide +kernel))) (goodIn_sub (fun _ h => List.mem_cons_of_mem _ (List.mem_append_right _ h)) (by decide +kernel))
set_option maxRecDepth 20000 in
theorem gL_prove_X4_prove : GoodIn wsL_prove (wsV RL 23 RX4 yX4_prove wsX4_prove) := goodIn_app (goodIn_of _ (by decide +kernel)) ggL_prove_X4_prove
theorem dL_prove_0 : decode cL_prove 0 = .ok (.aload_n 3, 1) := by decide +kernel
theorem dL_prove_1 : decode cL_prove 1 = .ok (.iconst 0, 1) := by decide +kernel
theorem dL_prove_2 : decode cL_prove 2 = .ok (.aload_n 0, 1) := by decide +kernel
theorem dL_prove_3 : decode cL_prove 3 = .ok (.iload_n 1, 1) := by decide +kernel
theorem dL_prove_4 : decode cL_prove 4 = .ok (.iload_n 2, 1) := by decide +kernel
theorem dL_prove_5 : decode cL_prove 5 = .ok (.invokevirtual 23, 3) := by decide +kernel
theorem dL_prove_8 : decode cL_prove 8 = .ok (.ifCond .eq 7, 3) := by decide +kernel
theorem dL_prove_11 : decode cL_prove 11 = .ok (.lconst 1, 1) := by decide +kernel
theorem dL_prove_12 : decode cL_prove 12 = .ok (.goto 4, 3) := by decide +kernel
theorem dL_prove_15 : decode cL_prove 15 = .ok (.lconst 0, 1) := by decide +kernel
theorem dL_prove_16 : decode cL_prove 16 = .ok (.lastore, 1) := by decide +kernel
theorem dL_prove_17 : decode cL_prove 17 = .ok (.goto 11, 3) := by decide +kernel
theorem dL_prove_20 : decode cL_prove 20 = .ok (.astore 4, 2) := by decide +kernel
theorem dL_prove_22 : decode cL_prove 22 = .ok (.iconst 1, 1) := by decide +kernel
theorem dL_prove_23 : decode cL_prove 23 = .ok (.ireturn, 1) := by decide +kernel
theorem dL_prove_24 : decode cL_prove 24 = .ok (.astore 4, 2) := by decide +kernel
theorem dL_prove_26 : decode cL_prove 26 = .ok (.iconst 2, 1) := by decide +kernel
theorem dL_prove_27 : decode cL_prove 27 = .ok (.ireturn, 1) := by decide +kernel
theorem dL_prove_28 : decode cL_prove 28 = .ok (.iconst 0, 1) := by decide +kernel
theorem dL_prove_29 : decode cL_prove 29 = .ok (.ireturn, 1) := by decide +kernel
set_option maxRecDepth 20000 in
theorem ggL_leave_X4_leave : GoodIn wsL_leave wsX4_leave := goodIn_ca (goodIn_ca (goodIn_r _ [7, 8, 9, 10, 11, 12, 13, 14, 15, 16, 17, 18, 19, 20, 21, 22, 23, 24, 25, 26, 27, 28, 6, 29, 30, 31, 32, 33, 34, 35, 36, 37, 38, 39, 40, 41, 42, 43, 44, 45, 46, 47, 48, 49, 50, 51, 52, 53, 54, 55, 56, 57, 58, 59, 60, 61, 62, 63, 64, 65, 66, 67, 68, 69, 70, 71, 72, 73, 74, 75, 76, 77, 78, 79, 80, 81, 82, 83, 84, 85, 86, 87, 88, 89, 90, 91, 92, 93, 94, 95, 96, 97, 98, 99, 100, 101, 102, 103, 104, 105, 106, 107, 108, 109, 110, 111, 112, 113, 114, 115, 116, 117] (by decide +kernel) (by decide +kernel)) (goodIn_sub (fun _ h => List.mem_cons_of_mem _ (List.mem_append_left _ (List.mem_append_right _ h))) (by decide +kernel))) (goodIn_sub (fun _ h => List.mem_cons_of_mem _ (List.mem_append_right _ h)) (by decide +kernel))
set_option maxRecDepth 20000 in
theorem gL_leave_X4_leave : GoodIn wsL_leave (wsV RL 27 RX4 yX4_leave wsX4_leave) := goodIn_app (goodIn_of _ (by decide +kernel)) ggL_leave_X4_leave
theorem dL_leave_0 : decode cL_leave 0 = .ok (.aload_n 2, 1) := by decide +kernel
theorem dL_leave_1 : decode cL_leave 1 = .ok (.iconst 0, 1) := by decide +kernel
theorem dL_leave_2 : decode cL_leave 2 = .ok (.aload_n 0, 1) := by decide +kernel
theorem dL_leave_3 : decode cL_leave 3 = .ok (.iload_n 1, 1) := by decide +kernel
theorem dL_leave_4 : decode cL_leave 4 = .ok (.invokevirtual 27, 3) := by decide +kernel
theorem dL_leave_7 : decode cL_leave 7 = .ok (.i2l, 1) := by decide +kernel
theorem dL_leave_8 : decode cL_leave 8 = .ok (.lastore, 1) := by decide +kernel
theorem dL_leave_9 : decode cL_leave 9 = .ok (.goto 9, 3) := by decide +kernel
theorem dL_leave_12 : decode cL_leave 12 = .ok (.astore_n 3, 1) := by decide +kernel
theorem dL_leave_13 : decode cL_leave 13 = .ok (.iconst 1, 1) := by decide +kernel
theorem dL_leave_14 : decode cL_leave 14 = .ok (.ireturn, 1) := by decide +kernel
theorem dL_leave_15 : decode cL_leave 15 = .ok (.astore_n 3, 1) := by decide +kernel
theorem dL_leave_16 : decode cL_leave 16 = .ok (.iconst 2, 1) := by decide +kernel
theorem dL_leave_17 : decode cL_leave 17 = .ok (.ireturn, 1) := by decide +kernel
theorem dL_leave_18 : decode cL_leave 18 = .ok (.iconst 0, 1) := by decide +kernel
theorem dL_leave_19 : decode cL_leave 19 = .ok (.ireturn, 1) := by decide +kernel
set_option maxRecDepth 20000 in
theorem ggL_accuse_X4_accuse : GoodIn wsL_accuse wsX4_accuse := goodIn_ca (goodIn_ca (goodIn_r _ [7, 8, 9, 10, 11, 12, 13, 14, 6, 15, 16, 17, 18, 19, 20, 21, 22, 23, 24, 25, 26, 27, 28, 29, 30, 31, 32, 33, 34, 35, 36, 37, 38, 39, 40, 41, 42, 43, 44, 45, 46, 47, 48, 49, 50, 51, 52, 53, 54, 55, 56, 57, 58, 59, 60, 61, 62, 63, 64, 65, 66, 67, 68, 69, 70, 71, 72, 73, 74, 75, 76, 77, 78, 79, 80, 81, 82, 83, 84, 85, 86, 87, 88, 89, 90, 91, 92, 93, 94, 95, 96, 97, 98, 99, 100, 101, 102, 103, 104] (by decide +kernel) (by decide +kernel)) (goodIn_sub (fun _ h => List.mem_cons_of_mem _ (List.mem_append_left _ (List.mem_append_right _ h))) (by decide +kernel))) (goodIn_sub (fun _ h => List.mem_cons_of_mem _ (List.mem_append_right _ h)) (by decide +kernel))
set_option maxRecDepth 20000 in
theorem gL_accuse_X4_accuse : GoodIn wsL_accuse (wsV RL 31 RX4 yX4_accuse wsX4_accuse) := goodIn_app (goodIn_of _ (by decide +kernel)) ggL_accuse_X4_accuse
theorem dL_accuse_0 : decode cL_accuse 0 = .ok (.aload_n 2, 1) := by decide +kernel
theorem dL_accuse_1 : decode cL_accuse 1 = .ok (.iconst 0, 1) := by decide +kernel
theorem dL_accuse_2 : decode cL_accuse 2 = .ok (.aload_n 0, 1) := by decide +kernel
theorem dL_accuse_3 : decode cL_accuse 3 = .ok (.iload_n 1, 1) := by decide +kernel
theorem dL_accuse_4 : decode cL_accuse 4 = .ok (.invokevirtual 31, 3) := by decide +kernel
theorem dL_accuse_7 : decode cL_accuse 7 = .ok (.i2l, 1) := by decide +kernel
theorem dL_accuse_8 : decode cL_accuse 8 = .ok (.lastore, 1) := by decide +kernel
theorem dL_accuse_9 : decode cL_accuse 9 = .ok (.goto 9, 3) := by decide +kernel
theorem dL_accuse_12 : decode cL_accuse 12 = .ok (.astore_n 3, 1) := by decide +kernel
theorem dL_accuse_13 : decode cL_accuse 13 = .ok (.iconst 1, 1) := by decide +kernel
theorem dL_accuse_14 : decode cL_accuse 14 = .ok (.ireturn, 1) := by decide +kernel
theorem dL_accuse_15 : decode cL_accuse 15 = .ok (.astore_n 3, 1) := by decide +kernel
theorem dL_accuse_16 : decode cL_accuse 16 = .ok (.iconst 2, 1) := by decide +kernel
theorem dL_accuse_17 : decode cL_accuse 17 = .ok (.ireturn, 1) := by decide +kernel
theorem dL_accuse_18 : decode cL_accuse 18 = .ok (.iconst 0, 1) := by decide +kernel
theorem dL_accuse_19 : decode cL_accuse 19 = .ok (.ireturn, 1) := by decide +kernel
set_option maxRecDepth 20000 in
theorem ggL_guest_X4_guest : GoodIn wsL_guest wsX4_guest := goodIn_ca (goodIn_ca (goodIn_r _ [7, 8, 9, 10, 11, 12, 13, 14, 15, 16, 17, 18, 19, 20, 21, 22, 23, 24, 25, 26, 27, 6, 28, 29, 30, 31, 32, 33, 34, 35, 36, 37, 38, 39, 40, 41, 42, 43, 44, 45, 46, 47, 48, 49, 50, 51, 52, 53, 54, 55, 56, 57, 58, 59, 60, 61, 62, 63, 64, 65, 66, 67, 68, 69, 70, 71, 72, 73, 74, 75, 76, 77, 78, 79, 80, 81, 82, 83, 84, 85, 86, 87, 88, 89, 90, 91] (by decide +kernel) (by decide +kernel)) (goodIn_sub (fun _ h => List.mem_cons_of_mem _ (List.mem_append_left _ (List.mem_append_right _ h))) (by decide +kernel))) (goodIn_sub (fun _ h => List.mem_cons_of_mem _ (List.mem_append_right _ h)) (by decide +kernel))
set_option maxRecDepth 20000 in
theorem gL_guest_X4_guest : GoodIn wsL_guest (wsV RL 34 RX4 yX4_guest wsX4_guest) := goodIn_app (goodIn_of _ (by decide +kernel)) ggL_guest_X4_guest
theorem dL_guest_0 : decode cL_guest 0 = .ok (.aload_n 3, 1) := by decide +kernel
theorem dL_guest_1 : decode cL_guest 1 = .ok (.iconst 0, 1) := by decide +kernel
theorem dL_guest_2 : decode cL_guest 2 = .ok (.aload_n 0, 1) := by decide +kernel
theorem dL_guest_3 : decode cL_guest 3 = .ok (.iload_n 1, 1) := by decide +kernel
theorem dL_guest_4 : decode cL_guest 4 = .ok (.iload_n 2, 1) := by decide +kernel
theorem dL_guest_5 : decode cL_guest 5 = .ok (.invokevirtual 34, 3) := by decide +kernel
theorem dL_guest_8 : decode cL_guest 8 = .ok (.i2l, 1) := by decide +kernel
theorem dL_guest_9 : decode cL_guest 9 = .ok (.lastore, 1) := by decide +kernel
theorem dL_guest_10 : decode cL_guest 10 = .ok (.goto 11, 3) := by decide +kernel
theorem dL_guest_13 : decode cL_guest 13 = .ok (.astore 4, 2) := by decide +kernel
theorem dL_guest_15 : decode cL_guest 15 = .ok (.iconst 1, 1) := by decide +kernel
theorem dL_guest_16 : decode cL_guest 16 = .ok (.ireturn, 1) := by decide +kernel
theorem dL_guest_17 : decode cL_guest 17 = .ok (.astore 4, 2) := by decide +kernel
theorem dL_guest_19 : decode cL_guest 19 = .ok (.iconst 2, 1) := by decide +kernel
theorem dL_guest_20 : decode cL_guest 20 = .ok (.ireturn, 1) := by decide +kernel
theorem dL_guest_21 : decode cL_guest 21 = .ok (.iconst 0, 1) := by decide +kernel
theorem dL_guest_22 : decode cL_guest 22 = .ok (.ireturn, 1) := by decide +kernel
set_option maxRecDepth 20000 in
theorem ggL_value_X4_value : GoodIn wsL_value wsX4_value := goodIn_ca (goodIn_r _ [6, 7, 8, 9, 10, 11, 12, 13, 14, 15, 16, 17, 18, 19, 20, 21, 22, 23, 24, 25, 26, 27, 28, 29, 30, 31, 32, 33, 34, 35, 36, 37, 38, 39, 40, 41, 42, 43, 44, 45, 46, 47, 48, 49, 50, 51, 52, 53, 54, 55] (by decide +kernel) (by decide +kernel)) (goodIn_sub (fun _ h => List.mem_cons_of_mem _ (List.mem_append_right _ h)) (by decide +kernel))
set_option maxRecDepth 20000 in
theorem gL_value_X4_value : GoodIn wsL_value (wsV RL 37 RX4 yX4_value wsX4_value) := goodIn_app (goodIn_of _ (by decide +kernel)) ggL_value_X4_value
theorem dL_value_0 : decode cL_value 0 = .ok (.aload_n 2, 1) := by decide +kernel
theorem dL_value_1 : decode cL_value 1 = .ok (.iconst 0, 1) := by decide +kernel
theorem dL_value_2 : decode cL_value 2 = .ok (.aload_n 0, 1) := by decide +kernel
theorem dL_value_3 : decode cL_value 3 = .ok (.iload_n 1, 1) := by decide +kernel
theorem dL_value_4 : decode cL_value 4 = .ok (.invokevirtual 37, 3) := by decide +kernel
theorem dL_value_7 : decode cL_value 7 = .ok (.i2l, 1) := by decide +kernel
theorem dL_value_8 : decode cL_value 8 = .ok (.lastore, 1) := by decide +kernel
theorem dL_value_9 : decode cL_value 9 = .ok (.goto 6, 3) := by decide +kernel
theorem dL_value_12 : decode cL_value 12 = .ok (.astore_n 3, 1) := by decide +kernel
theorem dL_value_13 : decode cL_value 13 = .ok (.iconst 1, 1) := by decide +kernel
theorem dL_value_14 : decode cL_value 14 = .ok (.ireturn, 1) := by decide +kernel
theorem dL_value_15 : decode cL_value 15 = .ok (.iconst 0, 1) := by decide +kernel
theorem dL_value_16 : decode cL_value 16 = .ok (.ireturn, 1) := by decide +kernel
set_option maxRecDepth 20000 in
theorem ggL_question_X4_question : GoodIn wsL_question wsX4_question := goodIn_ca (goodIn_ca (goodIn_r _ [7, 8, 9, 10, 11, 12, 13, 14, 15, 16, 17, 18, 19, 20, 21, 22, 23, 24, 25, 26, 27, 28, 29, 30, 31, 32, 33, 34, 35, 36, 37, 38, 39, 40, 41, 42, 43, 44] (by decide +kernel) (by decide +kernel)) (goodIn_sub (fun _ h => List.mem_cons_of_mem _ (List.mem_append_left _ (List.mem_append_right _ h))) (by decide +kernel))) (goodIn_sub (fun _ h => List.mem_cons_of_mem _ (List.mem_append_right _ h)) (by decide +kernel))
set_option maxRecDepth 20000 in
theorem gL_question_X4_question : GoodIn wsL_question (wsV RL 40 RX4 yX4_question wsX4_question) := goodIn_app (goodIn_of _ (by decide +kernel)) ggL_question_X4_question
theorem dL_question_0 : decode cL_question 0 = .ok (.aload_n 3, 1) := by decide +kernel
theorem dL_question_1 : decode cL_question 1 = .ok (.iconst 0, 1) := by decide +kernel
theorem dL_question_2 : decode cL_question 2 = .ok (.aload_n 0, 1) := by decide +kernel
theorem dL_question_3 : decode cL_question 3 = .ok (.iload_n 1, 1) := by decide +kernel
theorem dL_question_4 : decode cL_question 4 = .ok (.iload_n 2, 1) := by decide +kernel
theorem dL_question_5 : decode cL_question 5 = .ok (.invokevirtual 40, 3) := by decide +kernel
theorem dL_question_8 : decode cL_question 8 = .ok (.i2l, 1) := by decide +kernel
theorem dL_question_9 : decode cL_question 9 = .ok (.lastore, 1) := by decide +kernel
theorem dL_question_10 : decode cL_question 10 = .ok (.goto 11, 3) := by decide +kernel
theorem dL_question_13 : decode cL_question 13 = .ok (.astore 4, 2) := by decide +kernel
theorem dL_question_15 : decode cL_question 15 = .ok (.iconst 1, 1) := by decide +kernel
theorem dL_question_16 : decode cL_question 16 = .ok (.ireturn, 1) := by decide +kernel
theorem dL_question_17 : decode cL_question 17 = .ok (.astore 4, 2) := by decide +kernel
theorem dL_question_19 : decode cL_question 19 = .ok (.iconst 2, 1) := by decide +kernel
theorem dL_question_20 : decode cL_question 20 = .ok (.ireturn, 1) := by decide +kernel
theorem dL_question_21 : decode cL_question 21 = .ok (.iconst 0, 1) := by decide +kernel
theorem dL_question_22 : decode cL_question 22 = .ok (.ireturn, 1) := by decide +kernel
set_option maxRecDepth 20000 in
theorem ggL_dealsWith_X4_dealsWith : GoodIn wsL_dealsWith wsX4_dealsWith := goodIn_ca (goodIn_r _ [6, 7, 8, 9, 10, 11, 5, 12, 13, 14, 15, 16, 17, 18, 19, 20, 21, 22, 23, 24, 25, 26, 27, 28, 29, 30, 31, 32, 33, 34, 35, 36, 37, 38, 39, 40, 41, 42, 43, 44, 45, 46, 47, 48, 49, 50, 51, 52, 53, 54, 55, 56, 57, 58] (by decide +kernel) (by decide +kernel)) (goodIn_sub (fun _ h => List.mem_cons_of_mem _ (List.mem_append_right _ h)) (by decide +kernel))
set_option maxRecDepth 20000 in
theorem gL_dealsWith_X4_dealsWith : GoodIn wsL_dealsWith (wsV RL 43 RX4 yX4_dealsWith wsX4_dealsWith) := goodIn_app (goodIn_of _ (by decide +kernel)) ggL_dealsWith_X4_dealsWith
theorem dL_dealsWith_0 : decode cL_dealsWith 0 = .ok (.aload_n 2, 1) := by decide +kernel
theorem dL_dealsWith_1 : decode cL_dealsWith 1 = .ok (.iconst 0, 1) := by decide +kernel
theorem dL_dealsWith_2 : decode cL_dealsWith 2 = .ok (.aload_n 0, 1) := by decide +kernel
theorem dL_dealsWith_3 : decode cL_dealsWith 3 = .ok (.iload_n 1, 1) := by decide +kernel
theorem dL_dealsWith_4 : decode cL_dealsWith 4 = .ok (.invokevirtual 43, 3) := by decide +kernel
theorem dL_dealsWith_7 : decode cL_dealsWith 7 = .ok (.i2l, 1) := by decide +kernel
theorem dL_dealsWith_8 : decode cL_dealsWith 8 = .ok (.lastore, 1) := by decide +kernel
theorem dL_dealsWith_9 : decode cL_dealsWith 9 = .ok (.goto 6, 3) := by decide +kernel
theorem dL_dealsWith_12 : decode cL_dealsWith 12 = .ok (.astore_n 3, 1) := by decide +kernel
theorem dL_dealsWith_13 : decode cL_dealsWith 13 = .ok (.iconst 1, 1) := by decide +kernel
theorem dL_dealsWith_14 : decode cL_dealsWith 14 = .ok (.ireturn, 1) := by decide +kernel
theorem dL_dealsWith_15 : decode cL_dealsWith 15 = .ok (.iconst 0, 1) := by decide +kernel
theorem dL_dealsWith_16 : decode cL_dealsWith 16 = .ok (.ireturn, 1) := by decide +kernel
set_option maxRecDepth 20000 in
theorem ggL_dealsHeld_X4_dealsHeld : GoodIn wsL_dealsHeld wsX4_dealsHeld := goodIn_ca (goodIn_r _ [6, 7, 8, 9, 10, 11, 12, 13, 14, 15, 16, 17, 5, 18, 19, 20, 21, 22, 23, 24, 25, 26, 27, 28, 29, 30, 31, 32, 33, 34, 35, 36, 37, 38, 39, 40, 41, 42, 43, 44, 45, 46, 47, 48, 49, 50, 51, 52, 53, 54, 55, 56, 57, 58, 59, 60, 61, 62, 63, 64] (by decide +kernel) (by decide +kernel)) (goodIn_sub (fun _ h => List.mem_cons_of_mem _ (List.mem_append_right _ h)) (by decide +kernel))
set_option maxRecDepth 20000 in
theorem gL_dealsHeld_X4_dealsHeld : GoodIn wsL_dealsHeld (wsV RL 46 RX4 yX4_dealsHeld wsX4_dealsHeld) := goodIn_app (goodIn_of _ (by decide +kernel)) ggL_dealsHeld_X4_dealsHeld
theorem dL_dealsHeld_0 : decode cL_dealsHeld 0 = .ok (.aload_n 3, 1) := by decide +kernel
theorem dL_dealsHeld_1 : decode cL_dealsHeld 1 = .ok (.iconst 0, 1) := by decide +kernel
theorem dL_dealsHeld_2 : decode cL_dealsHeld 2 = .ok (.aload_n 0, 1) := by decide +kernel
theorem dL_dealsHeld_3 : decode cL_dealsHeld 3 = .ok (.iload_n 1, 1) := by decide +kernel
theorem dL_dealsHeld_4 : decode cL_dealsHeld 4 = .ok (.iload_n 2, 1) := by decide +kernel
theorem dL_dealsHeld_5 : decode cL_dealsHeld 5 = .ok (.invokevirtual 46, 3) := by decide +kernel
theorem dL_dealsHeld_8 : decode cL_dealsHeld 8 = .ok (.i2l, 1) := by decide +kernel
theorem dL_dealsHeld_9 : decode cL_dealsHeld 9 = .ok (.lastore, 1) := by decide +kernel
theorem dL_dealsHeld_10 : decode cL_dealsHeld 10 = .ok (.goto 7, 3) := by decide +kernel
theorem dL_dealsHeld_13 : decode cL_dealsHeld 13 = .ok (.astore 4, 2) := by decide +kernel
theorem dL_dealsHeld_15 : decode cL_dealsHeld 15 = .ok (.iconst 1, 1) := by decide +kernel
theorem dL_dealsHeld_16 : decode cL_dealsHeld 16 = .ok (.ireturn, 1) := by decide +kernel
theorem dL_dealsHeld_17 : decode cL_dealsHeld 17 = .ok (.iconst 0, 1) := by decide +kernel
theorem dL_dealsHeld_18 : decode cL_dealsHeld 18 = .ok (.ireturn, 1) := by decide +kernel
set_option maxRecDepth 20000 in
theorem ggL_chance_X4_chance : GoodIn wsL_chance wsX4_chance := goodIn_ca (goodIn_r _ [6, 7, 8, 9, 10, 11, 5, 12, 13, 14, 15, 16, 17, 18, 19, 20, 21, 22, 23, 24, 25, 26, 27, 28, 29, 30, 31, 32, 33, 34, 35, 36, 37, 38, 39, 40, 41, 42, 43, 44, 45, 46, 47, 48, 49, 50, 51, 52, 53, 54, 55, 56, 57, 58, 59, 60, 61] (by decide +kernel) (by decide +kernel)) (goodIn_sub (fun _ h => List.mem_cons_of_mem _ (List.mem_append_right _ h)) (by decide +kernel))
