set_option maxRecDepth 20000 in
theorem ggX5_begin_X5_deals : GoodIn wsX5_begin wsX5_deals := goodIn_r _ [32, 2, 33, 34, 5, 35, 36, 37, 38, 39, 40, 41, 42, 43, 44, 45, 46, 47, 48, 49, 50, 51, 52, 53, 54, 55] (by decide +kernel) (by decide +kernel)
set_option maxRecDepth 20000 in
theorem gX5_begin_X5_deals : GoodIn wsX5_begin (wsV RX5 80 RX5 yX5_deals wsX5_deals) := goodIn_app (goodIn_of _ (by decide +kernel)) ggX5_begin_X5_deals
theorem dX5_begin_0 : decode cX5_begin 0 = .ok (.aload_n 0, 1) := by decide +kernel
theorem dX5_begin_1 : decode cX5_begin 1 = .ok (.iload_n 1, 1) := by decide +kernel
theorem dX5_begin_2 : decode cX5_begin 2 = .ok (.iconst 3, 1) := by decide +kernel
theorem dX5_begin_3 : decode cX5_begin 3 = .ok (.iconst 4, 1) := by decide +kernel
theorem dX5_begin_4 : decode cX5_begin 4 = .ok (.invokestatic 61, 3) := by decide +kernel
theorem dX5_begin_7 : decode cX5_begin 7 = .ok (.ifCond .eq 13, 3) := by decide +kernel
theorem dX5_begin_10 : decode cX5_begin 10 = .ok (.iload_n 2, 1) := by decide +kernel
theorem dX5_begin_11 : decode cX5_begin 11 = .ok (.iconst (-1), 1) := by decide +kernel
theorem dX5_begin_12 : decode cX5_begin 12 = .ok (.ldc 69, 2) := by decide +kernel
theorem dX5_begin_14 : decode cX5_begin 14 = .ok (.invokestatic 61, 3) := by decide +kernel
theorem dX5_begin_17 : decode cX5_begin 17 = .ok (.ifCond .ne 7, 3) := by decide +kernel
theorem dX5_begin_20 : decode cX5_begin 20 = .ok (.iconst 1, 1) := by decide +kernel
theorem dX5_begin_21 : decode cX5_begin 21 = .ok (.goto 18, 3) := by decide +kernel
theorem dX5_begin_24 : decode cX5_begin 24 = .ok (.aload_n 0, 1) := by decide +kernel
theorem dX5_begin_25 : decode cX5_begin 25 = .ok (.getfield 7, 3) := by decide +kernel
theorem dX5_begin_28 : decode cX5_begin 28 = .ok (.iconst 1, 1) := by decide +kernel
theorem dX5_begin_29 : decode cX5_begin 29 = .ok (.iaload, 1) := by decide +kernel
theorem dX5_begin_30 : decode cX5_begin 30 = .ok (.iconst 1, 1) := by decide +kernel
theorem dX5_begin_31 : decode cX5_begin 31 = .ok (.if_icmp .ne 7, 3) := by decide +kernel
theorem dX5_begin_34 : decode cX5_begin 34 = .ok (.iconst 2, 1) := by decide +kernel
theorem dX5_begin_35 : decode cX5_begin 35 = .ok (.goto 4, 3) := by decide +kernel
theorem dX5_begin_38 : decode cX5_begin 38 = .ok (.iconst 0, 1) := by decide +kernel
theorem dX5_begin_39 : decode cX5_begin 39 = .ok (.invokevirtual 50, 3) := by decide +kernel
theorem dX5_begin_42 : decode cX5_begin 42 = .ok (.ifCond .eq 5, 3) := by decide +kernel
theorem dX5_begin_45 : decode cX5_begin 45 = .ok (.iconst 0, 1) := by decide +kernel
theorem dX5_begin_46 : decode cX5_begin 46 = .ok (.ireturn, 1) := by decide +kernel
theorem dX5_begin_47 : decode cX5_begin 47 = .ok (.aload_n 0, 1) := by decide +kernel
theorem dX5_begin_48 : decode cX5_begin 48 = .ok (.invokevirtual 70, 3) := by decide +kernel
theorem dX5_begin_51 : decode cX5_begin 51 = .ok (.aload_n 0, 1) := by decide +kernel
theorem dX5_begin_52 : decode cX5_begin 52 = .ok (.getfield 7, 3) := by decide +kernel
theorem dX5_begin_55 : decode cX5_begin 55 = .ok (.iconst 3, 1) := by decide +kernel
theorem dX5_begin_56 : decode cX5_begin 56 = .ok (.iload_n 2, 1) := by decide +kernel
theorem dX5_begin_57 : decode cX5_begin 57 = .ok (.iconst (-1), 1) := by decide +kernel
theorem dX5_begin_58 : decode cX5_begin 58 = .ok (.if_icmp .ne 12, 3) := by decide +kernel
theorem dX5_begin_61 : decode cX5_begin 61 = .ok (.aload_n 0, 1) := by decide +kernel
theorem dX5_begin_62 : decode cX5_begin 62 = .ok (.getfield 7, 3) := by decide +kernel
theorem dX5_begin_65 : decode cX5_begin 65 = .ok (.iconst 3, 1) := by decide +kernel
theorem dX5_begin_66 : decode cX5_begin 66 = .ok (.iaload, 1) := by decide +kernel
theorem dX5_begin_67 : decode cX5_begin 67 = .ok (.goto 4, 3) := by decide +kernel
theorem dX5_begin_70 : decode cX5_begin 70 = .ok (.iload_n 2, 1) := by decide +kernel
theorem dX5_begin_71 : decode cX5_begin 71 = .ok (.iastore, 1) := by decide +kernel
theorem dX5_begin_72 : decode cX5_begin 72 = .ok (.aload_n 0, 1) := by decide +kernel
theorem dX5_begin_73 : decode cX5_begin 73 = .ok (.getfield 7, 3) := by decide +kernel
theorem dX5_begin_76 : decode cX5_begin 76 = .ok (.iconst 0, 1) := by decide +kernel
theorem dX5_begin_77 : decode cX5_begin 77 = .ok (.iload_n 1, 1) := by decide +kernel
theorem dX5_begin_78 : decode cX5_begin 78 = .ok (.iastore, 1) := by decide +kernel
theorem dX5_begin_79 : decode cX5_begin 79 = .ok (.aload_n 0, 1) := by decide +kernel
theorem dX5_begin_80 : decode cX5_begin 80 = .ok (.getfield 7, 3) := by decide +kernel
theorem dX5_begin_83 : decode cX5_begin 83 = .ok (.iconst 1, 1) := by decide +kernel
theorem dX5_begin_84 : decode cX5_begin 84 = .ok (.iconst 1, 1) := by decide +kernel
theorem dX5_begin_85 : decode cX5_begin 85 = .ok (.iastore, 1) := by decide +kernel
theorem dX5_begin_86 : decode cX5_begin 86 = .ok (.aload_n 0, 1) := by decide +kernel
theorem dX5_begin_87 : decode cX5_begin 87 = .ok (.getfield 7, 3) := by decide +kernel
theorem dX5_begin_90 : decode cX5_begin 90 = .ok (.bipush 7, 2) := by decide +kernel
theorem dX5_begin_92 : decode cX5_begin 92 = .ok (.iconst 0, 1) := by decide +kernel
theorem dX5_begin_93 : decode cX5_begin 93 = .ok (.iastore, 1) := by decide +kernel
theorem dX5_begin_94 : decode cX5_begin 94 = .ok (.aload_n 0, 1) := by decide +kernel
theorem dX5_begin_95 : decode cX5_begin 95 = .ok (.getfield 7, 3) := by decide +kernel
theorem dX5_begin_98 : decode cX5_begin 98 = .ok (.bipush 8, 2) := by decide +kernel
theorem dX5_begin_100 : decode cX5_begin 100 = .ok (.iconst 0, 1) := by decide +kernel
theorem dX5_begin_101 : decode cX5_begin 101 = .ok (.iastore, 1) := by decide +kernel
theorem dX5_begin_102 : decode cX5_begin 102 = .ok (.bipush 9, 2) := by decide +kernel
theorem dX5_begin_104 : decode cX5_begin 104 = .ok (.istore_n 3, 1) := by decide +kernel
theorem dX5_begin_105 : decode cX5_begin 105 = .ok (.iload_n 3, 1) := by decide +kernel
theorem dX5_begin_106 : decode cX5_begin 106 = .ok (.bipush 101, 2) := by decide +kernel
theorem dX5_begin_108 : decode cX5_begin 108 = .ok (.if_icmp .ge 16, 3) := by decide +kernel
theorem dX5_begin_111 : decode cX5_begin 111 = .ok (.aload_n 0, 1) := by decide +kernel
theorem dX5_begin_112 : decode cX5_begin 112 = .ok (.getfield 7, 3) := by decide +kernel
theorem dX5_begin_115 : decode cX5_begin 115 = .ok (.iload_n 3, 1) := by decide +kernel
theorem dX5_begin_116 : decode cX5_begin 116 = .ok (.iconst 0, 1) := by decide +kernel
theorem dX5_begin_117 : decode cX5_begin 117 = .ok (.iastore, 1) := by decide +kernel
theorem dX5_begin_118 : decode cX5_begin 118 = .ok (.iinc 3 1, 3) := by decide +kernel
theorem dX5_begin_121 : decode cX5_begin 121 = .ok (.goto (-16), 3) := by decide +kernel
theorem dX5_begin_124 : decode cX5_begin 124 = .ok (.iconst 0, 1) := by decide +kernel
theorem dX5_begin_125 : decode cX5_begin 125 = .ok (.istore_n 3, 1) := by decide +kernel
theorem dX5_begin_126 : decode cX5_begin 126 = .ok (.iload_n 3, 1) := by decide +kernel
theorem dX5_begin_127 : decode cX5_begin 127 = .ok (.iload_n 1, 1) := by decide +kernel
theorem dX5_begin_128 : decode cX5_begin 128 = .ok (.if_icmp .ge 33, 3) := by decide +kernel
theorem dX5_begin_131 : decode cX5_begin 131 = .ok (.aload_n 0, 1) := by decide +kernel
theorem dX5_begin_132 : decode cX5_begin 132 = .ok (.getfield 7, 3) := by decide +kernel
theorem dX5_begin_135 : decode cX5_begin 135 = .ok (.bipush 9, 2) := by decide +kernel
theorem dX5_begin_137 : decode cX5_begin 137 = .ok (.iload_n 3, 1) := by decide +kernel
theorem dX5_begin_138 : decode cX5_begin 138 = .ok (.iadd, 1) := by decide +kernel
theorem dX5_begin_139 : decode cX5_begin 139 = .ok (.iload_n 1, 1) := by decide +kernel
theorem dX5_begin_140 : decode cX5_begin 140 = .ok (.iload_n 3, 1) := by decide +kernel
theorem dX5_begin_141 : decode cX5_begin 141 = .ok (.invokestatic 73, 3) := by decide +kernel
theorem dX5_begin_144 : decode cX5_begin 144 = .ok (.iastore, 1) := by decide +kernel
theorem dX5_begin_145 : decode cX5_begin 145 = .ok (.aload_n 0, 1) := by decide +kernel
theorem dX5_begin_146 : decode cX5_begin 146 = .ok (.getfield 7, 3) := by decide +kernel
theorem dX5_begin_149 : decode cX5_begin 149 = .ok (.bipush 17, 2) := by decide +kernel
theorem dX5_begin_151 : decode cX5_begin 151 = .ok (.iload_n 3, 1) := by decide +kernel
theorem dX5_begin_152 : decode cX5_begin 152 = .ok (.iadd, 1) := by decide +kernel
theorem dX5_begin_153 : decode cX5_begin 153 = .ok (.iconst 1, 1) := by decide +kernel
theorem dX5_begin_154 : decode cX5_begin 154 = .ok (.iastore, 1) := by decide +kernel
theorem dX5_begin_155 : decode cX5_begin 155 = .ok (.iinc 3 1, 3) := by decide +kernel
theorem dX5_begin_158 : decode cX5_begin 158 = .ok (.goto (-32), 3) := by decide +kernel
theorem dX5_begin_161 : decode cX5_begin 161 = .ok (.aload_n 0, 1) := by decide +kernel
theorem dX5_begin_162 : decode cX5_begin 162 = .ok (.getfield 7, 3) := by decide +kernel
theorem dX5_begin_165 : decode cX5_begin 165 = .ok (.iconst 2, 1) := by decide +kernel
theorem dX5_begin_166 : decode cX5_begin 166 = .ok (.aload_n 0, 1) := by decide +kernel
theorem dX5_begin_167 : decode cX5_begin 167 = .ok (.bipush 8, 2) := by decide +kernel
theorem dX5_begin_169 : decode cX5_begin 169 = .ok (.invokevirtual 77, 3) := by decide +kernel
theorem dX5_begin_172 : decode cX5_begin 172 = .ok (.iastore, 1) := by decide +kernel
theorem dX5_begin_173 : decode cX5_begin 173 = .ok (.bipush 7, 2) := by decide +kernel
theorem dX5_begin_175 : decode cX5_begin 175 = .ok (.istore_n 3, 1) := by decide +kernel
theorem dX5_begin_176 : decode cX5_begin 176 = .ok (.iconst 0, 1) := by decide +kernel
theorem dX5_begin_177 : decode cX5_begin 177 = .ok (.istore 4, 2) := by decide +kernel
theorem dX5_begin_179 : decode cX5_begin 179 = .ok (.iload 4, 2) := by decide +kernel
theorem dX5_begin_181 : decode cX5_begin 181 = .ok (.bipush 8, 2) := by decide +kernel
theorem dX5_begin_183 : decode cX5_begin 183 = .ok (.if_icmp .ge 34, 3) := by decide +kernel
theorem dX5_begin_186 : decode cX5_begin 186 = .ok (.iload 4, 2) := by decide +kernel
theorem dX5_begin_188 : decode cX5_begin 188 = .ok (.aload_n 0, 1) := by decide +kernel
theorem dX5_begin_189 : decode cX5_begin 189 = .ok (.getfield 7, 3) := by decide +kernel
theorem dX5_begin_192 : decode cX5_begin 192 = .ok (.iconst 2, 1) := by decide +kernel
theorem dX5_begin_193 : decode cX5_begin 193 = .ok (.iaload, 1) := by decide +kernel
theorem dX5_begin_194 : decode cX5_begin 194 = .ok (.if_icmp .eq 17, 3) := by decide +kernel
theorem dX5_begin_197 : decode cX5_begin 197 = .ok (.aload_n 0, 1) := by decide +kernel
theorem dX5_begin_198 : decode cX5_begin 198 = .ok (.iload 4, 2) := by decide +kernel
theorem dX5_begin_200 : decode cX5_begin 200 = .ok (.aload_n 0, 1) := by decide +kernel
theorem dX5_begin_201 : decode cX5_begin 201 = .ok (.iload_n 3, 1) := by decide +kernel
theorem dX5_begin_202 : decode cX5_begin 202 = .ok (.invokevirtual 77, 3) := by decide +kernel
theorem dX5_begin_205 : decode cX5_begin 205 = .ok (.invokevirtual 80, 3) := by decide +kernel
theorem dX5_begin_208 : decode cX5_begin 208 = .ok (.iinc 3 (-1), 3) := by decide +kernel
theorem dX5_begin_211 : decode cX5_begin 211 = .ok (.iinc 4 1, 3) := by decide +kernel
theorem dX5_begin_214 : decode cX5_begin 214 = .ok (.goto (-35), 3) := by decide +kernel
theorem dX5_begin_217 : decode cX5_begin 217 = .ok (.aload_n 0, 1) := by decide +kernel
theorem dX5_begin_218 : decode cX5_begin 218 = .ok (.getfield 7, 3) := by decide +kernel
theorem dX5_begin_221 : decode cX5_begin 221 = .ok (.bipush 9, 2) := by decide +kernel
theorem dX5_begin_223 : decode cX5_begin 223 = .ok (.iaload, 1) := by decide +kernel
theorem dX5_begin_224 : decode cX5_begin 224 = .ok (.ireturn, 1) := by decide +kernel
set_option maxRecDepth 20000 in
theorem ggX5_isSet_X5_in : GoodIn wsX5_isSet wsX5_in := goodIn_r _ [4] (by decide +kernel) (by decide +kernel)
set_option maxRecDepth 20000 in
theorem gX5_isSet_X5_in : GoodIn wsX5_isSet (va_wsS RX5 61 yX5_in wsX5_in) := goodIn_app (goodIn_of _ (by decide +kernel)) ggX5_isSet_X5_in
theorem dX5_isSet_0 : decode cX5_isSet 0 = .ok (.iload_n 0, 1) := by decide +kernel
theorem dX5_isSet_1 : decode cX5_isSet 1 = .ok (.iconst 1, 1) := by decide +kernel
theorem dX5_isSet_2 : decode cX5_isSet 2 = .ok (.sipush 255, 3) := by decide +kernel
theorem dX5_isSet_5 : decode cX5_isSet 5 = .ok (.invokestatic 61, 3) := by decide +kernel
theorem dX5_isSet_8 : decode cX5_isSet 8 = .ok (.ireturn, 1) := by decide +kernel
theorem dX5_canAsk_0 : decode cX5_canAsk 0 = .ok (.aload_n 0, 1) := by decide +kernel
theorem dX5_canAsk_1 : decode cX5_canAsk 1 = .ok (.getfield 7, 3) := by decide +kernel
theorem dX5_canAsk_4 : decode cX5_canAsk 4 = .ok (.iconst 1, 1) := by decide +kernel
theorem dX5_canAsk_5 : decode cX5_canAsk 5 = .ok (.iaload, 1) := by decide +kernel
theorem dX5_canAsk_6 : decode cX5_canAsk 6 = .ok (.iconst 1, 1) := by decide +kernel
theorem dX5_canAsk_7 : decode cX5_canAsk 7 = .ok (.if_icmp .ne 49, 3) := by decide +kernel
theorem dX5_canAsk_10 : decode cX5_canAsk 10 = .ok (.aload_n 0, 1) := by decide +kernel
theorem dX5_canAsk_11 : decode cX5_canAsk 11 = .ok (.getfield 7, 3) := by decide +kernel
theorem dX5_canAsk_14 : decode cX5_canAsk 14 = .ok (.bipush 17, 2) := by decide +kernel
theorem dX5_canAsk_16 : decode cX5_canAsk 16 = .ok (.iload_n 1, 1) := by decide +kernel
theorem dX5_canAsk_17 : decode cX5_canAsk 17 = .ok (.iadd, 1) := by decide +kernel
theorem dX5_canAsk_18 : decode cX5_canAsk 18 = .ok (.iaload, 1) := by decide +kernel
theorem dX5_canAsk_19 : decode cX5_canAsk 19 = .ok (.iconst 1, 1) := by decide +kernel
theorem dX5_canAsk_20 : decode cX5_canAsk 20 = .ok (.if_icmp .ne 36, 3) := by decide +kernel
theorem dX5_canAsk_23 : decode cX5_canAsk 23 = .ok (.aload_n 0, 1) := by decide +kernel
theorem dX5_canAsk_24 : decode cX5_canAsk 24 = .ok (.getfield 7, 3) := by decide +kernel
theorem dX5_canAsk_27 : decode cX5_canAsk 27 = .ok (.bipush 7, 2) := by decide +kernel
theorem dX5_canAsk_29 : decode cX5_canAsk 29 = .ok (.iaload, 1) := by decide +kernel
theorem dX5_canAsk_30 : decode cX5_canAsk 30 = .ok (.bipush 20, 2) := by decide +kernel
theorem dX5_canAsk_32 : decode cX5_canAsk 32 = .ok (.if_icmp .ge 24, 3) := by decide +kernel
theorem dX5_canAsk_35 : decode cX5_canAsk 35 = .ok (.iload_n 2, 1) := by decide +kernel
theorem dX5_canAsk_36 : decode cX5_canAsk 36 = .ok (.ifCond .eq 16, 3) := by decide +kernel
theorem dX5_canAsk_39 : decode cX5_canAsk 39 = .ok (.aload_n 0, 1) := by decide +kernel
theorem dX5_canAsk_40 : decode cX5_canAsk 40 = .ok (.getfield 7, 3) := by decide +kernel
theorem dX5_canAsk_43 : decode cX5_canAsk 43 = .ok (.bipush 21, 2) := by decide +kernel
theorem dX5_canAsk_45 : decode cX5_canAsk 45 = .ok (.iload_n 1, 1) := by decide +kernel
theorem dX5_canAsk_46 : decode cX5_canAsk 46 = .ok (.iadd, 1) := by decide +kernel
theorem dX5_canAsk_47 : decode cX5_canAsk 47 = .ok (.iaload, 1) := by decide +kernel
theorem dX5_canAsk_48 : decode cX5_canAsk 48 = .ok (.iconst 1, 1) := by decide +kernel
theorem dX5_canAsk_49 : decode cX5_canAsk 49 = .ok (.if_icmp .eq 7, 3) := by decide +kernel
theorem dX5_canAsk_52 : decode cX5_canAsk 52 = .ok (.iconst 1, 1) := by decide +kernel
theorem dX5_canAsk_53 : decode cX5_canAsk 53 = .ok (.goto 4, 3) := by decide +kernel
theorem dX5_canAsk_56 : decode cX5_canAsk 56 = .ok (.iconst 0, 1) := by decide +kernel
theorem dX5_canAsk_57 : decode cX5_canAsk 57 = .ok (.ireturn, 1) := by decide +kernel
set_option maxRecDepth 20000 in
theorem ggX5_asks_X5_many : GoodIn wsX5_asks wsX5_many := goodIn_r _ [5] (by decide +kernel) (by decide +kernel)
set_option maxRecDepth 20000 in
theorem gX5_asks_X5_many : GoodIn wsX5_asks (va_wsS RX5 65 yX5_many wsX5_many) := goodIn_app (goodIn_of _ (by decide +kernel)) ggX5_asks_X5_many
theorem dX5_asks_0 : decode cX5_asks 0 = .ok (.aload_n 0, 1) := by decide +kernel
theorem dX5_asks_1 : decode cX5_asks 1 = .ok (.getfield 7, 3) := by decide +kernel
theorem dX5_asks_4 : decode cX5_asks 4 = .ok (.bipush 13, 2) := by decide +kernel
theorem dX5_asks_6 : decode cX5_asks 6 = .ok (.iload_n 1, 1) := by decide +kernel
theorem dX5_asks_7 : decode cX5_asks 7 = .ok (.iadd, 1) := by decide +kernel
theorem dX5_asks_8 : decode cX5_asks 8 = .ok (.iaload, 1) := by decide +kernel
theorem dX5_asks_9 : decode cX5_asks 9 = .ok (.iload_n 2, 1) := by decide +kernel
theorem dX5_asks_10 : decode cX5_asks 10 = .ok (.iand, 1) := by decide +kernel
theorem dX5_asks_11 : decode cX5_asks 11 = .ok (.invokestatic 65, 3) := by decide +kernel
theorem dX5_asks_14 : decode cX5_asks 14 = .ok (.istore 4, 2) := by decide +kernel
theorem dX5_asks_16 : decode cX5_asks 16 = .ok (.iload_n 3, 1) := by decide +kernel
theorem dX5_asks_17 : decode cX5_asks 17 = .ok (.ifCond .eq 66, 3) := by decide +kernel
theorem dX5_asks_20 : decode cX5_asks 20 = .ok (.aload_n 0, 1) := by decide +kernel
theorem dX5_asks_21 : decode cX5_asks 21 = .ok (.getfield 7, 3) := by decide +kernel
theorem dX5_asks_24 : decode cX5_asks 24 = .ok (.bipush 9, 2) := by decide +kernel
theorem dX5_asks_26 : decode cX5_asks 26 = .ok (.iload_n 1, 1) := by decide +kernel
theorem dX5_asks_27 : decode cX5_asks 27 = .ok (.iadd, 1) := by decide +kernel
theorem dX5_asks_28 : decode cX5_asks 28 = .ok (.iaload, 1) := by decide +kernel
theorem dX5_asks_29 : decode cX5_asks 29 = .ok (.iload_n 2, 1) := by decide +kernel
theorem dX5_asks_30 : decode cX5_asks 30 = .ok (.invokestatic 65, 3) := by decide +kernel
theorem dX5_asks_33 : decode cX5_asks 33 = .ok (.if_icmp .ge 15, 3) := by decide +kernel
theorem dX5_asks_36 : decode cX5_asks 36 = .ok (.aload_n 0, 1) := by decide +kernel
theorem dX5_asks_37 : decode cX5_asks 37 = .ok (.getfield 7, 3) := by decide +kernel
theorem dX5_asks_40 : decode cX5_asks 40 = .ok (.bipush 9, 2) := by decide +kernel
theorem dX5_asks_42 : decode cX5_asks 42 = .ok (.iload_n 1, 1) := by decide +kernel
theorem dX5_asks_43 : decode cX5_asks 43 = .ok (.iadd, 1) := by decide +kernel
theorem dX5_asks_44 : decode cX5_asks 44 = .ok (.iaload, 1) := by decide +kernel
theorem dX5_asks_45 : decode cX5_asks 45 = .ok (.goto 7, 3) := by decide +kernel
theorem dX5_asks_48 : decode cX5_asks 48 = .ok (.iload_n 2, 1) := by decide +kernel
theorem dX5_asks_49 : decode cX5_asks 49 = .ok (.invokestatic 65, 3) := by decide +kernel
theorem dX5_asks_52 : decode cX5_asks 52 = .ok (.istore 5, 2) := by decide +kernel
theorem dX5_asks_54 : decode cX5_asks 54 = .ok (.iload 4, 2) := by decide +kernel
theorem dX5_asks_56 : decode cX5_asks 56 = .ok (.iconst 1, 1) := by decide +kernel
theorem dX5_asks_57 : decode cX5_asks 57 = .ok (.iadd, 1) := by decide +kernel
theorem dX5_asks_58 : decode cX5_asks 58 = .ok (.iload 5, 2) := by decide +kernel
theorem dX5_asks_60 : decode cX5_asks 60 = .ok (.if_icmp .le 7, 3) := by decide +kernel
theorem dX5_asks_63 : decode cX5_asks 63 = .ok (.iconst 0, 1) := by decide +kernel
theorem dX5_asks_64 : decode cX5_asks 64 = .ok (.goto 7, 3) := by decide +kernel
theorem dX5_asks_67 : decode cX5_asks 67 = .ok (.iload 4, 2) := by decide +kernel
theorem dX5_asks_69 : decode cX5_asks 69 = .ok (.iconst 1, 1) := by decide +kernel
theorem dX5_asks_70 : decode cX5_asks 70 = .ok (.iadd, 1) := by decide +kernel
theorem dX5_asks_71 : decode cX5_asks 71 = .ok (.istore 4, 2) := by decide +kernel
theorem dX5_asks_73 : decode cX5_asks 73 = .ok (.aload_n 0, 1) := by decide +kernel
theorem dX5_asks_74 : decode cX5_asks 74 = .ok (.getfield 7, 3) := by decide +kernel
theorem dX5_asks_77 : decode cX5_asks 77 = .ok (.bipush 21, 2) := by decide +kernel
theorem dX5_asks_79 : decode cX5_asks 79 = .ok (.iload_n 1, 1) := by decide +kernel
theorem dX5_asks_80 : decode cX5_asks 80 = .ok (.iadd, 1) := by decide +kernel
theorem dX5_asks_81 : decode cX5_asks 81 = .ok (.iconst 1, 1) := by decide +kernel
theorem dX5_asks_82 : decode cX5_asks 82 = .ok (.iastore, 1) := by decide +kernel
theorem dX5_asks_83 : decode cX5_asks 83 = .ok (.bipush 41, 2) := by decide +kernel
theorem dX5_asks_85 : decode cX5_asks 85 = .ok (.iconst 3, 1) := by decide +kernel
theorem dX5_asks_86 : decode cX5_asks 86 = .ok (.aload_n 0, 1) := by decide +kernel
theorem dX5_asks_87 : decode cX5_asks 87 = .ok (.getfield 7, 3) := by decide +kernel
theorem dX5_asks_90 : decode cX5_asks 90 = .ok (.bipush 7, 2) := by decide +kernel
theorem dX5_asks_92 : decode cX5_asks 92 = .ok (.iaload, 1) := by decide +kernel
theorem dX5_asks_93 : decode cX5_asks 93 = .ok (.imul, 1) := by decide +kernel
theorem dX5_asks_94 : decode cX5_asks 94 = .ok (.iadd, 1) := by decide +kernel
theorem dX5_asks_95 : decode cX5_asks 95 = .ok (.istore 5, 2) := by decide +kernel
theorem dX5_asks_97 : decode cX5_asks 97 = .ok (.aload_n 0, 1) := by decide +kernel
theorem dX5_asks_98 : decode cX5_asks 98 = .ok (.getfield 7, 3) := by decide +kernel
theorem dX5_asks_101 : decode cX5_asks 101 = .ok (.iload 5, 2) := by decide +kernel
theorem dX5_asks_103 : decode cX5_asks 103 = .ok (.iload_n 1, 1) := by decide +kernel
theorem dX5_asks_104 : decode cX5_asks 104 = .ok (.iastore, 1) := by decide +kernel
theorem dX5_asks_105 : decode cX5_asks 105 = .ok (.aload_n 0, 1) := by decide +kernel
theorem dX5_asks_106 : decode cX5_asks 106 = .ok (.getfield 7, 3) := by decide +kernel
theorem dX5_asks_109 : decode cX5_asks 109 = .ok (.iload 5, 2) := by decide +kernel
theorem dX5_asks_111 : decode cX5_asks 111 = .ok (.iconst 1, 1) := by decide +kernel
theorem dX5_asks_112 : decode cX5_asks 112 = .ok (.iadd, 1) := by decide +kernel
theorem dX5_asks_113 : decode cX5_asks 113 = .ok (.iload_n 2, 1) := by decide +kernel
theorem dX5_asks_114 : decode cX5_asks 114 = .ok (.iastore, 1) := by decide +kernel
theorem dX5_asks_115 : decode cX5_asks 115 = .ok (.aload_n 0, 1) := by decide +kernel
theorem dX5_asks_116 : decode cX5_asks 116 = .ok (.getfield 7, 3) := by decide +kernel
theorem dX5_asks_119 : decode cX5_asks 119 = .ok (.iload 5, 2) := by decide +kernel
theorem dX5_asks_121 : decode cX5_asks 121 = .ok (.iconst 2, 1) := by decide +kernel
theorem dX5_asks_122 : decode cX5_asks 122 = .ok (.iadd, 1) := by decide +kernel
theorem dX5_asks_123 : decode cX5_asks 123 = .ok (.iload 4, 2) := by decide +kernel
theorem dX5_asks_125 : decode cX5_asks 125 = .ok (.iastore, 1) := by decide +kernel
theorem dX5_asks_126 : decode cX5_asks 126 = .ok (.aload_n 0, 1) := by decide +kernel
theorem dX5_asks_127 : decode cX5_asks 127 = .ok (.getfield 7, 3) := by decide +kernel
theorem dX5_asks_130 : decode cX5_asks 130 = .ok (.bipush 7, 2) := by decide +kernel
theorem dX5_asks_132 : decode cX5_asks 132 = .ok (.dup2, 1) := by decide +kernel
theorem dX5_asks_133 : decode cX5_asks 133 = .ok (.iaload, 1) := by decide +kernel
theorem dX5_asks_134 : decode cX5_asks 134 = .ok (.iconst 1, 1) := by decide +kernel
theorem dX5_asks_135 : decode cX5_asks 135 = .ok (.iadd, 1) := by decide +kernel
theorem dX5_asks_136 : decode cX5_asks 136 = .ok (.iastore, 1) := by decide +kernel
theorem dX5_asks_137 : decode cX5_asks 137 = .ok (.aload_n 0, 1) := by decide +kernel
theorem dX5_asks_138 : decode cX5_asks 138 = .ok (.getfield 7, 3) := by decide +kernel
theorem dX5_asks_141 : decode cX5_asks 141 = .ok (.bipush 25, 2) := by decide +kernel
theorem dX5_asks_143 : decode cX5_asks 143 = .ok (.iload_n 1, 1) := by decide +kernel
theorem dX5_asks_144 : decode cX5_asks 144 = .ok (.iadd, 1) := by decide +kernel
theorem dX5_asks_145 : decode cX5_asks 145 = .ok (.dup2, 1) := by decide +kernel
theorem dX5_asks_146 : decode cX5_asks 146 = .ok (.iaload, 1) := by decide +kernel
theorem dX5_asks_147 : decode cX5_asks 147 = .ok (.iconst 1, 1) := by decide +kernel
theorem dX5_asks_148 : decode cX5_asks 148 = .ok (.iadd, 1) := by decide +kernel
theorem dX5_asks_149 : decode cX5_asks 149 = .ok (.iastore, 1) := by decide +kernel
theorem dX5_asks_150 : decode cX5_asks 150 = .ok (.iload 4, 2) := by decide +kernel
theorem dX5_asks_152 : decode cX5_asks 152 = .ok (.ireturn, 1) := by decide +kernel
set_option maxRecDepth 20000 in
theorem ggX5_ask_X5_isGuest : GoodIn wsX5_ask wsX5_isGuest := goodIn_r _ [5, 6, 7, 8, 4, 9, 35, 36, 37, 38, 39, 40, 41, 42, 43, 44, 45, 46, 47, 48, 49, 50, 51, 52, 53, 54] (by decide +kernel) (by decide +kernel)
set_option maxRecDepth 20000 in
theorem gX5_ask_X5_isGuest : GoodIn wsX5_ask (wsV RX5 84 RX5 yX5_isGuest wsX5_isGuest) := goodIn_app (goodIn_of _ (by decide +kernel)) ggX5_ask_X5_isGuest
set_option maxRecDepth 20000 in
theorem ggX5_ask_X5_isSet : GoodIn wsX5_ask wsX5_isSet := goodIn_r _ [12, 7, 8, 4, 9] (by decide +kernel) (by decide +kernel)
set_option maxRecDepth 20000 in
theorem gX5_ask_X5_isSet : GoodIn wsX5_ask (va_wsS RX5 87 yX5_isSet wsX5_isSet) := goodIn_app (goodIn_of _ (by decide +kernel)) ggX5_ask_X5_isSet
set_option maxRecDepth 20000 in
theorem ggX5_ask_X5_canAsk : GoodIn wsX5_ask wsX5_canAsk := goodIn_r _ [16, 6, 35, 36, 37, 38, 39, 40, 41, 42, 43, 44, 45, 46, 47, 48, 49, 50, 51, 52, 53, 54] (by decide +kernel) (by decide +kernel)
set_option maxRecDepth 20000 in
theorem gX5_ask_X5_canAsk : GoodIn wsX5_ask (wsV RX5 90 RX5 yX5_canAsk wsX5_canAsk) := goodIn_app (goodIn_of _ (by decide +kernel)) ggX5_ask_X5_canAsk
set_option maxRecDepth 20000 in
theorem ggX5_ask_X5_refused : GoodIn wsX5_ask wsX5_refused := goodIn_r _ [20, 21, 35, 36, 37, 38, 39, 40, 41, 42, 43, 44, 45, 46, 47, 48, 49, 50, 51, 52, 53, 54] (by decide +kernel) (by decide +kernel)
set_option maxRecDepth 20000 in
theorem gX5_ask_X5_refused : GoodIn wsX5_ask (wsV RX5 50 RX5 yX5_refused wsX5_refused) := goodIn_app (goodIn_of _ (by decide +kernel)) ggX5_ask_X5_refused
set_option maxRecDepth 20000 in
theorem ggX5_ask_X5_saves : GoodIn wsX5_ask wsX5_saves := goodIn_r _ [25, 26, 27, 6, 35, 36, 37, 38, 39, 40, 41, 42, 43, 44, 45, 46, 47, 48, 49, 50, 51, 52, 53, 54] (by decide +kernel) (by decide +kernel)
set_option maxRecDepth 20000 in
theorem gX5_ask_X5_saves : GoodIn wsX5_ask (wsV RX5 70 RX5 yX5_saves wsX5_saves) := goodIn_app (goodIn_of _ (by decide +kernel)) ggX5_ask_X5_saves
set_option maxRecDepth 20000 in
theorem ggX5_ask_X5_asks : GoodIn wsX5_ask wsX5_asks := goodIn_r _ [31, 6, 32, 33, 4, 34, 35, 36, 37, 38, 39, 40, 41, 42, 43, 44, 45, 46, 47, 48, 49, 50, 51, 52, 53, 54] (by decide +kernel) (by decide +kernel)
set_option maxRecDepth 20000 in
theorem gX5_ask_X5_asks : GoodIn wsX5_ask (wsV RX5 94 RX5 yX5_asks wsX5_asks) := goodIn_app (goodIn_of _ (by decide +kernel)) ggX5_ask_X5_asks
theorem dX5_ask_0 : decode cX5_ask 0 = .ok (.aload_n 0, 1) := by decide +kernel
theorem dX5_ask_1 : decode cX5_ask 1 = .ok (.aload_n 0, 1) := by decide +kernel
theorem dX5_ask_2 : decode cX5_ask 2 = .ok (.iload_n 1, 1) := by decide +kernel
theorem dX5_ask_3 : decode cX5_ask 3 = .ok (.invokevirtual 84, 3) := by decide +kernel
theorem dX5_ask_6 : decode cX5_ask 6 = .ok (.ifCond .ne 7, 3) := by decide +kernel
theorem dX5_ask_9 : decode cX5_ask 9 = .ok (.iconst 1, 1) := by decide +kernel
theorem dX5_ask_10 : decode cX5_ask 10 = .ok (.goto 28, 3) := by decide +kernel
theorem dX5_ask_13 : decode cX5_ask 13 = .ok (.iload_n 2, 1) := by decide +kernel
theorem dX5_ask_14 : decode cX5_ask 14 = .ok (.invokestatic 87, 3) := by decide +kernel
theorem dX5_ask_17 : decode cX5_ask 17 = .ok (.ifCond .ne 7, 3) := by decide +kernel
theorem dX5_ask_20 : decode cX5_ask 20 = .ok (.iconst 2, 1) := by decide +kernel
theorem dX5_ask_21 : decode cX5_ask 21 = .ok (.goto 17, 3) := by decide +kernel
theorem dX5_ask_24 : decode cX5_ask 24 = .ok (.aload_n 0, 1) := by decide +kernel
theorem dX5_ask_25 : decode cX5_ask 25 = .ok (.iload_n 1, 1) := by decide +kernel
theorem dX5_ask_26 : decode cX5_ask 26 = .ok (.iload_n 3, 1) := by decide +kernel
theorem dX5_ask_27 : decode cX5_ask 27 = .ok (.invokevirtual 90, 3) := by decide +kernel
theorem dX5_ask_30 : decode cX5_ask 30 = .ok (.ifCond .eq 7, 3) := by decide +kernel
theorem dX5_ask_33 : decode cX5_ask 33 = .ok (.iconst 0, 1) := by decide +kernel
theorem dX5_ask_34 : decode cX5_ask 34 = .ok (.goto 4, 3) := by decide +kernel
theorem dX5_ask_37 : decode cX5_ask 37 = .ok (.iconst 3, 1) := by decide +kernel
theorem dX5_ask_38 : decode cX5_ask 38 = .ok (.invokevirtual 50, 3) := by decide +kernel
theorem dX5_ask_41 : decode cX5_ask 41 = .ok (.ifCond .eq 5, 3) := by decide +kernel
theorem dX5_ask_44 : decode cX5_ask 44 = .ok (.iconst 0, 1) := by decide +kernel
theorem dX5_ask_45 : decode cX5_ask 45 = .ok (.ireturn, 1) := by decide +kernel
theorem dX5_ask_46 : decode cX5_ask 46 = .ok (.aload_n 0, 1) := by decide +kernel
theorem dX5_ask_47 : decode cX5_ask 47 = .ok (.invokevirtual 70, 3) := by decide +kernel
theorem dX5_ask_50 : decode cX5_ask 50 = .ok (.aload_n 0, 1) := by decide +kernel
theorem dX5_ask_51 : decode cX5_ask 51 = .ok (.iload_n 1, 1) := by decide +kernel
theorem dX5_ask_52 : decode cX5_ask 52 = .ok (.iload_n 2, 1) := by decide +kernel
theorem dX5_ask_53 : decode cX5_ask 53 = .ok (.iload_n 3, 1) := by decide +kernel
theorem dX5_ask_54 : decode cX5_ask 54 = .ok (.invokevirtual 94, 3) := by decide +kernel
theorem dX5_ask_57 : decode cX5_ask 57 = .ok (.ireturn, 1) := by decide +kernel
theorem dX5_isHere_0 : decode cX5_isHere 0 = .ok (.aload_n 0, 1) := by decide +kernel
theorem dX5_isHere_1 : decode cX5_isHere 1 = .ok (.getfield 7, 3) := by decide +kernel
theorem dX5_isHere_4 : decode cX5_isHere 4 = .ok (.iconst 1, 1) := by decide +kernel
theorem dX5_isHere_5 : decode cX5_isHere 5 = .ok (.iaload, 1) := by decide +kernel
theorem dX5_isHere_6 : decode cX5_isHere 6 = .ok (.iconst 1, 1) := by decide +kernel
theorem dX5_isHere_7 : decode cX5_isHere 7 = .ok (.if_icmp .ne 20, 3) := by decide +kernel
theorem dX5_isHere_10 : decode cX5_isHere 10 = .ok (.aload_n 0, 1) := by decide +kernel
theorem dX5_isHere_11 : decode cX5_isHere 11 = .ok (.getfield 7, 3) := by decide +kernel
theorem dX5_isHere_14 : decode cX5_isHere 14 = .ok (.bipush 17, 2) := by decide +kernel
theorem dX5_isHere_16 : decode cX5_isHere 16 = .ok (.iload_n 1, 1) := by decide +kernel
theorem dX5_isHere_17 : decode cX5_isHere 17 = .ok (.iadd, 1) := by decide +kernel
theorem dX5_isHere_18 : decode cX5_isHere 18 = .ok (.iaload, 1) := by decide +kernel
theorem dX5_isHere_19 : decode cX5_isHere 19 = .ok (.iconst 1, 1) := by decide +kernel
theorem dX5_isHere_20 : decode cX5_isHere 20 = .ok (.if_icmp .ne 7, 3) := by decide +kernel
theorem dX5_isHere_23 : decode cX5_isHere 23 = .ok (.iconst 1, 1) := by decide +kernel
theorem dX5_isHere_24 : decode cX5_isHere 24 = .ok (.goto 4, 3) := by decide +kernel
theorem dX5_isHere_27 : decode cX5_isHere 27 = .ok (.iconst 0, 1) := by decide +kernel
theorem dX5_isHere_28 : decode cX5_isHere 28 = .ok (.ireturn, 1) := by decide +kernel
theorem dX5_proves_0 : decode cX5_proves 0 = .ok (.aload_n 0, 1) := by decide +kernel
theorem dX5_proves_1 : decode cX5_proves 1 = .ok (.getfield 7, 3) := by decide +kernel
theorem dX5_proves_4 : decode cX5_proves 4 = .ok (.bipush 13, 2) := by decide +kernel
theorem dX5_proves_6 : decode cX5_proves 6 = .ok (.iload_n 1, 1) := by decide +kernel
theorem dX5_proves_7 : decode cX5_proves 7 = .ok (.iadd, 1) := by decide +kernel
theorem dX5_proves_8 : decode cX5_proves 8 = .ok (.iaload, 1) := by decide +kernel
theorem dX5_proves_9 : decode cX5_proves 9 = .ok (.iload_n 2, 1) := by decide +kernel
theorem dX5_proves_10 : decode cX5_proves 10 = .ok (.ishr, 1) := by decide +kernel
theorem dX5_proves_11 : decode cX5_proves 11 = .ok (.iconst 1, 1) := by decide +kernel
theorem dX5_proves_12 : decode cX5_proves 12 = .ok (.iand, 1) := by decide +kernel
theorem dX5_proves_13 : decode cX5_proves 13 = .ok (.iconst 1, 1) := by decide +kernel
theorem dX5_proves_14 : decode cX5_proves 14 = .ok (.if_icmp .ne 7, 3) := by decide +kernel
theorem dX5_proves_17 : decode cX5_proves 17 = .ok (.iconst 1, 1) := by decide +kernel
theorem dX5_proves_18 : decode cX5_proves 18 = .ok (.goto 4, 3) := by decide +kernel
theorem dX5_proves_21 : decode cX5_proves 21 = .ok (.iconst 0, 1) := by decide +kernel
theorem dX5_proves_22 : decode cX5_proves 22 = .ok (.istore_n 3, 1) := by decide +kernel
theorem dX5_proves_23 : decode cX5_proves 23 = .ok (.aload_n 0, 1) := by decide +kernel
theorem dX5_proves_24 : decode cX5_proves 24 = .ok (.getfield 7, 3) := by decide +kernel
theorem dX5_proves_27 : decode cX5_proves 27 = .ok (.iload_n 3, 1) := by decide +kernel
theorem dX5_proves_28 : decode cX5_proves 28 = .ok (.ifCond .eq 10, 3) := by decide +kernel
theorem dX5_proves_31 : decode cX5_proves 31 = .ok (.bipush 33, 2) := by decide +kernel
theorem dX5_proves_33 : decode cX5_proves 33 = .ok (.iload_n 1, 1) := by decide +kernel
theorem dX5_proves_34 : decode cX5_proves 34 = .ok (.iadd, 1) := by decide +kernel
theorem dX5_proves_35 : decode cX5_proves 35 = .ok (.goto 7, 3) := by decide +kernel
theorem dX5_proves_38 : decode cX5_proves 38 = .ok (.bipush 37, 2) := by decide +kernel
theorem dX5_proves_40 : decode cX5_proves 40 = .ok (.iload_n 1, 1) := by decide +kernel
theorem dX5_proves_41 : decode cX5_proves 41 = .ok (.iadd, 1) := by decide +kernel
theorem dX5_proves_42 : decode cX5_proves 42 = .ok (.dup2, 1) := by decide +kernel
theorem dX5_proves_43 : decode cX5_proves 43 = .ok (.iaload, 1) := by decide +kernel
theorem dX5_proves_44 : decode cX5_proves 44 = .ok (.iconst 1, 1) := by decide +kernel
theorem dX5_proves_45 : decode cX5_proves 45 = .ok (.iload_n 2, 1) := by decide +kernel
theorem dX5_proves_46 : decode cX5_proves 46 = .ok (.ishl, 1) := by decide +kernel
theorem dX5_proves_47 : decode cX5_proves 47 = .ok (.ior, 1) := by decide +kernel
theorem dX5_proves_48 : decode cX5_proves 48 = .ok (.iastore, 1) := by decide +kernel
theorem dX5_proves_49 : decode cX5_proves 49 = .ok (.aload_n 0, 1) := by decide +kernel
theorem dX5_proves_50 : decode cX5_proves 50 = .ok (.getfield 7, 3) := by decide +kernel
theorem dX5_proves_53 : decode cX5_proves 53 = .ok (.bipush 29, 2) := by decide +kernel
theorem dX5_proves_55 : decode cX5_proves 55 = .ok (.iload_n 1, 1) := by decide +kernel
theorem dX5_proves_56 : decode cX5_proves 56 = .ok (.iadd, 1) := by decide +kernel
theorem dX5_proves_57 : decode cX5_proves 57 = .ok (.dup2, 1) := by decide +kernel
theorem dX5_proves_58 : decode cX5_proves 58 = .ok (.iaload, 1) := by decide +kernel
theorem dX5_proves_59 : decode cX5_proves 59 = .ok (.iconst 1, 1) := by decide +kernel
theorem dX5_proves_60 : decode cX5_proves 60 = .ok (.iadd, 1) := by decide +kernel
theorem dX5_proves_61 : decode cX5_proves 61 = .ok (.iastore, 1) := by decide +kernel
theorem dX5_proves_62 : decode cX5_proves 62 = .ok (.aload_n 0, 1) := by decide +kernel
theorem dX5_proves_63 : decode cX5_proves 63 = .ok (.getfield 7, 3) := by decide +kernel
theorem dX5_proves_66 : decode cX5_proves 66 = .ok (.bipush 8, 2) := by decide +kernel
theorem dX5_proves_68 : decode cX5_proves 68 = .ok (.dup2, 1) := by decide +kernel
theorem dX5_proves_69 : decode cX5_proves 69 = .ok (.iaload, 1) := by decide +kernel
theorem dX5_proves_70 : decode cX5_proves 70 = .ok (.iconst 1, 1) := by decide +kernel
theorem dX5_proves_71 : decode cX5_proves 71 = .ok (.iadd, 1) := by decide +kernel
theorem dX5_proves_72 : decode cX5_proves 72 = .ok (.iastore, 1) := by decide +kernel
theorem dX5_proves_73 : decode cX5_proves 73 = .ok (.iload_n 3, 1) := by decide +kernel
theorem dX5_proves_74 : decode cX5_proves 74 = .ok (.ireturn, 1) := by decide +kernel
set_option maxRecDepth 20000 in
theorem ggX5_prove_X5_isGuest : GoodIn wsX5_prove wsX5_isGuest := goodIn_r _ [5, 6, 7, 8, 4, 9, 32, 33, 34, 35, 36, 37, 38, 39, 40, 41, 42, 43, 44, 45, 46, 47, 48, 49, 50, 51] (by decide +kernel) (by decide +kernel)
set_option maxRecDepth 20000 in
theorem gX5_prove_X5_isGuest : GoodIn wsX5_prove (wsV RX5 84 RX5 yX5_isGuest wsX5_isGuest) := goodIn_app (goodIn_of _ (by decide +kernel)) ggX5_prove_X5_isGuest
set_option maxRecDepth 20000 in
theorem ggX5_prove_X5_isCard : GoodIn wsX5_prove wsX5_isCard := goodIn_r _ [12, 7, 8, 4, 9] (by decide +kernel) (by decide +kernel)
set_option maxRecDepth 20000 in
theorem gX5_prove_X5_isCard : GoodIn wsX5_prove (va_wsS RX5 98 yX5_isCard wsX5_isCard) := goodIn_app (goodIn_of _ (by decide +kernel)) ggX5_prove_X5_isCard
set_option maxRecDepth 20000 in
theorem ggX5_prove_X5_isHere : GoodIn wsX5_prove wsX5_isHere := goodIn_r _ [16, 6, 32, 33, 34, 35, 36, 37, 38, 39, 40, 41, 42, 43, 44, 45, 46, 47, 48, 49, 50, 51] (by decide +kernel) (by decide +kernel)
set_option maxRecDepth 20000 in
theorem gX5_prove_X5_isHere : GoodIn wsX5_prove (wsV RX5 101 RX5 yX5_isHere wsX5_isHere) := goodIn_app (goodIn_of _ (by decide +kernel)) ggX5_prove_X5_isHere
set_option maxRecDepth 20000 in
theorem ggX5_prove_X5_refused : GoodIn wsX5_prove wsX5_refused := goodIn_r _ [20, 21, 32, 33, 34, 35, 36, 37, 38, 39, 40, 41, 42, 43, 44, 45, 46, 47, 48, 49, 50, 51] (by decide +kernel) (by decide +kernel)
set_option maxRecDepth 20000 in
theorem gX5_prove_X5_refused : GoodIn wsX5_prove (wsV RX5 50 RX5 yX5_refused wsX5_refused) := goodIn_app (goodIn_of _ (by decide +kernel)) ggX5_prove_X5_refused
set_option maxRecDepth 20000 in
theorem ggX5_prove_X5_saves : GoodIn wsX5_prove wsX5_saves := goodIn_r _ [25, 26, 27, 6, 32, 33, 34, 35, 36, 37, 38, 39, 40, 41, 42, 43, 44, 45, 46, 47, 48, 49, 50, 51] (by decide +kernel) (by decide +kernel)
set_option maxRecDepth 20000 in
theorem gX5_prove_X5_saves : GoodIn wsX5_prove (wsV RX5 70 RX5 yX5_saves wsX5_saves) := goodIn_app (goodIn_of _ (by decide +kernel)) ggX5_prove_X5_saves
set_option maxRecDepth 20000 in
theorem ggX5_prove_X5_proves : GoodIn wsX5_prove wsX5_proves := goodIn_r _ [31, 6, 32, 33, 34, 35, 36, 37, 38, 39, 40, 41, 42, 43, 44, 45, 46, 47, 48, 49, 50, 51] (by decide +kernel) (by decide +kernel)
set_option maxRecDepth 20000 in
theorem gX5_prove_X5_proves : GoodIn wsX5_prove (wsV RX5 104 RX5 yX5_proves wsX5_proves) := goodIn_app (goodIn_of _ (by decide +kernel)) ggX5_prove_X5_proves
theorem dX5_prove_0 : decode cX5_prove 0 = .ok (.aload_n 0, 1) := by decide +kernel
theorem dX5_prove_1 : decode cX5_prove 1 = .ok (.aload_n 0, 1) := by decide +kernel
theorem dX5_prove_2 : decode cX5_prove 2 = .ok (.iload_n 1, 1) := by decide +kernel
theorem dX5_prove_3 : decode cX5_prove 3 = .ok (.invokevirtual 84, 3) := by decide +kernel
theorem dX5_prove_6 : decode cX5_prove 6 = .ok (.ifCond .eq 10, 3) := by decide +kernel
theorem dX5_prove_9 : decode cX5_prove 9 = .ok (.iload_n 2, 1) := by decide +kernel
theorem dX5_prove_10 : decode cX5_prove 10 = .ok (.invokestatic 98, 3) := by decide +kernel
theorem dX5_prove_13 : decode cX5_prove 13 = .ok (.ifCond .ne 7, 3) := by decide +kernel
theorem dX5_prove_16 : decode cX5_prove 16 = .ok (.iconst 1, 1) := by decide +kernel
theorem dX5_prove_17 : decode cX5_prove 17 = .ok (.goto 16, 3) := by decide +kernel
theorem dX5_prove_20 : decode cX5_prove 20 = .ok (.aload_n 0, 1) := by decide +kernel
theorem dX5_prove_21 : decode cX5_prove 21 = .ok (.iload_n 1, 1) := by decide +kernel
theorem dX5_prove_22 : decode cX5_prove 22 = .ok (.invokevirtual 101, 3) := by decide +kernel
theorem dX5_prove_25 : decode cX5_prove 25 = .ok (.ifCond .eq 7, 3) := by decide +kernel
theorem dX5_prove_28 : decode cX5_prove 28 = .ok (.iconst 0, 1) := by decide +kernel
theorem dX5_prove_29 : decode cX5_prove 29 = .ok (.goto 4, 3) := by decide +kernel
theorem dX5_prove_32 : decode cX5_prove 32 = .ok (.iconst 2, 1) := by decide +kernel
theorem dX5_prove_33 : decode cX5_prove 33 = .ok (.invokevirtual 50, 3) := by decide +kernel
theorem dX5_prove_36 : decode cX5_prove 36 = .ok (.ifCond .eq 5, 3) := by decide +kernel
theorem dX5_prove_39 : decode cX5_prove 39 = .ok (.iconst 0, 1) := by decide +kernel
theorem dX5_prove_40 : decode cX5_prove 40 = .ok (.ireturn, 1) := by decide +kernel
theorem dX5_prove_41 : decode cX5_prove 41 = .ok (.aload_n 0, 1) := by decide +kernel
theorem dX5_prove_42 : decode cX5_prove 42 = .ok (.invokevirtual 70, 3) := by decide +kernel
theorem dX5_prove_45 : decode cX5_prove 45 = .ok (.aload_n 0, 1) := by decide +kernel
theorem dX5_prove_46 : decode cX5_prove 46 = .ok (.iload_n 1, 1) := by decide +kernel
theorem dX5_prove_47 : decode cX5_prove 47 = .ok (.iload_n 2, 1) := by decide +kernel
theorem dX5_prove_48 : decode cX5_prove 48 = .ok (.invokevirtual 104, 3) := by decide +kernel
theorem dX5_prove_51 : decode cX5_prove 51 = .ok (.ireturn, 1) := by decide +kernel
theorem dX5_present_0 : decode cX5_present 0 = .ok (.iconst 0, 1) := by decide +kernel
theorem dX5_present_1 : decode cX5_present 1 = .ok (.istore_n 1, 1) := by decide +kernel
theorem dX5_present_2 : decode cX5_present 2 = .ok (.iconst 0, 1) := by decide +kernel
theorem dX5_present_3 : decode cX5_present 3 = .ok (.istore_n 2, 1) := by decide +kernel
theorem dX5_present_4 : decode cX5_present 4 = .ok (.iload_n 2, 1) := by decide +kernel
theorem dX5_present_5 : decode cX5_present 5 = .ok (.aload_n 0, 1) := by decide +kernel
theorem dX5_present_6 : decode cX5_present 6 = .ok (.getfield 7, 3) := by decide +kernel
theorem dX5_present_9 : decode cX5_present 9 = .ok (.iconst 0, 1) := by decide +kernel
theorem dX5_present_10 : decode cX5_present 10 = .ok (.iaload, 1) := by decide +kernel
theorem dX5_present_11 : decode cX5_present 11 = .ok (.if_icmp .ge 21, 3) := by decide +kernel
theorem dX5_present_14 : decode cX5_present 14 = .ok (.iload_n 1, 1) := by decide +kernel
theorem dX5_present_15 : decode cX5_present 15 = .ok (.aload_n 0, 1) := by decide +kernel
theorem dX5_present_16 : decode cX5_present 16 = .ok (.getfield 7, 3) := by decide +kernel
theorem dX5_present_19 : decode cX5_present 19 = .ok (.bipush 17, 2) := by decide +kernel
theorem dX5_present_21 : decode cX5_present 21 = .ok (.iload_n 2, 1) := by decide +kernel
theorem dX5_present_22 : decode cX5_present 22 = .ok (.iadd, 1) := by decide +kernel
theorem dX5_present_23 : decode cX5_present 23 = .ok (.iaload, 1) := by decide +kernel
theorem dX5_present_24 : decode cX5_present 24 = .ok (.iadd, 1) := by decide +kernel
theorem dX5_present_25 : decode cX5_present 25 = .ok (.istore_n 1, 1) := by decide +kernel
theorem dX5_present_26 : decode cX5_present 26 = .ok (.iinc 2 1, 3) := by decide +kernel
theorem dX5_present_29 : decode cX5_present 29 = .ok (.goto (-25), 3) := by decide +kernel
theorem dX5_present_32 : decode cX5_present 32 = .ok (.iload_n 1, 1) := by decide +kernel
theorem dX5_present_33 : decode cX5_present 33 = .ok (.ireturn, 1) := by decide +kernel
set_option maxRecDepth 20000 in
theorem ggX5_leave_X5_isGuest : GoodIn wsX5_leave wsX5_isGuest := goodIn_r _ [6, 1, 7, 8, 5, 9, 29, 30, 31, 32, 33, 34, 35, 36, 37, 38, 39, 40, 41, 42, 43, 44, 45, 46, 47, 48] (by decide +kernel) (by decide +kernel)
set_option maxRecDepth 20000 in
theorem gX5_leave_X5_isGuest : GoodIn wsX5_leave (wsV RX5 84 RX5 yX5_isGuest wsX5_isGuest) := goodIn_app (goodIn_of _ (by decide +kernel)) ggX5_leave_X5_isGuest
set_option maxRecDepth 20000 in
theorem ggX5_leave_X5_isHere : GoodIn wsX5_leave wsX5_isHere := goodIn_r _ [13, 1, 29, 30, 31, 32, 33, 34, 35, 36, 37, 38, 39, 40, 41, 42, 43, 44, 45, 46, 47, 48] (by decide +kernel) (by decide +kernel)
set_option maxRecDepth 20000 in
theorem gX5_leave_X5_isHere : GoodIn wsX5_leave (wsV RX5 101 RX5 yX5_isHere wsX5_isHere) := goodIn_app (goodIn_of _ (by decide +kernel)) ggX5_leave_X5_isHere
set_option maxRecDepth 20000 in
theorem ggX5_leave_X5_refused : GoodIn wsX5_leave wsX5_refused := goodIn_r _ [17, 18, 29, 30, 31, 32, 33, 34, 35, 36, 37, 38, 39, 40, 41, 42, 43, 44, 45, 46, 47, 48] (by decide +kernel) (by decide +kernel)
set_option maxRecDepth 20000 in
theorem gX5_leave_X5_refused : GoodIn wsX5_leave (wsV RX5 50 RX5 yX5_refused wsX5_refused) := goodIn_app (goodIn_of _ (by decide +kernel)) ggX5_leave_X5_refused
set_option maxRecDepth 20000 in
theorem ggX5_leave_X5_saves : GoodIn wsX5_leave wsX5_saves := goodIn_r _ [22, 23, 24, 1, 29, 30, 31, 32, 33, 34, 35, 36, 37, 38, 39, 40, 41, 42, 43, 44, 45, 46, 47, 48] (by decide +kernel) (by decide +kernel)
set_option maxRecDepth 20000 in
theorem gX5_leave_X5_saves : GoodIn wsX5_leave (wsV RX5 70 RX5 yX5_saves wsX5_saves) := goodIn_app (goodIn_of _ (by decide +kernel)) ggX5_leave_X5_saves
set_option maxRecDepth 20000 in
theorem ggX5_leave_X5_present : GoodIn wsX5_leave wsX5_present := goodIn_r _ [28, 1, 29, 30, 31, 32, 33, 34, 35, 36, 37, 38, 39, 40, 41, 42, 43, 44, 45, 46, 47, 48] (by decide +kernel) (by decide +kernel)
set_option maxRecDepth 20000 in
theorem gX5_leave_X5_present : GoodIn wsX5_leave (wsV RX5 108 RX5 yX5_present wsX5_present) := goodIn_app (goodIn_of _ (by decide +kernel)) ggX5_leave_X5_present
theorem dX5_leave_0 : decode cX5_leave 0 = .ok (.aload_n 0, 1) := by decide +kernel
theorem dX5_leave_1 : decode cX5_leave 1 = .ok (.aload_n 0, 1) := by decide +kernel
theorem dX5_leave_2 : decode cX5_leave 2 = .ok (.iload_n 1, 1) := by decide +kernel
theorem dX5_leave_3 : decode cX5_leave 3 = .ok (.invokevirtual 84, 3) := by decide +kernel
theorem dX5_leave_6 : decode cX5_leave 6 = .ok (.ifCond .ne 7, 3) := by decide +kernel
theorem dX5_leave_9 : decode cX5_leave 9 = .ok (.iconst 1, 1) := by decide +kernel
theorem dX5_leave_10 : decode cX5_leave 10 = .ok (.goto 16, 3) := by decide +kernel
theorem dX5_leave_13 : decode cX5_leave 13 = .ok (.aload_n 0, 1) := by decide +kernel
theorem dX5_leave_14 : decode cX5_leave 14 = .ok (.iload_n 1, 1) := by decide +kernel
theorem dX5_leave_15 : decode cX5_leave 15 = .ok (.invokevirtual 101, 3) := by decide +kernel
theorem dX5_leave_18 : decode cX5_leave 18 = .ok (.ifCond .eq 7, 3) := by decide +kernel
theorem dX5_leave_21 : decode cX5_leave 21 = .ok (.iconst 0, 1) := by decide +kernel
theorem dX5_leave_22 : decode cX5_leave 22 = .ok (.goto 4, 3) := by decide +kernel
theorem dX5_leave_25 : decode cX5_leave 25 = .ok (.iconst 2, 1) := by decide +kernel
theorem dX5_leave_26 : decode cX5_leave 26 = .ok (.invokevirtual 50, 3) := by decide +kernel
theorem dX5_leave_29 : decode cX5_leave 29 = .ok (.ifCond .eq 5, 3) := by decide +kernel
theorem dX5_leave_32 : decode cX5_leave 32 = .ok (.iconst 0, 1) := by decide +kernel
theorem dX5_leave_33 : decode cX5_leave 33 = .ok (.ireturn, 1) := by decide +kernel
theorem dX5_leave_34 : decode cX5_leave 34 = .ok (.aload_n 0, 1) := by decide +kernel
theorem dX5_leave_35 : decode cX5_leave 35 = .ok (.invokevirtual 70, 3) := by decide +kernel
theorem dX5_leave_38 : decode cX5_leave 38 = .ok (.aload_n 0, 1) := by decide +kernel
theorem dX5_leave_39 : decode cX5_leave 39 = .ok (.getfield 7, 3) := by decide +kernel
theorem dX5_leave_42 : decode cX5_leave 42 = .ok (.bipush 17, 2) := by decide +kernel
theorem dX5_leave_44 : decode cX5_leave 44 = .ok (.iload_n 1, 1) := by decide +kernel
theorem dX5_leave_45 : decode cX5_leave 45 = .ok (.iadd, 1) := by decide +kernel
theorem dX5_leave_46 : decode cX5_leave 46 = .ok (.iconst 0, 1) := by decide +kernel
theorem dX5_leave_47 : decode cX5_leave 47 = .ok (.iastore, 1) := by decide +kernel
theorem dX5_leave_48 : decode cX5_leave 48 = .ok (.aload_n 0, 1) := by decide +kernel
theorem dX5_leave_49 : decode cX5_leave 49 = .ok (.invokevirtual 108, 3) := by decide +kernel
theorem dX5_leave_52 : decode cX5_leave 52 = .ok (.ireturn, 1) := by decide +kernel
set_option maxRecDepth 20000 in
theorem ggX5_accuse_X5_isCard : GoodIn wsX5_accuse wsX5_isCard := goodIn_r _ [5, 6, 7, 4, 8] (by decide +kernel) (by decide +kernel)
set_option maxRecDepth 20000 in
theorem gX5_accuse_X5_isCard : GoodIn wsX5_accuse (va_wsS RX5 98 yX5_isCard wsX5_isCard) := goodIn_app (goodIn_of _ (by decide +kernel)) ggX5_accuse_X5_isCard
set_option maxRecDepth 20000 in
theorem ggX5_accuse_X5_refused : GoodIn wsX5_accuse wsX5_refused := goodIn_r _ [12, 13, 20, 21, 22, 23, 24, 25, 26, 27, 28, 29, 30, 31, 32, 33, 34, 35, 36, 37, 38, 39] (by decide +kernel) (by decide +kernel)
set_option maxRecDepth 20000 in
theorem gX5_accuse_X5_refused : GoodIn wsX5_accuse (wsV RX5 50 RX5 yX5_refused wsX5_refused) := goodIn_app (goodIn_of _ (by decide +kernel)) ggX5_accuse_X5_refused
set_option maxRecDepth 20000 in
theorem ggX5_accuse_X5_saves : GoodIn wsX5_accuse wsX5_saves := goodIn_r _ [17, 18, 19, 1, 20, 21, 22, 23, 24, 25, 26, 27, 28, 29, 30, 31, 32, 33, 34, 35, 36, 37, 38, 39] (by decide +kernel) (by decide +kernel)
set_option maxRecDepth 20000 in
theorem gX5_accuse_X5_saves : GoodIn wsX5_accuse (wsV RX5 70 RX5 yX5_saves wsX5_saves) := goodIn_app (goodIn_of _ (by decide +kernel)) ggX5_accuse_X5_saves
theorem dX5_accuse_0 : decode cX5_accuse 0 = .ok (.aload_n 0, 1) := by decide +kernel
theorem dX5_accuse_1 : decode cX5_accuse 1 = .ok (.iload_n 1, 1) := by decide +kernel
theorem dX5_accuse_2 : decode cX5_accuse 2 = .ok (.invokestatic 98, 3) := by decide +kernel
theorem dX5_accuse_5 : decode cX5_accuse 5 = .ok (.ifCond .ne 7, 3) := by decide +kernel
theorem dX5_accuse_8 : decode cX5_accuse 8 = .ok (.iconst 1, 1) := by decide +kernel
theorem dX5_accuse_9 : decode cX5_accuse 9 = .ok (.goto 18, 3) := by decide +kernel
theorem dX5_accuse_12 : decode cX5_accuse 12 = .ok (.aload_n 0, 1) := by decide +kernel
theorem dX5_accuse_13 : decode cX5_accuse 13 = .ok (.getfield 7, 3) := by decide +kernel
theorem dX5_accuse_16 : decode cX5_accuse 16 = .ok (.iconst 1, 1) := by decide +kernel
theorem dX5_accuse_17 : decode cX5_accuse 17 = .ok (.iaload, 1) := by decide +kernel
theorem dX5_accuse_18 : decode cX5_accuse 18 = .ok (.iconst 1, 1) := by decide +kernel
theorem dX5_accuse_19 : decode cX5_accuse 19 = .ok (.if_icmp .ne 7, 3) := by decide +kernel
theorem dX5_accuse_22 : decode cX5_accuse 22 = .ok (.iconst 0, 1) := by decide +kernel
theorem dX5_accuse_23 : decode cX5_accuse 23 = .ok (.goto 4, 3) := by decide +kernel
theorem dX5_accuse_26 : decode cX5_accuse 26 = .ok (.iconst 2, 1) := by decide +kernel
theorem dX5_accuse_27 : decode cX5_accuse 27 = .ok (.invokevirtual 50, 3) := by decide +kernel
theorem dX5_accuse_30 : decode cX5_accuse 30 = .ok (.ifCond .eq 5, 3) := by decide +kernel
theorem dX5_accuse_33 : decode cX5_accuse 33 = .ok (.iconst 0, 1) := by decide +kernel
theorem dX5_accuse_34 : decode cX5_accuse 34 = .ok (.ireturn, 1) := by decide +kernel
theorem dX5_accuse_35 : decode cX5_accuse 35 = .ok (.aload_n 0, 1) := by decide +kernel
theorem dX5_accuse_36 : decode cX5_accuse 36 = .ok (.invokevirtual 70, 3) := by decide +kernel
theorem dX5_accuse_39 : decode cX5_accuse 39 = .ok (.iload_n 1, 1) := by decide +kernel
theorem dX5_accuse_40 : decode cX5_accuse 40 = .ok (.aload_n 0, 1) := by decide +kernel
theorem dX5_accuse_41 : decode cX5_accuse 41 = .ok (.getfield 7, 3) := by decide +kernel
theorem dX5_accuse_44 : decode cX5_accuse 44 = .ok (.iconst 2, 1) := by decide +kernel
theorem dX5_accuse_45 : decode cX5_accuse 45 = .ok (.iaload, 1) := by decide +kernel
theorem dX5_accuse_46 : decode cX5_accuse 46 = .ok (.if_icmp .ne 7, 3) := by decide +kernel
theorem dX5_accuse_49 : decode cX5_accuse 49 = .ok (.iconst 1, 1) := by decide +kernel
theorem dX5_accuse_50 : decode cX5_accuse 50 = .ok (.goto 4, 3) := by decide +kernel
theorem dX5_accuse_53 : decode cX5_accuse 53 = .ok (.iconst 0, 1) := by decide +kernel
theorem dX5_accuse_54 : decode cX5_accuse 54 = .ok (.istore_n 2, 1) := by decide +kernel
theorem dX5_accuse_55 : decode cX5_accuse 55 = .ok (.aload_n 0, 1) := by decide +kernel
theorem dX5_accuse_56 : decode cX5_accuse 56 = .ok (.getfield 7, 3) := by decide +kernel
theorem dX5_accuse_59 : decode cX5_accuse 59 = .ok (.iconst 1, 1) := by decide +kernel
theorem dX5_accuse_60 : decode cX5_accuse 60 = .ok (.iconst 0, 1) := by decide +kernel
theorem dX5_accuse_61 : decode cX5_accuse 61 = .ok (.iastore, 1) := by decide +kernel
theorem dX5_accuse_62 : decode cX5_accuse 62 = .ok (.aload_n 0, 1) := by decide +kernel
theorem dX5_accuse_63 : decode cX5_accuse 63 = .ok (.getfield 7, 3) := by decide +kernel
theorem dX5_accuse_66 : decode cX5_accuse 66 = .ok (.iconst 4, 1) := by decide +kernel
theorem dX5_accuse_67 : decode cX5_accuse 67 = .ok (.dup2, 1) := by decide +kernel
theorem dX5_accuse_68 : decode cX5_accuse 68 = .ok (.iaload, 1) := by decide +kernel
theorem dX5_accuse_69 : decode cX5_accuse 69 = .ok (.iconst 1, 1) := by decide +kernel
theorem dX5_accuse_70 : decode cX5_accuse 70 = .ok (.iadd, 1) := by decide +kernel
theorem dX5_accuse_71 : decode cX5_accuse 71 = .ok (.iastore, 1) := by decide +kernel
theorem dX5_accuse_72 : decode cX5_accuse 72 = .ok (.aload_n 0, 1) := by decide +kernel
theorem dX5_accuse_73 : decode cX5_accuse 73 = .ok (.getfield 7, 3) := by decide +kernel
theorem dX5_accuse_76 : decode cX5_accuse 76 = .ok (.iconst 5, 1) := by decide +kernel
theorem dX5_accuse_77 : decode cX5_accuse 77 = .ok (.dup2, 1) := by decide +kernel
theorem dX5_accuse_78 : decode cX5_accuse 78 = .ok (.iaload, 1) := by decide +kernel
theorem dX5_accuse_79 : decode cX5_accuse 79 = .ok (.iload_n 2, 1) := by decide +kernel
theorem dX5_accuse_80 : decode cX5_accuse 80 = .ok (.ifCond .eq 7, 3) := by decide +kernel
theorem dX5_accuse_83 : decode cX5_accuse 83 = .ok (.iconst 1, 1) := by decide +kernel
theorem dX5_accuse_84 : decode cX5_accuse 84 = .ok (.goto 4, 3) := by decide +kernel
theorem dX5_accuse_87 : decode cX5_accuse 87 = .ok (.iconst 0, 1) := by decide +kernel
theorem dX5_accuse_88 : decode cX5_accuse 88 = .ok (.iadd, 1) := by decide +kernel
theorem dX5_accuse_89 : decode cX5_accuse 89 = .ok (.iastore, 1) := by decide +kernel
theorem dX5_accuse_90 : decode cX5_accuse 90 = .ok (.aload_n 0, 1) := by decide +kernel
theorem dX5_accuse_91 : decode cX5_accuse 91 = .ok (.getfield 7, 3) := by decide +kernel
theorem dX5_accuse_94 : decode cX5_accuse 94 = .ok (.bipush 6, 2) := by decide +kernel
theorem dX5_accuse_96 : decode cX5_accuse 96 = .ok (.dup2, 1) := by decide +kernel
theorem dX5_accuse_97 : decode cX5_accuse 97 = .ok (.iaload, 1) := by decide +kernel
theorem dX5_accuse_98 : decode cX5_accuse 98 = .ok (.iload_n 2, 1) := by decide +kernel
theorem dX5_accuse_99 : decode cX5_accuse 99 = .ok (.ifCond .eq 16, 3) := by decide +kernel
theorem dX5_accuse_102 : decode cX5_accuse 102 = .ok (.bipush 21, 2) := by decide +kernel
theorem dX5_accuse_104 : decode cX5_accuse 104 = .ok (.aload_n 0, 1) := by decide +kernel
theorem dX5_accuse_105 : decode cX5_accuse 105 = .ok (.getfield 7, 3) := by decide +kernel
theorem dX5_accuse_108 : decode cX5_accuse 108 = .ok (.bipush 7, 2) := by decide +kernel
theorem dX5_accuse_110 : decode cX5_accuse 110 = .ok (.iaload, 1) := by decide +kernel
theorem dX5_accuse_111 : decode cX5_accuse 111 = .ok (.isub, 1) := by decide +kernel
theorem dX5_accuse_112 : decode cX5_accuse 112 = .ok (.goto 5, 3) := by decide +kernel
theorem dX5_accuse_115 : decode cX5_accuse 115 = .ok (.bipush (-10), 2) := by decide +kernel
theorem dX5_accuse_117 : decode cX5_accuse 117 = .ok (.iadd, 1) := by decide +kernel
theorem dX5_accuse_118 : decode cX5_accuse 118 = .ok (.iastore, 1) := by decide +kernel
theorem dX5_accuse_119 : decode cX5_accuse 119 = .ok (.aload_n 0, 1) := by decide +kernel
theorem dX5_accuse_120 : decode cX5_accuse 120 = .ok (.getfield 7, 3) := by decide +kernel
theorem dX5_accuse_123 : decode cX5_accuse 123 = .ok (.iconst 2, 1) := by decide +kernel
theorem dX5_accuse_124 : decode cX5_accuse 124 = .ok (.iaload, 1) := by decide +kernel
theorem dX5_accuse_125 : decode cX5_accuse 125 = .ok (.ireturn, 1) := by decide +kernel
set_option maxRecDepth 20000 in
theorem ggX5_isPossible_X5_many : GoodIn wsX5_isPossible wsX5_many := goodIn_r _ [7] (by decide +kernel) (by decide +kernel)
set_option maxRecDepth 20000 in
theorem gX5_isPossible_X5_many : GoodIn wsX5_isPossible (va_wsS RX5 65 yX5_many wsX5_many) := goodIn_app (goodIn_of _ (by decide +kernel)) ggX5_isPossible_X5_many
theorem dX5_isPossible_0 : decode cX5_isPossible 0 = .ok (.iconst 0, 1) := by decide +kernel
theorem dX5_isPossible_1 : decode cX5_isPossible 1 = .ok (.istore_n 1, 1) := by decide +kernel
theorem dX5_isPossible_2 : decode cX5_isPossible 2 = .ok (.iload_n 1, 1) := by decide +kernel
theorem dX5_isPossible_3 : decode cX5_isPossible 3 = .ok (.aload_n 0, 1) := by decide +kernel
theorem dX5_isPossible_4 : decode cX5_isPossible 4 = .ok (.getfield 7, 3) := by decide +kernel
theorem dX5_isPossible_7 : decode cX5_isPossible 7 = .ok (.iconst 0, 1) := by decide +kernel
theorem dX5_isPossible_8 : decode cX5_isPossible 8 = .ok (.iaload, 1) := by decide +kernel
theorem dX5_isPossible_9 : decode cX5_isPossible 9 = .ok (.if_icmp .ge 58, 3) := by decide +kernel
theorem dX5_isPossible_12 : decode cX5_isPossible 12 = .ok (.aload_n 0, 1) := by decide +kernel
theorem dX5_isPossible_13 : decode cX5_isPossible 13 = .ok (.getfield 40, 3) := by decide +kernel
theorem dX5_isPossible_16 : decode cX5_isPossible 16 = .ok (.iload_n 1, 1) := by decide +kernel
theorem dX5_isPossible_17 : decode cX5_isPossible 17 = .ok (.iconst 0, 1) := by decide +kernel
theorem dX5_isPossible_18 : decode cX5_isPossible 18 = .ok (.iastore, 1) := by decide +kernel
theorem dX5_isPossible_19 : decode cX5_isPossible 19 = .ok (.aload_n 0, 1) := by decide +kernel
theorem dX5_isPossible_20 : decode cX5_isPossible 20 = .ok (.getfield 7, 3) := by decide +kernel
theorem dX5_isPossible_23 : decode cX5_isPossible 23 = .ok (.bipush 33, 2) := by decide +kernel
theorem dX5_isPossible_25 : decode cX5_isPossible 25 = .ok (.iload_n 1, 1) := by decide +kernel
theorem dX5_isPossible_26 : decode cX5_isPossible 26 = .ok (.iadd, 1) := by decide +kernel
theorem dX5_isPossible_27 : decode cX5_isPossible 27 = .ok (.iaload, 1) := by decide +kernel
theorem dX5_isPossible_28 : decode cX5_isPossible 28 = .ok (.aload_n 0, 1) := by decide +kernel
theorem dX5_isPossible_29 : decode cX5_isPossible 29 = .ok (.getfield 37, 3) := by decide +kernel
theorem dX5_isPossible_32 : decode cX5_isPossible 32 = .ok (.iload_n 1, 1) := by decide +kernel
theorem dX5_isPossible_33 : decode cX5_isPossible 33 = .ok (.iaload, 1) := by decide +kernel
theorem dX5_isPossible_34 : decode cX5_isPossible 34 = .ok (.iconst (-1), 1) := by decide +kernel
theorem dX5_isPossible_35 : decode cX5_isPossible 35 = .ok (.ixor, 1) := by decide +kernel
theorem dX5_isPossible_36 : decode cX5_isPossible 36 = .ok (.iand, 1) := by decide +kernel
theorem dX5_isPossible_37 : decode cX5_isPossible 37 = .ok (.ifCond .ne 22, 3) := by decide +kernel
