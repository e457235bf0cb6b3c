theorem dX4_digest_158 : decode cX4_digest 158 = .ok (.lmul, 1) := by decide +kernel
theorem dX4_digest_159 : decode cX4_digest 159 = .ok (.aload_n 0, 1) := by decide +kernel
theorem dX4_digest_160 : decode cX4_digest 160 = .ok (.getfield 10, 3) := by decide +kernel
theorem dX4_digest_163 : decode cX4_digest 163 = .ok (.getfield 146, 3) := by decide +kernel
theorem dX4_digest_166 : decode cX4_digest 166 = .ok (.getfield 149, 3) := by decide +kernel
theorem dX4_digest_169 : decode cX4_digest 169 = .ok (.i2l, 1) := by decide +kernel
theorem dX4_digest_170 : decode cX4_digest 170 = .ok (.ladd, 1) := by decide +kernel
theorem dX4_digest_171 : decode cX4_digest 171 = .ok (.lstore_n 1, 1) := by decide +kernel
theorem dX4_digest_172 : decode cX4_digest 172 = .ok (.iconst 0, 1) := by decide +kernel
theorem dX4_digest_173 : decode cX4_digest 173 = .ok (.istore_n 3, 1) := by decide +kernel
theorem dX4_digest_174 : decode cX4_digest 174 = .ok (.iload_n 3, 1) := by decide +kernel
theorem dX4_digest_175 : decode cX4_digest 175 = .ok (.bipush 8, 2) := by decide +kernel
theorem dX4_digest_177 : decode cX4_digest 177 = .ok (.if_icmp .ge 29, 3) := by decide +kernel
theorem dX4_digest_180 : decode cX4_digest 180 = .ok (.ldc2_w 204, 3) := by decide +kernel
theorem dX4_digest_183 : decode cX4_digest 183 = .ok (.lload_n 1, 1) := by decide +kernel
theorem dX4_digest_184 : decode cX4_digest 184 = .ok (.lmul, 1) := by decide +kernel
theorem dX4_digest_185 : decode cX4_digest 185 = .ok (.aload_n 0, 1) := by decide +kernel
theorem dX4_digest_186 : decode cX4_digest 186 = .ok (.getfield 10, 3) := by decide +kernel
theorem dX4_digest_189 : decode cX4_digest 189 = .ok (.getfield 146, 3) := by decide +kernel
theorem dX4_digest_192 : decode cX4_digest 192 = .ok (.iconst 4, 1) := by decide +kernel
theorem dX4_digest_193 : decode cX4_digest 193 = .ok (.iload_n 3, 1) := by decide +kernel
theorem dX4_digest_194 : decode cX4_digest 194 = .ok (.invokevirtual 152, 3) := by decide +kernel
theorem dX4_digest_197 : decode cX4_digest 197 = .ok (.i2l, 1) := by decide +kernel
theorem dX4_digest_198 : decode cX4_digest 198 = .ok (.ladd, 1) := by decide +kernel
theorem dX4_digest_199 : decode cX4_digest 199 = .ok (.lstore_n 1, 1) := by decide +kernel
theorem dX4_digest_200 : decode cX4_digest 200 = .ok (.iinc 3 1, 3) := by decide +kernel
theorem dX4_digest_203 : decode cX4_digest 203 = .ok (.goto (-29), 3) := by decide +kernel
theorem dX4_digest_206 : decode cX4_digest 206 = .ok (.ldc2_w 204, 3) := by decide +kernel
theorem dX4_digest_209 : decode cX4_digest 209 = .ok (.lload_n 1, 1) := by decide +kernel
theorem dX4_digest_210 : decode cX4_digest 210 = .ok (.lmul, 1) := by decide +kernel
theorem dX4_digest_211 : decode cX4_digest 211 = .ok (.aload_n 0, 1) := by decide +kernel
theorem dX4_digest_212 : decode cX4_digest 212 = .ok (.getfield 194, 3) := by decide +kernel
theorem dX4_digest_215 : decode cX4_digest 215 = .ok (.i2l, 1) := by decide +kernel
theorem dX4_digest_216 : decode cX4_digest 216 = .ok (.ladd, 1) := by decide +kernel
theorem dX4_digest_217 : decode cX4_digest 217 = .ok (.lreturn, 1) := by decide +kernel
set_option maxRecDepth 20000 in
theorem ggX4_playItems_X3_readItem : GoodIn wsX4_playItems wsX3_readItem := goodIn_r _ [6, 7, 8, 9, 10, 11, 12, 5, 13, 14, 15, 16, 17, 18, 19, 20, 21, 22, 23, 24, 25, 132, 133, 134, 135, 136, 137, 138] (by decide +kernel) (by decide +kernel)
set_option maxRecDepth 20000 in
theorem gX4_playItems_X3_readItem : GoodIn wsX4_playItems (wsV RX4 209 RX3 yX3_readItem wsX3_readItem) := goodIn_app (goodIn_of _ (by decide +kernel)) ggX4_playItems_X3_readItem
set_option maxRecDepth 20000 in
theorem ggX4_playItems_X4_playItem : GoodIn wsX4_playItems wsX4_playItem := goodIn_r _ [30, 1, 31, 32, 33, 34, 35, 36, 37, 38, 39, 40, 41, 42, 43, 44, 45, 46, 47, 48, 49, 50, 51, 52, 53, 54, 55, 56, 57, 58, 59, 60, 61, 62, 63, 64, 65, 66, 67, 68, 69, 70, 29, 71, 72, 73, 74, 75, 76, 77, 78, 79, 80, 81, 82, 83, 84, 85, 86, 87, 88, 89, 90, 91, 92, 93, 94, 95, 96, 97, 98, 99, 100, 101, 102, 103, 104, 105, 106, 107, 108, 109, 110, 111, 112, 113, 114, 115, 116, 117, 118, 119, 120, 121, 122, 123, 124, 125, 126, 127, 128, 129, 130, 131, 132, 133, 134, 135, 136, 137, 138, 139, 140, 141, 142, 143, 144, 145, 146, 147, 148, 149, 150, 151, 152, 153, 154, 155, 156, 157, 158, 159] (by decide +kernel) (by decide +kernel)
set_option maxRecDepth 20000 in
theorem gX4_playItems_X4_playItem : GoodIn wsX4_playItems (wsV RX4 212 RX4 yX4_playItem wsX4_playItem) := goodIn_app (goodIn_of _ (by decide +kernel)) ggX4_playItems_X4_playItem
theorem dX4_playItems_0 : decode cX4_playItems 0 = .ok (.iconst 0, 1) := by decide +kernel
theorem dX4_playItems_1 : decode cX4_playItems 1 = .ok (.istore_n 1, 1) := by decide +kernel
theorem dX4_playItems_2 : decode cX4_playItems 2 = .ok (.iconst 0, 1) := by decide +kernel
theorem dX4_playItems_3 : decode cX4_playItems 3 = .ok (.istore_n 2, 1) := by decide +kernel
theorem dX4_playItems_4 : decode cX4_playItems 4 = .ok (.iconst 0, 1) := by decide +kernel
theorem dX4_playItems_5 : decode cX4_playItems 5 = .ok (.istore_n 3, 1) := by decide +kernel
theorem dX4_playItems_6 : decode cX4_playItems 6 = .ok (.iload_n 3, 1) := by decide +kernel
theorem dX4_playItems_7 : decode cX4_playItems 7 = .ok (.bipush 90, 2) := by decide +kernel
theorem dX4_playItems_9 : decode cX4_playItems 9 = .ok (.if_icmp .ge 51, 3) := by decide +kernel
theorem dX4_playItems_12 : decode cX4_playItems 12 = .ok (.iload_n 2, 1) := by decide +kernel
theorem dX4_playItems_13 : decode cX4_playItems 13 = .ok (.aload_n 0, 1) := by decide +kernel
theorem dX4_playItems_14 : decode cX4_playItems 14 = .ok (.getfield 40, 3) := by decide +kernel
theorem dX4_playItems_17 : decode cX4_playItems 17 = .ok (.getfield 180, 3) := by decide +kernel
theorem dX4_playItems_20 : decode cX4_playItems 20 = .ok (.if_icmp .ge 40, 3) := by decide +kernel
theorem dX4_playItems_23 : decode cX4_playItems 23 = .ok (.aload_n 0, 1) := by decide +kernel
theorem dX4_playItems_24 : decode cX4_playItems 24 = .ok (.getfield 40, 3) := by decide +kernel
theorem dX4_playItems_27 : decode cX4_playItems 27 = .ok (.iload_n 2, 1) := by decide +kernel
theorem dX4_playItems_28 : decode cX4_playItems 28 = .ok (.invokevirtual 209, 3) := by decide +kernel
theorem dX4_playItems_31 : decode cX4_playItems 31 = .ok (.ifCond .eq 10, 3) := by decide +kernel
theorem dX4_playItems_34 : decode cX4_playItems 34 = .ok (.aload_n 0, 1) := by decide +kernel
theorem dX4_playItems_35 : decode cX4_playItems 35 = .ok (.invokevirtual 212, 3) := by decide +kernel
theorem dX4_playItems_38 : decode cX4_playItems 38 = .ok (.ifCond .ne 5, 3) := by decide +kernel
theorem dX4_playItems_41 : decode cX4_playItems 41 = .ok (.iload_n 1, 1) := by decide +kernel
theorem dX4_playItems_42 : decode cX4_playItems 42 = .ok (.ireturn, 1) := by decide +kernel
theorem dX4_playItems_43 : decode cX4_playItems 43 = .ok (.iinc 1 1, 3) := by decide +kernel
theorem dX4_playItems_46 : decode cX4_playItems 46 = .ok (.aload_n 0, 1) := by decide +kernel
theorem dX4_playItems_47 : decode cX4_playItems 47 = .ok (.getfield 40, 3) := by decide +kernel
theorem dX4_playItems_50 : decode cX4_playItems 50 = .ok (.getfield 216, 3) := by decide +kernel
theorem dX4_playItems_53 : decode cX4_playItems 53 = .ok (.istore_n 2, 1) := by decide +kernel
theorem dX4_playItems_54 : decode cX4_playItems 54 = .ok (.iinc 3 1, 3) := by decide +kernel
theorem dX4_playItems_57 : decode cX4_playItems 57 = .ok (.goto (-51), 3) := by decide +kernel
theorem dX4_playItems_60 : decode cX4_playItems 60 = .ok (.iload_n 1, 1) := by decide +kernel
theorem dX4_playItems_61 : decode cX4_playItems 61 = .ok (.ireturn, 1) := by decide +kernel
set_option maxRecDepth 20000 in
theorem ggX4_playItem_X1_canAnswer : GoodIn wsX4_playItem wsX1_canAnswer := goodIn_r _ [7, 8, 9, 10, 11, 12, 6, 13, 14, 15, 16, 17, 18, 19, 20, 111, 112, 113, 114, 115, 116, 117, 118, 119, 120, 121, 122, 123, 124, 125, 126, 127] (by decide +kernel) (by decide +kernel)
set_option maxRecDepth 20000 in
theorem gX4_playItem_X1_canAnswer : GoodIn wsX4_playItem (wsV RX4 92 RX1 yX1_canAnswer wsX1_canAnswer) := goodIn_app (goodIn_of _ (by decide +kernel)) ggX4_playItem_X1_canAnswer
set_option maxRecDepth 20000 in
theorem ggX4_playItem_X1_answerOf : GoodIn wsX4_playItem wsX1_answerOf := goodIn_r _ [24, 9, 20, 8, 25, 26, 27, 28, 29, 30, 31, 6, 32, 33, 34, 35, 36, 37, 38, 39, 40, 41, 42, 43, 44, 45, 46, 47, 48, 49, 50, 51, 52, 53, 54, 55, 56, 57, 58, 59, 60, 61, 62, 63, 64, 65, 66, 67, 68, 69, 70, 71, 72, 73, 74, 75, 76, 77, 78, 111, 112, 113, 114, 115, 116, 117, 118, 119, 120, 121, 122, 123, 124, 125, 126, 127, 128, 129, 130, 131] (by decide +kernel) (by decide +kernel)
set_option maxRecDepth 20000 in
theorem gX4_playItem_X1_answerOf : GoodIn wsX4_playItem (wsV RX4 98 RX1 yX1_answerOf wsX1_answerOf) := goodIn_app (goodIn_of _ (by decide +kernel)) ggX4_playItem_X1_answerOf
set_option maxRecDepth 20000 in
theorem ggX4_playItem_X1_isThere : GoodIn wsX4_playItem wsX1_isThere := goodIn_r _ [13, 14, 15, 16, 17, 18, 6, 19, 20, 111, 112, 113, 114, 115, 116, 117, 118, 119, 120, 121, 122, 123, 124, 125, 126, 127] (by decide +kernel) (by decide +kernel)
set_option maxRecDepth 20000 in
theorem gX4_playItem_X1_isThere : GoodIn wsX4_playItem (wsV RX4 107 RX1 yX1_isThere wsX1_isThere) := goodIn_app (goodIn_of _ (by decide +kernel)) ggX4_playItem_X1_isThere
set_option maxRecDepth 20000 in
theorem ggX4_playItem_X1_proofOf : GoodIn wsX4_playItem wsX1_proofOf := goodIn_r _ [83, 84, 85, 28, 29, 30, 31, 6, 32, 33, 86, 87, 88, 49, 89, 51, 90, 91, 92, 55, 56, 57, 58, 59, 60, 61, 62, 63, 64, 65, 66, 67, 68, 69, 70, 75, 76, 77, 78, 111, 112, 113, 114, 115, 116, 117, 118, 119, 120, 121, 122, 123, 124, 125, 126, 127, 128, 129, 130, 131] (by decide +kernel) (by decide +kernel)
set_option maxRecDepth 20000 in
theorem gX4_playItem_X1_proofOf : GoodIn wsX4_playItem (wsV RX4 112 RX1 yX1_proofOf wsX1_proofOf) := goodIn_app (goodIn_of _ (by decide +kernel)) ggX4_playItem_X1_proofOf
set_option maxRecDepth 20000 in
theorem ggX4_playItem_X1_sendHome : GoodIn wsX4_playItem wsX1_sendHome := goodIn_r _ [96, 15, 34, 35, 36, 37, 38, 39, 40, 111, 112, 113, 114, 115, 116, 117, 118, 119, 120, 121, 122, 123, 124, 125, 126, 127] (by decide +kernel) (by decide +kernel)
set_option maxRecDepth 20000 in
theorem gX4_playItem_X1_sendHome : GoodIn wsX4_playItem (wsV RX4 118 RX1 yX1_sendHome wsX1_sendHome) := goodIn_app (goodIn_of _ (by decide +kernel)) ggX4_playItem_X1_sendHome
theorem dX4_playItem_0 : decode cX4_playItem 0 = .ok (.aload_n 0, 1) := by decide +kernel
theorem dX4_playItem_1 : decode cX4_playItem 1 = .ok (.getfield 40, 3) := by decide +kernel
theorem dX4_playItem_4 : decode cX4_playItem 4 = .ok (.getfield 219, 3) := by decide +kernel
theorem dX4_playItem_7 : decode cX4_playItem 7 = .ok (.istore_n 1, 1) := by decide +kernel
theorem dX4_playItem_8 : decode cX4_playItem 8 = .ok (.aload_n 0, 1) := by decide +kernel
theorem dX4_playItem_9 : decode cX4_playItem 9 = .ok (.getfield 40, 3) := by decide +kernel
theorem dX4_playItem_12 : decode cX4_playItem 12 = .ok (.getfield 222, 3) := by decide +kernel
theorem dX4_playItem_15 : decode cX4_playItem 15 = .ok (.bipush 97, 2) := by decide +kernel
theorem dX4_playItem_17 : decode cX4_playItem 17 = .ok (.if_icmp .eq 15, 3) := by decide +kernel
theorem dX4_playItem_20 : decode cX4_playItem 20 = .ok (.aload_n 0, 1) := by decide +kernel
theorem dX4_playItem_21 : decode cX4_playItem 21 = .ok (.getfield 40, 3) := by decide +kernel
theorem dX4_playItem_24 : decode cX4_playItem 24 = .ok (.getfield 222, 3) := by decide +kernel
theorem dX4_playItem_27 : decode cX4_playItem 27 = .ok (.bipush 108, 2) := by decide +kernel
theorem dX4_playItem_29 : decode cX4_playItem 29 = .ok (.if_icmp .ne 54, 3) := by decide +kernel
theorem dX4_playItem_32 : decode cX4_playItem 32 = .ok (.aload_n 0, 1) := by decide +kernel
theorem dX4_playItem_33 : decode cX4_playItem 33 = .ok (.getfield 40, 3) := by decide +kernel
theorem dX4_playItem_36 : decode cX4_playItem 36 = .ok (.getfield 222, 3) := by decide +kernel
theorem dX4_playItem_39 : decode cX4_playItem 39 = .ok (.bipush 108, 2) := by decide +kernel
theorem dX4_playItem_41 : decode cX4_playItem 41 = .ok (.if_icmp .ne 7, 3) := by decide +kernel
theorem dX4_playItem_44 : decode cX4_playItem 44 = .ok (.iconst 1, 1) := by decide +kernel
theorem dX4_playItem_45 : decode cX4_playItem 45 = .ok (.goto 4, 3) := by decide +kernel
theorem dX4_playItem_48 : decode cX4_playItem 48 = .ok (.iconst 0, 1) := by decide +kernel
theorem dX4_playItem_49 : decode cX4_playItem 49 = .ok (.istore_n 2, 1) := by decide +kernel
theorem dX4_playItem_50 : decode cX4_playItem 50 = .ok (.aload_n 0, 1) := by decide +kernel
theorem dX4_playItem_51 : decode cX4_playItem 51 = .ok (.getfield 10, 3) := by decide +kernel
theorem dX4_playItem_54 : decode cX4_playItem 54 = .ok (.iload_n 1, 1) := by decide +kernel
theorem dX4_playItem_55 : decode cX4_playItem 55 = .ok (.iload_n 2, 1) := by decide +kernel
theorem dX4_playItem_56 : decode cX4_playItem 56 = .ok (.invokevirtual 92, 3) := by decide +kernel
theorem dX4_playItem_59 : decode cX4_playItem 59 = .ok (.ifCond .ne 5, 3) := by decide +kernel
theorem dX4_playItem_62 : decode cX4_playItem 62 = .ok (.iconst 0, 1) := by decide +kernel
theorem dX4_playItem_63 : decode cX4_playItem 63 = .ok (.ireturn, 1) := by decide +kernel
theorem dX4_playItem_64 : decode cX4_playItem 64 = .ok (.aload_n 0, 1) := by decide +kernel
theorem dX4_playItem_65 : decode cX4_playItem 65 = .ok (.getfield 10, 3) := by decide +kernel
theorem dX4_playItem_68 : decode cX4_playItem 68 = .ok (.iload_n 1, 1) := by decide +kernel
theorem dX4_playItem_69 : decode cX4_playItem 69 = .ok (.aload_n 0, 1) := by decide +kernel
theorem dX4_playItem_70 : decode cX4_playItem 70 = .ok (.getfield 40, 3) := by decide +kernel
theorem dX4_playItem_73 : decode cX4_playItem 73 = .ok (.getfield 225, 3) := by decide +kernel
theorem dX4_playItem_76 : decode cX4_playItem 76 = .ok (.iload_n 2, 1) := by decide +kernel
theorem dX4_playItem_77 : decode cX4_playItem 77 = .ok (.invokevirtual 98, 3) := by decide +kernel
theorem dX4_playItem_80 : decode cX4_playItem 80 = .ok (.pop, 1) := by decide +kernel
theorem dX4_playItem_81 : decode cX4_playItem 81 = .ok (.iconst 1, 1) := by decide +kernel
theorem dX4_playItem_82 : decode cX4_playItem 82 = .ok (.ireturn, 1) := by decide +kernel
theorem dX4_playItem_83 : decode cX4_playItem 83 = .ok (.aload_n 0, 1) := by decide +kernel
theorem dX4_playItem_84 : decode cX4_playItem 84 = .ok (.getfield 10, 3) := by decide +kernel
theorem dX4_playItem_87 : decode cX4_playItem 87 = .ok (.iload_n 1, 1) := by decide +kernel
theorem dX4_playItem_88 : decode cX4_playItem 88 = .ok (.invokevirtual 107, 3) := by decide +kernel
theorem dX4_playItem_91 : decode cX4_playItem 91 = .ok (.ifCond .ne 5, 3) := by decide +kernel
theorem dX4_playItem_94 : decode cX4_playItem 94 = .ok (.iconst 0, 1) := by decide +kernel
theorem dX4_playItem_95 : decode cX4_playItem 95 = .ok (.ireturn, 1) := by decide +kernel
theorem dX4_playItem_96 : decode cX4_playItem 96 = .ok (.aload_n 0, 1) := by decide +kernel
theorem dX4_playItem_97 : decode cX4_playItem 97 = .ok (.getfield 40, 3) := by decide +kernel
theorem dX4_playItem_100 : decode cX4_playItem 100 = .ok (.getfield 222, 3) := by decide +kernel
theorem dX4_playItem_103 : decode cX4_playItem 103 = .ok (.bipush 112, 2) := by decide +kernel
theorem dX4_playItem_105 : decode cX4_playItem 105 = .ok (.if_icmp .ne 22, 3) := by decide +kernel
theorem dX4_playItem_108 : decode cX4_playItem 108 = .ok (.aload_n 0, 1) := by decide +kernel
theorem dX4_playItem_109 : decode cX4_playItem 109 = .ok (.getfield 10, 3) := by decide +kernel
theorem dX4_playItem_112 : decode cX4_playItem 112 = .ok (.iload_n 1, 1) := by decide +kernel
theorem dX4_playItem_113 : decode cX4_playItem 113 = .ok (.aload_n 0, 1) := by decide +kernel
theorem dX4_playItem_114 : decode cX4_playItem 114 = .ok (.getfield 40, 3) := by decide +kernel
theorem dX4_playItem_117 : decode cX4_playItem 117 = .ok (.getfield 228, 3) := by decide +kernel
theorem dX4_playItem_120 : decode cX4_playItem 120 = .ok (.invokevirtual 112, 3) := by decide +kernel
theorem dX4_playItem_123 : decode cX4_playItem 123 = .ok (.pop, 1) := by decide +kernel
theorem dX4_playItem_124 : decode cX4_playItem 124 = .ok (.goto 12, 3) := by decide +kernel
theorem dX4_playItem_127 : decode cX4_playItem 127 = .ok (.aload_n 0, 1) := by decide +kernel
theorem dX4_playItem_128 : decode cX4_playItem 128 = .ok (.getfield 10, 3) := by decide +kernel
theorem dX4_playItem_131 : decode cX4_playItem 131 = .ok (.iload_n 1, 1) := by decide +kernel
theorem dX4_playItem_132 : decode cX4_playItem 132 = .ok (.invokevirtual 118, 3) := by decide +kernel
theorem dX4_playItem_135 : decode cX4_playItem 135 = .ok (.pop, 1) := by decide +kernel
theorem dX4_playItem_136 : decode cX4_playItem 136 = .ok (.iconst 1, 1) := by decide +kernel
theorem dX4_playItem_137 : decode cX4_playItem 137 = .ok (.ireturn, 1) := by decide +kernel
set_option maxRecDepth 20000 in
theorem ggX4_saveForUndo_X4_savedAt : GoodIn wsX4_saveForUndo wsX4_savedAt := goodIn_r _ [8, 2, 56, 57, 58, 59, 60, 61, 62] (by decide +kernel) (by decide +kernel)
set_option maxRecDepth 20000 in
theorem gX4_saveForUndo_X4_savedAt : GoodIn wsX4_saveForUndo (wsV RX4 231 RX4 yX4_savedAt wsX4_savedAt) := goodIn_app (goodIn_of _ (by decide +kernel)) ggX4_saveForUndo_X4_savedAt
set_option maxRecDepth 20000 in
theorem ggX4_saveForUndo_X1_copyFrom : GoodIn wsX4_saveForUndo wsX1_copyFrom := goodIn_r _ [13, 14, 15, 16, 17, 18, 19, 20, 21, 22, 23, 24, 25, 26, 27, 28, 29, 30, 31, 7, 32, 33, 34, 35, 36, 37, 38, 39, 40, 41, 42, 43, 44, 45, 46, 47, 48, 49, 50, 51, 52, 53, 54, 55, 63, 64, 65, 66, 67, 68, 69, 70, 71, 72, 73, 74, 75, 76, 77, 78, 79, 80, 81, 82, 83] (by decide +kernel) (by decide +kernel)
set_option maxRecDepth 20000 in
theorem gX4_saveForUndo_X1_copyFrom : GoodIn wsX4_saveForUndo (wsV RX4 235 RX1 yX1_copyFrom wsX1_copyFrom) := goodIn_app (goodIn_of _ (by decide +kernel)) ggX4_saveForUndo_X1_copyFrom
theorem dX4_saveForUndo_0 : decode cX4_saveForUndo 0 = .ok (.aload_n 0, 1) := by decide +kernel
theorem dX4_saveForUndo_1 : decode cX4_saveForUndo 1 = .ok (.getfield 194, 3) := by decide +kernel
theorem dX4_saveForUndo_4 : decode cX4_saveForUndo 4 = .ok (.iconst 4, 1) := by decide +kernel
theorem dX4_saveForUndo_5 : decode cX4_saveForUndo 5 = .ok (.if_icmp .lt 49, 3) := by decide +kernel
theorem dX4_saveForUndo_8 : decode cX4_saveForUndo 8 = .ok (.aload_n 0, 1) := by decide +kernel
theorem dX4_saveForUndo_9 : decode cX4_saveForUndo 9 = .ok (.getfield 16, 3) := by decide +kernel
theorem dX4_saveForUndo_12 : decode cX4_saveForUndo 12 = .ok (.iconst 0, 1) := by decide +kernel
theorem dX4_saveForUndo_13 : decode cX4_saveForUndo 13 = .ok (.aaload, 1) := by decide +kernel
theorem dX4_saveForUndo_14 : decode cX4_saveForUndo 14 = .ok (.astore_n 1, 1) := by decide +kernel
theorem dX4_saveForUndo_15 : decode cX4_saveForUndo 15 = .ok (.iconst 1, 1) := by decide +kernel
theorem dX4_saveForUndo_16 : decode cX4_saveForUndo 16 = .ok (.istore_n 2, 1) := by decide +kernel
theorem dX4_saveForUndo_17 : decode cX4_saveForUndo 17 = .ok (.iload_n 2, 1) := by decide +kernel
theorem dX4_saveForUndo_18 : decode cX4_saveForUndo 18 = .ok (.iconst 4, 1) := by decide +kernel
theorem dX4_saveForUndo_19 : decode cX4_saveForUndo 19 = .ok (.if_icmp .ge 23, 3) := by decide +kernel
theorem dX4_saveForUndo_22 : decode cX4_saveForUndo 22 = .ok (.aload_n 0, 1) := by decide +kernel
theorem dX4_saveForUndo_23 : decode cX4_saveForUndo 23 = .ok (.getfield 16, 3) := by decide +kernel
theorem dX4_saveForUndo_26 : decode cX4_saveForUndo 26 = .ok (.iload_n 2, 1) := by decide +kernel
theorem dX4_saveForUndo_27 : decode cX4_saveForUndo 27 = .ok (.iconst 1, 1) := by decide +kernel
theorem dX4_saveForUndo_28 : decode cX4_saveForUndo 28 = .ok (.isub, 1) := by decide +kernel
theorem dX4_saveForUndo_29 : decode cX4_saveForUndo 29 = .ok (.aload_n 0, 1) := by decide +kernel
theorem dX4_saveForUndo_30 : decode cX4_saveForUndo 30 = .ok (.getfield 16, 3) := by decide +kernel
theorem dX4_saveForUndo_33 : decode cX4_saveForUndo 33 = .ok (.iload_n 2, 1) := by decide +kernel
theorem dX4_saveForUndo_34 : decode cX4_saveForUndo 34 = .ok (.aaload, 1) := by decide +kernel
theorem dX4_saveForUndo_35 : decode cX4_saveForUndo 35 = .ok (.aastore, 1) := by decide +kernel
theorem dX4_saveForUndo_36 : decode cX4_saveForUndo 36 = .ok (.iinc 2 1, 3) := by decide +kernel
theorem dX4_saveForUndo_39 : decode cX4_saveForUndo 39 = .ok (.goto (-22), 3) := by decide +kernel
theorem dX4_saveForUndo_42 : decode cX4_saveForUndo 42 = .ok (.aload_n 0, 1) := by decide +kernel
theorem dX4_saveForUndo_43 : decode cX4_saveForUndo 43 = .ok (.getfield 16, 3) := by decide +kernel
theorem dX4_saveForUndo_46 : decode cX4_saveForUndo 46 = .ok (.iconst 3, 1) := by decide +kernel
theorem dX4_saveForUndo_47 : decode cX4_saveForUndo 47 = .ok (.aload_n 1, 1) := by decide +kernel
theorem dX4_saveForUndo_48 : decode cX4_saveForUndo 48 = .ok (.aastore, 1) := by decide +kernel
theorem dX4_saveForUndo_49 : decode cX4_saveForUndo 49 = .ok (.aload_n 0, 1) := by decide +kernel
theorem dX4_saveForUndo_50 : decode cX4_saveForUndo 50 = .ok (.iconst 3, 1) := by decide +kernel
theorem dX4_saveForUndo_51 : decode cX4_saveForUndo 51 = .ok (.putfield 194, 3) := by decide +kernel
theorem dX4_saveForUndo_54 : decode cX4_saveForUndo 54 = .ok (.aload_n 0, 1) := by decide +kernel
theorem dX4_saveForUndo_55 : decode cX4_saveForUndo 55 = .ok (.aload_n 0, 1) := by decide +kernel
theorem dX4_saveForUndo_56 : decode cX4_saveForUndo 56 = .ok (.getfield 194, 3) := by decide +kernel
theorem dX4_saveForUndo_59 : decode cX4_saveForUndo 59 = .ok (.invokevirtual 231, 3) := by decide +kernel
theorem dX4_saveForUndo_62 : decode cX4_saveForUndo 62 = .ok (.astore_n 1, 1) := by decide +kernel
theorem dX4_saveForUndo_63 : decode cX4_saveForUndo 63 = .ok (.aload_n 1, 1) := by decide +kernel
theorem dX4_saveForUndo_64 : decode cX4_saveForUndo 64 = .ok (.ifnull 11, 3) := by decide +kernel
theorem dX4_saveForUndo_67 : decode cX4_saveForUndo 67 = .ok (.aload_n 1, 1) := by decide +kernel
theorem dX4_saveForUndo_68 : decode cX4_saveForUndo 68 = .ok (.aload_n 0, 1) := by decide +kernel
theorem dX4_saveForUndo_69 : decode cX4_saveForUndo 69 = .ok (.getfield 10, 3) := by decide +kernel
theorem dX4_saveForUndo_72 : decode cX4_saveForUndo 72 = .ok (.invokevirtual 235, 3) := by decide +kernel
theorem dX4_saveForUndo_75 : decode cX4_saveForUndo 75 = .ok (.aload_n 0, 1) := by decide +kernel
theorem dX4_saveForUndo_76 : decode cX4_saveForUndo 76 = .ok (.dup, 1) := by decide +kernel
theorem dX4_saveForUndo_77 : decode cX4_saveForUndo 77 = .ok (.getfield 194, 3) := by decide +kernel
theorem dX4_saveForUndo_80 : decode cX4_saveForUndo 80 = .ok (.iconst 1, 1) := by decide +kernel
theorem dX4_saveForUndo_81 : decode cX4_saveForUndo 81 = .ok (.iadd, 1) := by decide +kernel
theorem dX4_saveForUndo_82 : decode cX4_saveForUndo 82 = .ok (.putfield 194, 3) := by decide +kernel
theorem dX4_saveForUndo_85 : decode cX4_saveForUndo 85 = .ok (.return_, 1) := by decide +kernel
set_option maxRecDepth 20000 in
theorem ggX4_restore_X4_savedAt : GoodIn wsX4_restore wsX4_savedAt := goodIn_r _ [7, 8, 56, 57, 58, 59, 60, 61, 62] (by decide +kernel) (by decide +kernel)
set_option maxRecDepth 20000 in
theorem gX4_restore_X4_savedAt : GoodIn wsX4_restore (wsV RX4 231 RX4 yX4_savedAt wsX4_savedAt) := goodIn_app (goodIn_of _ (by decide +kernel)) ggX4_restore_X4_savedAt
set_option maxRecDepth 20000 in
theorem ggX4_restore_X1_copyFrom : GoodIn wsX4_restore wsX1_copyFrom := goodIn_r _ [13, 14, 15, 16, 17, 18, 19, 20, 21, 22, 23, 24, 25, 26, 27, 28, 29, 30, 31, 6, 32, 33, 34, 35, 36, 37, 38, 39, 40, 41, 42, 43, 44, 45, 46, 47, 48, 49, 50, 51, 52, 53, 54, 55, 63, 64, 65, 66, 67, 68, 69, 70, 71, 72, 73, 74, 75, 76, 77, 78, 79, 80, 81, 82, 83] (by decide +kernel) (by decide +kernel)
set_option maxRecDepth 20000 in
theorem gX4_restore_X1_copyFrom : GoodIn wsX4_restore (wsV RX4 235 RX1 yX1_copyFrom wsX1_copyFrom) := goodIn_app (goodIn_of _ (by decide +kernel)) ggX4_restore_X1_copyFrom
theorem dX4_restore_0 : decode cX4_restore 0 = .ok (.aload_n 0, 1) := by decide +kernel
theorem dX4_restore_1 : decode cX4_restore 1 = .ok (.aload_n 0, 1) := by decide +kernel
theorem dX4_restore_2 : decode cX4_restore 2 = .ok (.getfield 194, 3) := by decide +kernel
theorem dX4_restore_5 : decode cX4_restore 5 = .ok (.invokevirtual 231, 3) := by decide +kernel
theorem dX4_restore_8 : decode cX4_restore 8 = .ok (.astore_n 1, 1) := by decide +kernel
theorem dX4_restore_9 : decode cX4_restore 9 = .ok (.aload_n 1, 1) := by decide +kernel
theorem dX4_restore_10 : decode cX4_restore 10 = .ok (.ifnull 11, 3) := by decide +kernel
theorem dX4_restore_13 : decode cX4_restore 13 = .ok (.aload_n 0, 1) := by decide +kernel
theorem dX4_restore_14 : decode cX4_restore 14 = .ok (.getfield 10, 3) := by decide +kernel
theorem dX4_restore_17 : decode cX4_restore 17 = .ok (.aload_n 1, 1) := by decide +kernel
theorem dX4_restore_18 : decode cX4_restore 18 = .ok (.invokevirtual 235, 3) := by decide +kernel
theorem dX4_restore_21 : decode cX4_restore 21 = .ok (.return_, 1) := by decide +kernel
theorem dX4_savedAt_0 : decode cX4_savedAt 0 = .ok (.iload_n 1, 1) := by decide +kernel
theorem dX4_savedAt_1 : decode cX4_savedAt 1 = .ok (.ifCond .lt 21, 3) := by decide +kernel
theorem dX4_savedAt_4 : decode cX4_savedAt 4 = .ok (.iload_n 1, 1) := by decide +kernel
theorem dX4_savedAt_5 : decode cX4_savedAt 5 = .ok (.aload_n 0, 1) := by decide +kernel
theorem dX4_savedAt_6 : decode cX4_savedAt 6 = .ok (.getfield 16, 3) := by decide +kernel
theorem dX4_savedAt_9 : decode cX4_savedAt 9 = .ok (.arraylength, 1) := by decide +kernel
theorem dX4_savedAt_10 : decode cX4_savedAt 10 = .ok (.if_icmp .ge 12, 3) := by decide +kernel
theorem dX4_savedAt_13 : decode cX4_savedAt 13 = .ok (.aload_n 0, 1) := by decide +kernel
theorem dX4_savedAt_14 : decode cX4_savedAt 14 = .ok (.getfield 16, 3) := by decide +kernel
theorem dX4_savedAt_17 : decode cX4_savedAt 17 = .ok (.iload_n 1, 1) := by decide +kernel
theorem dX4_savedAt_18 : decode cX4_savedAt 18 = .ok (.aaload, 1) := by decide +kernel
theorem dX4_savedAt_19 : decode cX4_savedAt 19 = .ok (.goto 4, 3) := by decide +kernel
theorem dX4_savedAt_22 : decode cX4_savedAt 22 = .ok (.aconst_null, 1) := by decide +kernel
theorem dX4_savedAt_23 : decode cX4_savedAt 23 = .ok (.areturn, 1) := by decide +kernel
theorem dX4_isCard_0 : decode cX4_isCard 0 = .ok (.iload_n 0, 1) := by decide +kernel
theorem dX4_isCard_1 : decode cX4_isCard 1 = .ok (.ifCond .lt 13, 3) := by decide +kernel
theorem dX4_isCard_4 : decode cX4_isCard 4 = .ok (.iload_n 0, 1) := by decide +kernel
theorem dX4_isCard_5 : decode cX4_isCard 5 = .ok (.bipush 8, 2) := by decide +kernel
theorem dX4_isCard_7 : decode cX4_isCard 7 = .ok (.if_icmp .ge 7, 3) := by decide +kernel
theorem dX4_isCard_10 : decode cX4_isCard 10 = .ok (.iconst 1, 1) := by decide +kernel
theorem dX4_isCard_11 : decode cX4_isCard 11 = .ok (.goto 4, 3) := by decide +kernel
theorem dX4_isCard_14 : decode cX4_isCard 14 = .ok (.iconst 0, 1) := by decide +kernel
theorem dX4_isCard_15 : decode cX4_isCard 15 = .ok (.ireturn, 1) := by decide +kernel
theorem dX4_isQuestion_0 : decode cX4_isQuestion 0 = .ok (.iload_n 0, 1) := by decide +kernel
theorem dX4_isQuestion_1 : decode cX4_isQuestion 1 = .ok (.iconst 1, 1) := by decide +kernel
theorem dX4_isQuestion_2 : decode cX4_isQuestion 2 = .ok (.if_icmp .lt 14, 3) := by decide +kernel
theorem dX4_isQuestion_5 : decode cX4_isQuestion 5 = .ok (.iload_n 0, 1) := by decide +kernel
theorem dX4_isQuestion_6 : decode cX4_isQuestion 6 = .ok (.sipush 255, 3) := by decide +kernel
theorem dX4_isQuestion_9 : decode cX4_isQuestion 9 = .ok (.if_icmp .gt 7, 3) := by decide +kernel
theorem dX4_isQuestion_12 : decode cX4_isQuestion 12 = .ok (.iconst 1, 1) := by decide +kernel
theorem dX4_isQuestion_13 : decode cX4_isQuestion 13 = .ok (.goto 4, 3) := by decide +kernel
theorem dX4_isQuestion_16 : decode cX4_isQuestion 16 = .ok (.iconst 0, 1) := by decide +kernel
theorem dX4_isQuestion_17 : decode cX4_isQuestion 17 = .ok (.ireturn, 1) := by decide +kernel
theorem dX4_share_0 : decode cX4_share 0 = .ok (.iload_n 1, 1) := by decide +kernel
theorem dX4_share_1 : decode cX4_share 1 = .ok (.ifCond .ne 5, 3) := by decide +kernel
theorem dX4_share_4 : decode cX4_share 4 = .ok (.dconst 0, 1) := by decide +kernel
theorem dX4_share_5 : decode cX4_share 5 = .ok (.dreturn, 1) := by decide +kernel
theorem dX4_share_6 : decode cX4_share 6 = .ok (.iload_n 0, 1) := by decide +kernel
theorem dX4_share_7 : decode cX4_share 7 = .ok (.i2d, 1) := by decide +kernel
theorem dX4_share_8 : decode cX4_share 8 = .ok (.iload_n 1, 1) := by decide +kernel
theorem dX4_share_9 : decode cX4_share 9 = .ok (.i2d, 1) := by decide +kernel
theorem dX4_share_10 : decode cX4_share 10 = .ok (.ddiv, 1) := by decide +kernel
theorem dX4_share_11 : decode cX4_share 11 = .ok (.dreturn, 1) := by decide +kernel
theorem dX4_sizeOfHand_0 : decode cX4_sizeOfHand 0 = .ok (.iload_n 0, 1) := by decide +kernel
theorem dX4_sizeOfHand_1 : decode cX4_sizeOfHand 1 = .ok (.iconst 3, 1) := by decide +kernel
theorem dX4_sizeOfHand_2 : decode cX4_sizeOfHand 2 = .ok (.if_icmp .ne 9, 3) := by decide +kernel
theorem dX4_sizeOfHand_5 : decode cX4_sizeOfHand 5 = .ok (.getstatic 239, 3) := by decide +kernel
theorem dX4_sizeOfHand_8 : decode cX4_sizeOfHand 8 = .ok (.goto 6, 3) := by decide +kernel
theorem dX4_sizeOfHand_11 : decode cX4_sizeOfHand 11 = .ok (.getstatic 243, 3) := by decide +kernel
theorem dX4_sizeOfHand_14 : decode cX4_sizeOfHand 14 = .ok (.astore_n 2, 1) := by decide +kernel
theorem dX4_sizeOfHand_15 : decode cX4_sizeOfHand 15 = .ok (.iload_n 1, 1) := by decide +kernel
theorem dX4_sizeOfHand_16 : decode cX4_sizeOfHand 16 = .ok (.ifCond .lt 15, 3) := by decide +kernel
theorem dX4_sizeOfHand_19 : decode cX4_sizeOfHand 19 = .ok (.iload_n 1, 1) := by decide +kernel
theorem dX4_sizeOfHand_20 : decode cX4_sizeOfHand 20 = .ok (.aload_n 2, 1) := by decide +kernel
theorem dX4_sizeOfHand_21 : decode cX4_sizeOfHand 21 = .ok (.arraylength, 1) := by decide +kernel
theorem dX4_sizeOfHand_22 : decode cX4_sizeOfHand 22 = .ok (.if_icmp .ge 9, 3) := by decide +kernel
theorem dX4_sizeOfHand_25 : decode cX4_sizeOfHand 25 = .ok (.aload_n 2, 1) := by decide +kernel
theorem dX4_sizeOfHand_26 : decode cX4_sizeOfHand 26 = .ok (.iload_n 1, 1) := by decide +kernel
theorem dX4_sizeOfHand_27 : decode cX4_sizeOfHand 27 = .ok (.iaload, 1) := by decide +kernel
theorem dX4_sizeOfHand_28 : decode cX4_sizeOfHand 28 = .ok (.goto 4, 3) := by decide +kernel
theorem dX4_sizeOfHand_31 : decode cX4_sizeOfHand 31 = .ok (.iconst 0, 1) := by decide +kernel
theorem dX4_sizeOfHand_32 : decode cX4_sizeOfHand 32 = .ok (.ireturn, 1) := by decide +kernel
theorem dX4_copyRow_0 : decode cX4_copyRow 0 = .ok (.aload_n 0, 1) := by decide +kernel
theorem dX4_copyRow_1 : decode cX4_copyRow 1 = .ok (.iconst 0, 1) := by decide +kernel
theorem dX4_copyRow_2 : decode cX4_copyRow 2 = .ok (.aload_n 1, 1) := by decide +kernel
theorem dX4_copyRow_3 : decode cX4_copyRow 3 = .ok (.iconst 0, 1) := by decide +kernel
theorem dX4_copyRow_4 : decode cX4_copyRow 4 = .ok (.aload_n 0, 1) := by decide +kernel
theorem dX4_copyRow_5 : decode cX4_copyRow 5 = .ok (.arraylength, 1) := by decide +kernel
theorem dX4_copyRow_6 : decode cX4_copyRow 6 = .ok (.aload_n 1, 1) := by decide +kernel
theorem dX4_copyRow_7 : decode cX4_copyRow 7 = .ok (.arraylength, 1) := by decide +kernel
theorem dX4_copyRow_8 : decode cX4_copyRow 8 = .ok (.invokestatic 246, 3) := by decide +kernel
theorem dX4_copyRow_11 : decode cX4_copyRow 11 = .ok (.invokestatic 251, 3) := by decide +kernel
theorem dX4_copyRow_14 : decode cX4_copyRow 14 = .ok (.return_, 1) := by decide +kernel
theorem dX5_init_0 : decode cX5_init 0 = .ok (.aload_n 0, 1) := by decide +kernel
theorem dX5_init_1 : decode cX5_init 1 = .ok (.invokespecial 1, 3) := by decide +kernel
theorem dX5_init_4 : decode cX5_init 4 = .ok (.aload_n 0, 1) := by decide +kernel
theorem dX5_init_5 : decode cX5_init 5 = .ok (.bipush 101, 2) := by decide +kernel
theorem dX5_init_7 : decode cX5_init 7 = .ok (.newarray .int, 2) := by decide +kernel
theorem dX5_init_9 : decode cX5_init 9 = .ok (.putfield 7, 3) := by decide +kernel
theorem dX5_init_12 : decode cX5_init 12 = .ok (.aload_n 0, 1) := by decide +kernel
theorem dX5_init_13 : decode cX5_init 13 = .ok (.sipush 404, 3) := by decide +kernel
theorem dX5_init_16 : decode cX5_init 16 = .ok (.newarray .int, 2) := by decide +kernel
theorem dX5_init_18 : decode cX5_init 18 = .ok (.putfield 13, 3) := by decide +kernel
theorem dX5_init_21 : decode cX5_init 21 = .ok (.aload_n 0, 1) := by decide +kernel
theorem dX5_init_22 : decode cX5_init 22 = .ok (.bipush 90, 2) := by decide +kernel
theorem dX5_init_24 : decode cX5_init 24 = .ok (.newarray .int, 2) := by decide +kernel
theorem dX5_init_26 : decode cX5_init 26 = .ok (.putfield 16, 3) := by decide +kernel
theorem dX5_init_29 : decode cX5_init 29 = .ok (.aload_n 0, 1) := by decide +kernel
theorem dX5_init_30 : decode cX5_init 30 = .ok (.bipush 8, 2) := by decide +kernel
theorem dX5_init_32 : decode cX5_init 32 = .ok (.newarray .int, 2) := by decide +kernel
theorem dX5_init_34 : decode cX5_init 34 = .ok (.putfield 19, 3) := by decide +kernel
theorem dX5_init_37 : decode cX5_init 37 = .ok (.aload_n 0, 1) := by decide +kernel
theorem dX5_init_38 : decode cX5_init 38 = .ok (.bipush 32, 2) := by decide +kernel
theorem dX5_init_40 : decode cX5_init 40 = .ok (.newarray .int, 2) := by decide +kernel
theorem dX5_init_42 : decode cX5_init 42 = .ok (.putfield 22, 3) := by decide +kernel
theorem dX5_init_45 : decode cX5_init 45 = .ok (.aload_n 0, 1) := by decide +kernel
theorem dX5_init_46 : decode cX5_init 46 = .ok (.iconst 4, 1) := by decide +kernel
theorem dX5_init_47 : decode cX5_init 47 = .ok (.newarray .int, 2) := by decide +kernel
theorem dX5_init_49 : decode cX5_init 49 = .ok (.putfield 25, 3) := by decide +kernel
theorem dX5_init_52 : decode cX5_init 52 = .ok (.aload_n 0, 1) := by decide +kernel
theorem dX5_init_53 : decode cX5_init 53 = .ok (.iconst 4, 1) := by decide +kernel
theorem dX5_init_54 : decode cX5_init 54 = .ok (.newarray .int, 2) := by decide +kernel
theorem dX5_init_56 : decode cX5_init 56 = .ok (.putfield 28, 3) := by decide +kernel
theorem dX5_init_59 : decode cX5_init 59 = .ok (.aload_n 0, 1) := by decide +kernel
theorem dX5_init_60 : decode cX5_init 60 = .ok (.iconst 4, 1) := by decide +kernel
theorem dX5_init_61 : decode cX5_init 61 = .ok (.newarray .int, 2) := by decide +kernel
theorem dX5_init_63 : decode cX5_init 63 = .ok (.putfield 31, 3) := by decide +kernel
theorem dX5_init_66 : decode cX5_init 66 = .ok (.aload_n 0, 1) := by decide +kernel
theorem dX5_init_67 : decode cX5_init 67 = .ok (.sipush 512, 3) := by decide +kernel
theorem dX5_init_70 : decode cX5_init 70 = .ok (.newarray .int, 2) := by decide +kernel
theorem dX5_init_72 : decode cX5_init 72 = .ok (.putfield 34, 3) := by decide +kernel
theorem dX5_init_75 : decode cX5_init 75 = .ok (.aload_n 0, 1) := by decide +kernel
theorem dX5_init_76 : decode cX5_init 76 = .ok (.iconst 4, 1) := by decide +kernel
theorem dX5_init_77 : decode cX5_init 77 = .ok (.newarray .int, 2) := by decide +kernel
theorem dX5_init_79 : decode cX5_init 79 = .ok (.putfield 37, 3) := by decide +kernel
theorem dX5_init_82 : decode cX5_init 82 = .ok (.aload_n 0, 1) := by decide +kernel
theorem dX5_init_83 : decode cX5_init 83 = .ok (.iconst 4, 1) := by decide +kernel
theorem dX5_init_84 : decode cX5_init 84 = .ok (.newarray .int, 2) := by decide +kernel
theorem dX5_init_86 : decode cX5_init 86 = .ok (.putfield 40, 3) := by decide +kernel
theorem dX5_init_89 : decode cX5_init 89 = .ok (.aload_n 0, 1) := by decide +kernel
theorem dX5_init_90 : decode cX5_init 90 = .ok (.getfield 7, 3) := by decide +kernel
theorem dX5_init_93 : decode cX5_init 93 = .ok (.iconst 3, 1) := by decide +kernel
theorem dX5_init_94 : decode cX5_init 94 = .ok (.iconst 1, 1) := by decide +kernel
theorem dX5_init_95 : decode cX5_init 95 = .ok (.iastore, 1) := by decide +kernel
theorem dX5_init_96 : decode cX5_init 96 = .ok (.aload_n 0, 1) := by decide +kernel
theorem dX5_init_97 : decode cX5_init 97 = .ok (.getfield 7, 3) := by decide +kernel
theorem dX5_init_100 : decode cX5_init 100 = .ok (.iconst 2, 1) := by decide +kernel
theorem dX5_init_101 : decode cX5_init 101 = .ok (.iconst (-1), 1) := by decide +kernel
theorem dX5_init_102 : decode cX5_init 102 = .ok (.iastore, 1) := by decide +kernel
theorem dX5_init_103 : decode cX5_init 103 = .ok (.return_, 1) := by decide +kernel
theorem dX5_thrown_0 : decode cX5_thrown 0 = .ok (.aload_n 0, 1) := by decide +kernel
theorem dX5_thrown_1 : decode cX5_thrown 1 = .ok (.getfield 43, 3) := by decide +kernel
theorem dX5_thrown_4 : decode cX5_thrown 4 = .ok (.ireturn, 1) := by decide +kernel
theorem dX5_refused_0 : decode cX5_refused 0 = .ok (.aload_n 0, 1) := by decide +kernel
theorem dX5_refused_1 : decode cX5_refused 1 = .ok (.iload_n 1, 1) := by decide +kernel
theorem dX5_refused_2 : decode cX5_refused 2 = .ok (.putfield 43, 3) := by decide +kernel
theorem dX5_refused_5 : decode cX5_refused 5 = .ok (.iload_n 1, 1) := by decide +kernel
theorem dX5_refused_6 : decode cX5_refused 6 = .ok (.ifCond .le 7, 3) := by decide +kernel
theorem dX5_refused_9 : decode cX5_refused 9 = .ok (.iconst 1, 1) := by decide +kernel
theorem dX5_refused_10 : decode cX5_refused 10 = .ok (.goto 4, 3) := by decide +kernel
theorem dX5_refused_13 : decode cX5_refused 13 = .ok (.iconst 0, 1) := by decide +kernel
theorem dX5_refused_14 : decode cX5_refused 14 = .ok (.ireturn, 1) := by decide +kernel
theorem dX5_in_0 : decode cX5_in 0 = .ok (.iload_n 0, 1) := by decide +kernel
theorem dX5_in_1 : decode cX5_in 1 = .ok (.iload_n 1, 1) := by decide +kernel
theorem dX5_in_2 : decode cX5_in 2 = .ok (.if_icmp .lt 12, 3) := by decide +kernel
theorem dX5_in_5 : decode cX5_in 5 = .ok (.iload_n 0, 1) := by decide +kernel
theorem dX5_in_6 : decode cX5_in 6 = .ok (.iload_n 2, 1) := by decide +kernel
theorem dX5_in_7 : decode cX5_in 7 = .ok (.if_icmp .gt 7, 3) := by decide +kernel
theorem dX5_in_10 : decode cX5_in 10 = .ok (.iconst 1, 1) := by decide +kernel
theorem dX5_in_11 : decode cX5_in 11 = .ok (.goto 4, 3) := by decide +kernel
theorem dX5_in_14 : decode cX5_in 14 = .ok (.iconst 0, 1) := by decide +kernel
theorem dX5_in_15 : decode cX5_in 15 = .ok (.ireturn, 1) := by decide +kernel
theorem dX5_saves_0 : decode cX5_saves 0 = .ok (.aload_n 0, 1) := by decide +kernel
theorem dX5_saves_1 : decode cX5_saves 1 = .ok (.getfield 47, 3) := by decide +kernel
theorem dX5_saves_4 : decode cX5_saves 4 = .ok (.iconst 4, 1) := by decide +kernel
theorem dX5_saves_5 : decode cX5_saves 5 = .ok (.if_icmp .ne 43, 3) := by decide +kernel
theorem dX5_saves_8 : decode cX5_saves 8 = .ok (.iconst 0, 1) := by decide +kernel
theorem dX5_saves_9 : decode cX5_saves 9 = .ok (.istore_n 1, 1) := by decide +kernel
theorem dX5_saves_10 : decode cX5_saves 10 = .ok (.iload_n 1, 1) := by decide +kernel
theorem dX5_saves_11 : decode cX5_saves 11 = .ok (.sipush 303, 3) := by decide +kernel
theorem dX5_saves_14 : decode cX5_saves 14 = .ok (.if_icmp .ge 24, 3) := by decide +kernel
theorem dX5_saves_17 : decode cX5_saves 17 = .ok (.aload_n 0, 1) := by decide +kernel
theorem dX5_saves_18 : decode cX5_saves 18 = .ok (.getfield 13, 3) := by decide +kernel
theorem dX5_saves_21 : decode cX5_saves 21 = .ok (.iload_n 1, 1) := by decide +kernel
theorem dX5_saves_22 : decode cX5_saves 22 = .ok (.aload_n 0, 1) := by decide +kernel
theorem dX5_saves_23 : decode cX5_saves 23 = .ok (.getfield 13, 3) := by decide +kernel
theorem dX5_saves_26 : decode cX5_saves 26 = .ok (.iload_n 1, 1) := by decide +kernel
theorem dX5_saves_27 : decode cX5_saves 27 = .ok (.bipush 101, 2) := by decide +kernel
theorem dX5_saves_29 : decode cX5_saves 29 = .ok (.iadd, 1) := by decide +kernel
theorem dX5_saves_30 : decode cX5_saves 30 = .ok (.iaload, 1) := by decide +kernel
theorem dX5_saves_31 : decode cX5_saves 31 = .ok (.iastore, 1) := by decide +kernel
theorem dX5_saves_32 : decode cX5_saves 32 = .ok (.iinc 1 1, 3) := by decide +kernel
theorem dX5_saves_35 : decode cX5_saves 35 = .ok (.goto (-25), 3) := by decide +kernel
theorem dX5_saves_38 : decode cX5_saves 38 = .ok (.aload_n 0, 1) := by decide +kernel
theorem dX5_saves_39 : decode cX5_saves 39 = .ok (.dup, 1) := by decide +kernel
theorem dX5_saves_40 : decode cX5_saves 40 = .ok (.getfield 47, 3) := by decide +kernel
theorem dX5_saves_43 : decode cX5_saves 43 = .ok (.iconst 1, 1) := by decide +kernel
theorem dX5_saves_44 : decode cX5_saves 44 = .ok (.isub, 1) := by decide +kernel
theorem dX5_saves_45 : decode cX5_saves 45 = .ok (.putfield 47, 3) := by decide +kernel
theorem dX5_saves_48 : decode cX5_saves 48 = .ok (.iconst 0, 1) := by decide +kernel
theorem dX5_saves_49 : decode cX5_saves 49 = .ok (.istore_n 1, 1) := by decide +kernel
theorem dX5_saves_50 : decode cX5_saves 50 = .ok (.iload_n 1, 1) := by decide +kernel
theorem dX5_saves_51 : decode cX5_saves 51 = .ok (.bipush 101, 2) := by decide +kernel
theorem dX5_saves_53 : decode cX5_saves 53 = .ok (.if_icmp .ge 29, 3) := by decide +kernel
theorem dX5_saves_56 : decode cX5_saves 56 = .ok (.aload_n 0, 1) := by decide +kernel
theorem dX5_saves_57 : decode cX5_saves 57 = .ok (.getfield 13, 3) := by decide +kernel
theorem dX5_saves_60 : decode cX5_saves 60 = .ok (.bipush 101, 2) := by decide +kernel
theorem dX5_saves_62 : decode cX5_saves 62 = .ok (.aload_n 0, 1) := by decide +kernel
theorem dX5_saves_63 : decode cX5_saves 63 = .ok (.getfield 47, 3) := by decide +kernel
theorem dX5_saves_66 : decode cX5_saves 66 = .ok (.imul, 1) := by decide +kernel
theorem dX5_saves_67 : decode cX5_saves 67 = .ok (.iload_n 1, 1) := by decide +kernel
theorem dX5_saves_68 : decode cX5_saves 68 = .ok (.iadd, 1) := by decide +kernel
theorem dX5_saves_69 : decode cX5_saves 69 = .ok (.aload_n 0, 1) := by decide +kernel
theorem dX5_saves_70 : decode cX5_saves 70 = .ok (.getfield 7, 3) := by decide +kernel
theorem dX5_saves_73 : decode cX5_saves 73 = .ok (.iload_n 1, 1) := by decide +kernel
theorem dX5_saves_74 : decode cX5_saves 74 = .ok (.iaload, 1) := by decide +kernel
theorem dX5_saves_75 : decode cX5_saves 75 = .ok (.iastore, 1) := by decide +kernel
theorem dX5_saves_76 : decode cX5_saves 76 = .ok (.iinc 1 1, 3) := by decide +kernel
theorem dX5_saves_79 : decode cX5_saves 79 = .ok (.goto (-29), 3) := by decide +kernel
theorem dX5_saves_82 : decode cX5_saves 82 = .ok (.aload_n 0, 1) := by decide +kernel
theorem dX5_saves_83 : decode cX5_saves 83 = .ok (.dup, 1) := by decide +kernel
theorem dX5_saves_84 : decode cX5_saves 84 = .ok (.getfield 47, 3) := by decide +kernel
theorem dX5_saves_87 : decode cX5_saves 87 = .ok (.iconst 1, 1) := by decide +kernel
theorem dX5_saves_88 : decode cX5_saves 88 = .ok (.iadd, 1) := by decide +kernel
theorem dX5_saves_89 : decode cX5_saves 89 = .ok (.putfield 47, 3) := by decide +kernel
theorem dX5_saves_92 : decode cX5_saves 92 = .ok (.return_, 1) := by decide +kernel
set_option maxRecDepth 20000 in
theorem ggX5_undo_X5_refused : GoodIn wsX5_undo wsX5_refused := goodIn_r _ [8, 9, 10, 11, 12, 13, 14, 15, 16, 17, 18, 19, 20, 21, 22, 23, 24, 25, 26, 27, 28, 29] (by decide +kernel) (by decide +kernel)
set_option maxRecDepth 20000 in
theorem gX5_undo_X5_refused : GoodIn wsX5_undo (wsV RX5 50 RX5 yX5_refused wsX5_refused) := goodIn_app (goodIn_of _ (by decide +kernel)) ggX5_undo_X5_refused
theorem dX5_undo_0 : decode cX5_undo 0 = .ok (.aload_n 0, 1) := by decide +kernel
theorem dX5_undo_1 : decode cX5_undo 1 = .ok (.aload_n 0, 1) := by decide +kernel
theorem dX5_undo_2 : decode cX5_undo 2 = .ok (.getfield 47, 3) := by decide +kernel
theorem dX5_undo_5 : decode cX5_undo 5 = .ok (.ifCond .ne 7, 3) := by decide +kernel
theorem dX5_undo_8 : decode cX5_undo 8 = .ok (.iconst 1, 1) := by decide +kernel
theorem dX5_undo_9 : decode cX5_undo 9 = .ok (.goto 4, 3) := by decide +kernel
theorem dX5_undo_12 : decode cX5_undo 12 = .ok (.iconst 0, 1) := by decide +kernel
theorem dX5_undo_13 : decode cX5_undo 13 = .ok (.invokevirtual 50, 3) := by decide +kernel
theorem dX5_undo_16 : decode cX5_undo 16 = .ok (.ifCond .eq 5, 3) := by decide +kernel
theorem dX5_undo_19 : decode cX5_undo 19 = .ok (.iconst 0, 1) := by decide +kernel
theorem dX5_undo_20 : decode cX5_undo 20 = .ok (.ireturn, 1) := by decide +kernel
theorem dX5_undo_21 : decode cX5_undo 21 = .ok (.aload_n 0, 1) := by decide +kernel
theorem dX5_undo_22 : decode cX5_undo 22 = .ok (.dup, 1) := by decide +kernel
theorem dX5_undo_23 : decode cX5_undo 23 = .ok (.getfield 47, 3) := by decide +kernel
theorem dX5_undo_26 : decode cX5_undo 26 = .ok (.iconst 1, 1) := by decide +kernel
theorem dX5_undo_27 : decode cX5_undo 27 = .ok (.isub, 1) := by decide +kernel
theorem dX5_undo_28 : decode cX5_undo 28 = .ok (.putfield 47, 3) := by decide +kernel
theorem dX5_undo_31 : decode cX5_undo 31 = .ok (.iconst 0, 1) := by decide +kernel
theorem dX5_undo_32 : decode cX5_undo 32 = .ok (.istore_n 1, 1) := by decide +kernel
theorem dX5_undo_33 : decode cX5_undo 33 = .ok (.iload_n 1, 1) := by decide +kernel
theorem dX5_undo_34 : decode cX5_undo 34 = .ok (.bipush 101, 2) := by decide +kernel
theorem dX5_undo_36 : decode cX5_undo 36 = .ok (.if_icmp .ge 29, 3) := by decide +kernel
theorem dX5_undo_39 : decode cX5_undo 39 = .ok (.aload_n 0, 1) := by decide +kernel
theorem dX5_undo_40 : decode cX5_undo 40 = .ok (.getfield 7, 3) := by decide +kernel
theorem dX5_undo_43 : decode cX5_undo 43 = .ok (.iload_n 1, 1) := by decide +kernel
theorem dX5_undo_44 : decode cX5_undo 44 = .ok (.aload_n 0, 1) := by decide +kernel
theorem dX5_undo_45 : decode cX5_undo 45 = .ok (.getfield 13, 3) := by decide +kernel
theorem dX5_undo_48 : decode cX5_undo 48 = .ok (.bipush 101, 2) := by decide +kernel
theorem dX5_undo_50 : decode cX5_undo 50 = .ok (.aload_n 0, 1) := by decide +kernel
theorem dX5_undo_51 : decode cX5_undo 51 = .ok (.getfield 47, 3) := by decide +kernel
theorem dX5_undo_54 : decode cX5_undo 54 = .ok (.imul, 1) := by decide +kernel
theorem dX5_undo_55 : decode cX5_undo 55 = .ok (.iload_n 1, 1) := by decide +kernel
theorem dX5_undo_56 : decode cX5_undo 56 = .ok (.iadd, 1) := by decide +kernel
theorem dX5_undo_57 : decode cX5_undo 57 = .ok (.iaload, 1) := by decide +kernel
theorem dX5_undo_58 : decode cX5_undo 58 = .ok (.iastore, 1) := by decide +kernel
theorem dX5_undo_59 : decode cX5_undo 59 = .ok (.iinc 1 1, 3) := by decide +kernel
theorem dX5_undo_62 : decode cX5_undo 62 = .ok (.goto (-29), 3) := by decide +kernel
theorem dX5_undo_65 : decode cX5_undo 65 = .ok (.aload_n 0, 1) := by decide +kernel
theorem dX5_undo_66 : decode cX5_undo 66 = .ok (.getfield 47, 3) := by decide +kernel
theorem dX5_undo_69 : decode cX5_undo 69 = .ok (.ireturn, 1) := by decide +kernel
theorem dX5_many_0 : decode cX5_many 0 = .ok (.iconst 0, 1) := by decide +kernel
theorem dX5_many_1 : decode cX5_many 1 = .ok (.istore_n 1, 1) := by decide +kernel
theorem dX5_many_2 : decode cX5_many 2 = .ok (.iload_n 0, 1) := by decide +kernel
theorem dX5_many_3 : decode cX5_many 3 = .ok (.istore_n 2, 1) := by decide +kernel
theorem dX5_many_4 : decode cX5_many 4 = .ok (.iload_n 2, 1) := by decide +kernel
theorem dX5_many_5 : decode cX5_many 5 = .ok (.ifCond .le 16, 3) := by decide +kernel
theorem dX5_many_8 : decode cX5_many 8 = .ok (.iload_n 1, 1) := by decide +kernel
theorem dX5_many_9 : decode cX5_many 9 = .ok (.iload_n 2, 1) := by decide +kernel
theorem dX5_many_10 : decode cX5_many 10 = .ok (.iconst 1, 1) := by decide +kernel
theorem dX5_many_11 : decode cX5_many 11 = .ok (.iand, 1) := by decide +kernel
theorem dX5_many_12 : decode cX5_many 12 = .ok (.iadd, 1) := by decide +kernel
theorem dX5_many_13 : decode cX5_many 13 = .ok (.istore_n 1, 1) := by decide +kernel
theorem dX5_many_14 : decode cX5_many 14 = .ok (.iload_n 2, 1) := by decide +kernel
theorem dX5_many_15 : decode cX5_many 15 = .ok (.iconst 1, 1) := by decide +kernel
theorem dX5_many_16 : decode cX5_many 16 = .ok (.ishr, 1) := by decide +kernel
theorem dX5_many_17 : decode cX5_many 17 = .ok (.istore_n 2, 1) := by decide +kernel
theorem dX5_many_18 : decode cX5_many 18 = .ok (.goto (-14), 3) := by decide +kernel
theorem dX5_many_21 : decode cX5_many 21 = .ok (.iload_n 1, 1) := by decide +kernel
theorem dX5_many_22 : decode cX5_many 22 = .ok (.ireturn, 1) := by decide +kernel
theorem dX5_draw_0 : decode cX5_draw 0 = .ok (.aload_n 0, 1) := by decide +kernel
theorem dX5_draw_1 : decode cX5_draw 1 = .ok (.getfield 7, 3) := by decide +kernel
theorem dX5_draw_4 : decode cX5_draw 4 = .ok (.iconst 3, 1) := by decide +kernel
theorem dX5_draw_5 : decode cX5_draw 5 = .ok (.ldc2_w 54, 3) := by decide +kernel
theorem dX5_draw_8 : decode cX5_draw 8 = .ok (.aload_n 0, 1) := by decide +kernel
theorem dX5_draw_9 : decode cX5_draw 9 = .ok (.getfield 7, 3) := by decide +kernel
theorem dX5_draw_12 : decode cX5_draw 12 = .ok (.iconst 3, 1) := by decide +kernel
theorem dX5_draw_13 : decode cX5_draw 13 = .ok (.iaload, 1) := by decide +kernel
theorem dX5_draw_14 : decode cX5_draw 14 = .ok (.i2l, 1) := by decide +kernel
theorem dX5_draw_15 : decode cX5_draw 15 = .ok (.lmul, 1) := by decide +kernel
theorem dX5_draw_16 : decode cX5_draw 16 = .ok (.ldc2_w 56, 3) := by decide +kernel
theorem dX5_draw_19 : decode cX5_draw 19 = .ok (.ladd, 1) := by decide +kernel
theorem dX5_draw_20 : decode cX5_draw 20 = .ok (.ldc2_w 58, 3) := by decide +kernel
theorem dX5_draw_23 : decode cX5_draw 23 = .ok (.lrem, 1) := by decide +kernel
theorem dX5_draw_24 : decode cX5_draw 24 = .ok (.l2i, 1) := by decide +kernel
theorem dX5_draw_25 : decode cX5_draw 25 = .ok (.iastore, 1) := by decide +kernel
theorem dX5_draw_26 : decode cX5_draw 26 = .ok (.aload_n 0, 1) := by decide +kernel
theorem dX5_draw_27 : decode cX5_draw 27 = .ok (.getfield 7, 3) := by decide +kernel
theorem dX5_draw_30 : decode cX5_draw 30 = .ok (.iconst 3, 1) := by decide +kernel
theorem dX5_draw_31 : decode cX5_draw 31 = .ok (.iaload, 1) := by decide +kernel
theorem dX5_draw_32 : decode cX5_draw 32 = .ok (.ldc 60, 2) := by decide +kernel
theorem dX5_draw_34 : decode cX5_draw 34 = .ok (.idiv, 1) := by decide +kernel
theorem dX5_draw_35 : decode cX5_draw 35 = .ok (.iload_n 1, 1) := by decide +kernel
theorem dX5_draw_36 : decode cX5_draw 36 = .ok (.irem, 1) := by decide +kernel
theorem dX5_draw_37 : decode cX5_draw 37 = .ok (.ireturn, 1) := by decide +kernel
set_option maxRecDepth 20000 in
theorem ggX5_isGuest_X5_in : GoodIn wsX5_isGuest wsX5_in := goodIn_r _ [5] (by decide +kernel) (by decide +kernel)
set_option maxRecDepth 20000 in
theorem gX5_isGuest_X5_in : GoodIn wsX5_isGuest (va_wsS RX5 61 yX5_in wsX5_in) := goodIn_app (goodIn_of _ (by decide +kernel)) ggX5_isGuest_X5_in
theorem dX5_isGuest_0 : decode cX5_isGuest 0 = .ok (.iload_n 1, 1) := by decide +kernel
theorem dX5_isGuest_1 : decode cX5_isGuest 1 = .ok (.iconst 0, 1) := by decide +kernel
theorem dX5_isGuest_2 : decode cX5_isGuest 2 = .ok (.aload_n 0, 1) := by decide +kernel
theorem dX5_isGuest_3 : decode cX5_isGuest 3 = .ok (.getfield 7, 3) := by decide +kernel
theorem dX5_isGuest_6 : decode cX5_isGuest 6 = .ok (.iconst 0, 1) := by decide +kernel
theorem dX5_isGuest_7 : decode cX5_isGuest 7 = .ok (.iaload, 1) := by decide +kernel
theorem dX5_isGuest_8 : decode cX5_isGuest 8 = .ok (.iconst 1, 1) := by decide +kernel
theorem dX5_isGuest_9 : decode cX5_isGuest 9 = .ok (.isub, 1) := by decide +kernel
theorem dX5_isGuest_10 : decode cX5_isGuest 10 = .ok (.invokestatic 61, 3) := by decide +kernel
theorem dX5_isGuest_13 : decode cX5_isGuest 13 = .ok (.ireturn, 1) := by decide +kernel
set_option maxRecDepth 20000 in
theorem ggX5_isCard_X5_in : GoodIn wsX5_isCard wsX5_in := goodIn_r _ [4] (by decide +kernel) (by decide +kernel)
set_option maxRecDepth 20000 in
theorem gX5_isCard_X5_in : GoodIn wsX5_isCard (va_wsS RX5 61 yX5_in wsX5_in) := goodIn_app (goodIn_of _ (by decide +kernel)) ggX5_isCard_X5_in
theorem dX5_isCard_0 : decode cX5_isCard 0 = .ok (.iload_n 0, 1) := by decide +kernel
theorem dX5_isCard_1 : decode cX5_isCard 1 = .ok (.iconst 0, 1) := by decide +kernel
theorem dX5_isCard_2 : decode cX5_isCard 2 = .ok (.bipush 7, 2) := by decide +kernel
theorem dX5_isCard_4 : decode cX5_isCard 4 = .ok (.invokestatic 61, 3) := by decide +kernel
theorem dX5_isCard_7 : decode cX5_isCard 7 = .ok (.ireturn, 1) := by decide +kernel
theorem dX5_sizeOf_0 : decode cX5_sizeOf 0 = .ok (.iload_n 1, 1) := by decide +kernel
theorem dX5_sizeOf_1 : decode cX5_sizeOf 1 = .ok (.iload_n 0, 1) := by decide +kernel
theorem dX5_sizeOf_2 : decode cX5_sizeOf 2 = .ok (.if_icmp .lt 7, 3) := by decide +kernel
theorem dX5_sizeOf_5 : decode cX5_sizeOf 5 = .ok (.iconst 0, 1) := by decide +kernel
theorem dX5_sizeOf_6 : decode cX5_sizeOf 6 = .ok (.goto 30, 3) := by decide +kernel
theorem dX5_sizeOf_9 : decode cX5_sizeOf 9 = .ok (.iload_n 0, 1) := by decide +kernel
theorem dX5_sizeOf_10 : decode cX5_sizeOf 10 = .ok (.iconst 3, 1) := by decide +kernel
theorem dX5_sizeOf_11 : decode cX5_sizeOf 11 = .ok (.if_icmp .ne 15, 3) := by decide +kernel
theorem dX5_sizeOf_14 : decode cX5_sizeOf 14 = .ok (.iload_n 1, 1) := by decide +kernel
theorem dX5_sizeOf_15 : decode cX5_sizeOf 15 = .ok (.ifCond .ne 7, 3) := by decide +kernel
theorem dX5_sizeOf_18 : decode cX5_sizeOf 18 = .ok (.iconst 3, 1) := by decide +kernel
theorem dX5_sizeOf_19 : decode cX5_sizeOf 19 = .ok (.goto 17, 3) := by decide +kernel
theorem dX5_sizeOf_22 : decode cX5_sizeOf 22 = .ok (.iconst 2, 1) := by decide +kernel
theorem dX5_sizeOf_23 : decode cX5_sizeOf 23 = .ok (.goto 13, 3) := by decide +kernel
theorem dX5_sizeOf_26 : decode cX5_sizeOf 26 = .ok (.iload_n 1, 1) := by decide +kernel
theorem dX5_sizeOf_27 : decode cX5_sizeOf 27 = .ok (.iconst 3, 1) := by decide +kernel
theorem dX5_sizeOf_28 : decode cX5_sizeOf 28 = .ok (.if_icmp .ne 7, 3) := by decide +kernel
theorem dX5_sizeOf_31 : decode cX5_sizeOf 31 = .ok (.iconst 1, 1) := by decide +kernel
theorem dX5_sizeOf_32 : decode cX5_sizeOf 32 = .ok (.goto 4, 3) := by decide +kernel
theorem dX5_sizeOf_35 : decode cX5_sizeOf 35 = .ok (.iconst 2, 1) := by decide +kernel
theorem dX5_sizeOf_36 : decode cX5_sizeOf 36 = .ok (.ireturn, 1) := by decide +kernel
set_option maxRecDepth 20000 in
theorem ggX5_deals_X5_many : GoodIn wsX5_deals wsX5_many := goodIn_r _ [5] (by decide +kernel) (by decide +kernel)
set_option maxRecDepth 20000 in
theorem gX5_deals_X5_many : GoodIn wsX5_deals (va_wsS RX5 65 yX5_many wsX5_many) := goodIn_app (goodIn_of _ (by decide +kernel)) ggX5_deals_X5_many
theorem dX5_deals_0 : decode cX5_deals 0 = .ok (.iload_n 2, 1) := by decide +kernel
theorem dX5_deals_1 : decode cX5_deals 1 = .ok (.istore_n 3, 1) := by decide +kernel
theorem dX5_deals_2 : decode cX5_deals 2 = .ok (.iconst 0, 1) := by decide +kernel
theorem dX5_deals_3 : decode cX5_deals 3 = .ok (.istore 4, 2) := by decide +kernel
theorem dX5_deals_5 : decode cX5_deals 5 = .ok (.iload_n 3, 1) := by decide +kernel
theorem dX5_deals_6 : decode cX5_deals 6 = .ok (.aload_n 0, 1) := by decide +kernel
theorem dX5_deals_7 : decode cX5_deals 7 = .ok (.getfield 7, 3) := by decide +kernel
theorem dX5_deals_10 : decode cX5_deals 10 = .ok (.bipush 9, 2) := by decide +kernel
theorem dX5_deals_12 : decode cX5_deals 12 = .ok (.iload 4, 2) := by decide +kernel
theorem dX5_deals_14 : decode cX5_deals 14 = .ok (.iadd, 1) := by decide +kernel
theorem dX5_deals_15 : decode cX5_deals 15 = .ok (.iaload, 1) := by decide +kernel
theorem dX5_deals_16 : decode cX5_deals 16 = .ok (.aload_n 0, 1) := by decide +kernel
theorem dX5_deals_17 : decode cX5_deals 17 = .ok (.getfield 7, 3) := by decide +kernel
theorem dX5_deals_20 : decode cX5_deals 20 = .ok (.bipush 13, 2) := by decide +kernel
theorem dX5_deals_22 : decode cX5_deals 22 = .ok (.iload 4, 2) := by decide +kernel
theorem dX5_deals_24 : decode cX5_deals 24 = .ok (.iadd, 1) := by decide +kernel
theorem dX5_deals_25 : decode cX5_deals 25 = .ok (.iaload, 1) := by decide +kernel
theorem dX5_deals_26 : decode cX5_deals 26 = .ok (.invokestatic 65, 3) := by decide +kernel
theorem dX5_deals_29 : decode cX5_deals 29 = .ok (.isub, 1) := by decide +kernel
theorem dX5_deals_30 : decode cX5_deals 30 = .ok (.if_icmp .lt 36, 3) := by decide +kernel
theorem dX5_deals_33 : decode cX5_deals 33 = .ok (.iload_n 3, 1) := by decide +kernel
theorem dX5_deals_34 : decode cX5_deals 34 = .ok (.aload_n 0, 1) := by decide +kernel
theorem dX5_deals_35 : decode cX5_deals 35 = .ok (.getfield 7, 3) := by decide +kernel
theorem dX5_deals_38 : decode cX5_deals 38 = .ok (.bipush 9, 2) := by decide +kernel
theorem dX5_deals_40 : decode cX5_deals 40 = .ok (.iload 4, 2) := by decide +kernel
theorem dX5_deals_42 : decode cX5_deals 42 = .ok (.iadd, 1) := by decide +kernel
theorem dX5_deals_43 : decode cX5_deals 43 = .ok (.iaload, 1) := by decide +kernel
theorem dX5_deals_44 : decode cX5_deals 44 = .ok (.aload_n 0, 1) := by decide +kernel
theorem dX5_deals_45 : decode cX5_deals 45 = .ok (.getfield 7, 3) := by decide +kernel
theorem dX5_deals_48 : decode cX5_deals 48 = .ok (.bipush 13, 2) := by decide +kernel
theorem dX5_deals_50 : decode cX5_deals 50 = .ok (.iload 4, 2) := by decide +kernel
theorem dX5_deals_52 : decode cX5_deals 52 = .ok (.iadd, 1) := by decide +kernel
theorem dX5_deals_53 : decode cX5_deals 53 = .ok (.iaload, 1) := by decide +kernel
theorem dX5_deals_54 : decode cX5_deals 54 = .ok (.invokestatic 65, 3) := by decide +kernel
theorem dX5_deals_57 : decode cX5_deals 57 = .ok (.isub, 1) := by decide +kernel
theorem dX5_deals_58 : decode cX5_deals 58 = .ok (.isub, 1) := by decide +kernel
theorem dX5_deals_59 : decode cX5_deals 59 = .ok (.istore_n 3, 1) := by decide +kernel
theorem dX5_deals_60 : decode cX5_deals 60 = .ok (.iinc 4 1, 3) := by decide +kernel
theorem dX5_deals_63 : decode cX5_deals 63 = .ok (.goto (-58), 3) := by decide +kernel
theorem dX5_deals_66 : decode cX5_deals 66 = .ok (.aload_n 0, 1) := by decide +kernel
theorem dX5_deals_67 : decode cX5_deals 67 = .ok (.getfield 7, 3) := by decide +kernel
theorem dX5_deals_70 : decode cX5_deals 70 = .ok (.bipush 13, 2) := by decide +kernel
theorem dX5_deals_72 : decode cX5_deals 72 = .ok (.iload 4, 2) := by decide +kernel
theorem dX5_deals_74 : decode cX5_deals 74 = .ok (.iadd, 1) := by decide +kernel
theorem dX5_deals_75 : decode cX5_deals 75 = .ok (.dup2, 1) := by decide +kernel
theorem dX5_deals_76 : decode cX5_deals 76 = .ok (.iaload, 1) := by decide +kernel
theorem dX5_deals_77 : decode cX5_deals 77 = .ok (.iconst 1, 1) := by decide +kernel
theorem dX5_deals_78 : decode cX5_deals 78 = .ok (.iload_n 1, 1) := by decide +kernel
theorem dX5_deals_79 : decode cX5_deals 79 = .ok (.ishl, 1) := by decide +kernel
theorem dX5_deals_80 : decode cX5_deals 80 = .ok (.ior, 1) := by decide +kernel
theorem dX5_deals_81 : decode cX5_deals 81 = .ok (.iastore, 1) := by decide +kernel
theorem dX5_deals_82 : decode cX5_deals 82 = .ok (.return_, 1) := by decide +kernel
set_option maxRecDepth 20000 in
theorem ggX5_begin_X5_in : GoodIn wsX5_begin wsX5_in := goodIn_r _ [6] (by decide +kernel) (by decide +kernel)
set_option maxRecDepth 20000 in
theorem gX5_begin_X5_in : GoodIn wsX5_begin (va_wsS RX5 61 yX5_in wsX5_in) := goodIn_app (goodIn_of _ (by decide +kernel)) ggX5_begin_X5_in
set_option maxRecDepth 20000 in
theorem ggX5_begin_X5_refused : GoodIn wsX5_begin wsX5_refused := goodIn_r _ [10, 11, 36, 37, 38, 39, 40, 41, 42, 43, 44, 45, 46, 47, 48, 49, 50, 51, 52, 53, 54, 55] (by decide +kernel) (by decide +kernel)
set_option maxRecDepth 20000 in
theorem gX5_begin_X5_refused : GoodIn wsX5_begin (wsV RX5 50 RX5 yX5_refused wsX5_refused) := goodIn_app (goodIn_of _ (by decide +kernel)) ggX5_begin_X5_refused
set_option maxRecDepth 20000 in
theorem ggX5_begin_X5_saves : GoodIn wsX5_begin wsX5_saves := goodIn_r _ [15, 16, 17, 2, 36, 37, 38, 39, 40, 41, 42, 43, 44, 45, 46, 47, 48, 49, 50, 51, 52, 53, 54, 55] (by decide +kernel) (by decide +kernel)
set_option maxRecDepth 20000 in
theorem gX5_begin_X5_saves : GoodIn wsX5_begin (wsV RX5 70 RX5 yX5_saves wsX5_saves) := goodIn_app (goodIn_of _ (by decide +kernel)) ggX5_begin_X5_saves
set_option maxRecDepth 20000 in
theorem ggX5_begin_X5_sizeOf : GoodIn wsX5_begin wsX5_sizeOf := goodIn_r _ [20] (by decide +kernel) (by decide +kernel)
set_option maxRecDepth 20000 in
theorem gX5_begin_X5_sizeOf : GoodIn wsX5_begin (va_wsS RX5 73 yX5_sizeOf wsX5_sizeOf) := goodIn_app (goodIn_of _ (by decide +kernel)) ggX5_begin_X5_sizeOf
set_option maxRecDepth 20000 in
theorem ggX5_begin_X5_draw : GoodIn wsX5_begin wsX5_draw := goodIn_r _ [24, 2, 25, 26, 27, 28, 36, 37, 38, 39, 40, 41, 42, 43, 44, 45, 46, 47, 48, 49, 50, 51, 52, 53, 54, 55] (by decide +kernel) (by decide +kernel)
set_option maxRecDepth 20000 in
theorem gX5_begin_X5_draw : GoodIn wsX5_begin (wsV RX5 77 RX5 yX5_draw wsX5_draw) := goodIn_app (goodIn_of _ (by decide +kernel)) ggX5_begin_X5_draw
