set_option maxRecDepth 20000 in
theorem gX1_handOver_J6_bitCount_0f7a4 : GoodIn wsX1_handOver (va_wsS RX1 86 yJ6_bitCount_0f7a4 wsJ6_bitCount_0f7a4) := goodIn_app (goodIn_of _ (by decide +kernel)) ggX1_handOver_J6_bitCount_0f7a4
theorem dX1_handOver_0 : decode cX1_handOver 0 = .ok (.iconst 0, 1) := by decide +kernel
theorem dX1_handOver_1 : decode cX1_handOver 1 = .ok (.istore_n 3, 1) := by decide +kernel
theorem dX1_handOver_2 : decode cX1_handOver 2 = .ok (.iconst 0, 1) := by decide +kernel
theorem dX1_handOver_3 : decode cX1_handOver 3 = .ok (.istore 4, 2) := by decide +kernel
theorem dX1_handOver_5 : decode cX1_handOver 5 = .ok (.iload 4, 2) := by decide +kernel
theorem dX1_handOver_7 : decode cX1_handOver 7 = .ok (.aload_n 0, 1) := by decide +kernel
theorem dX1_handOver_8 : decode cX1_handOver 8 = .ok (.getfield 38, 3) := by decide +kernel
theorem dX1_handOver_11 : decode cX1_handOver 11 = .ok (.if_icmp .ge 57, 3) := by decide +kernel
theorem dX1_handOver_14 : decode cX1_handOver 14 = .ok (.iload 4, 2) := by decide +kernel
theorem dX1_handOver_16 : decode cX1_handOver 16 = .ok (.iconst 4, 1) := by decide +kernel
theorem dX1_handOver_17 : decode cX1_handOver 17 = .ok (.if_icmp .ge 51, 3) := by decide +kernel
theorem dX1_handOver_20 : decode cX1_handOver 20 = .ok (.iload_n 3, 1) := by decide +kernel
theorem dX1_handOver_21 : decode cX1_handOver 21 = .ok (.aload_n 0, 1) := by decide +kernel
theorem dX1_handOver_22 : decode cX1_handOver 22 = .ok (.getfield 38, 3) := by decide +kernel
theorem dX1_handOver_25 : decode cX1_handOver 25 = .ok (.iload 4, 2) := by decide +kernel
theorem dX1_handOver_27 : decode cX1_handOver 27 = .ok (.invokestatic 82, 3) := by decide +kernel
theorem dX1_handOver_30 : decode cX1_handOver 30 = .ok (.aload_n 0, 1) := by decide +kernel
theorem dX1_handOver_31 : decode cX1_handOver 31 = .ok (.getfield 15, 3) := by decide +kernel
theorem dX1_handOver_34 : decode cX1_handOver 34 = .ok (.iload 4, 2) := by decide +kernel
theorem dX1_handOver_36 : decode cX1_handOver 36 = .ok (.iaload, 1) := by decide +kernel
theorem dX1_handOver_37 : decode cX1_handOver 37 = .ok (.invokestatic 86, 3) := by decide +kernel
theorem dX1_handOver_40 : decode cX1_handOver 40 = .ok (.isub, 1) := by decide +kernel
theorem dX1_handOver_41 : decode cX1_handOver 41 = .ok (.iadd, 1) := by decide +kernel
theorem dX1_handOver_42 : decode cX1_handOver 42 = .ok (.istore_n 3, 1) := by decide +kernel
theorem dX1_handOver_43 : decode cX1_handOver 43 = .ok (.iload_n 2, 1) := by decide +kernel
theorem dX1_handOver_44 : decode cX1_handOver 44 = .ok (.iload_n 3, 1) := by decide +kernel
theorem dX1_handOver_45 : decode cX1_handOver 45 = .ok (.if_icmp .ge 17, 3) := by decide +kernel
theorem dX1_handOver_48 : decode cX1_handOver 48 = .ok (.aload_n 0, 1) := by decide +kernel
theorem dX1_handOver_49 : decode cX1_handOver 49 = .ok (.getfield 15, 3) := by decide +kernel
theorem dX1_handOver_52 : decode cX1_handOver 52 = .ok (.iload 4, 2) := by decide +kernel
theorem dX1_handOver_54 : decode cX1_handOver 54 = .ok (.dup2, 1) := by decide +kernel
theorem dX1_handOver_55 : decode cX1_handOver 55 = .ok (.iaload, 1) := by decide +kernel
theorem dX1_handOver_56 : decode cX1_handOver 56 = .ok (.iconst 1, 1) := by decide +kernel
theorem dX1_handOver_57 : decode cX1_handOver 57 = .ok (.iload_n 1, 1) := by decide +kernel
theorem dX1_handOver_58 : decode cX1_handOver 58 = .ok (.ishl, 1) := by decide +kernel
theorem dX1_handOver_59 : decode cX1_handOver 59 = .ok (.ior, 1) := by decide +kernel
theorem dX1_handOver_60 : decode cX1_handOver 60 = .ok (.iastore, 1) := by decide +kernel
theorem dX1_handOver_61 : decode cX1_handOver 61 = .ok (.return_, 1) := by decide +kernel
theorem dX1_handOver_62 : decode cX1_handOver 62 = .ok (.iinc 4 1, 3) := by decide +kernel
theorem dX1_handOver_65 : decode cX1_handOver 65 = .ok (.goto (-60), 3) := by decide +kernel
theorem dX1_handOver_68 : decode cX1_handOver 68 = .ok (.return_, 1) := by decide +kernel
theorem dX1_draw_0 : decode cX1_draw 0 = .ok (.aload_n 0, 1) := by decide +kernel
theorem dX1_draw_1 : decode cX1_draw 1 = .ok (.ldc2_w 91, 3) := by decide +kernel
theorem dX1_draw_4 : decode cX1_draw 4 = .ok (.aload_n 0, 1) := by decide +kernel
theorem dX1_draw_5 : decode cX1_draw 5 = .ok (.getfield 9, 3) := by decide +kernel
theorem dX1_draw_8 : decode cX1_draw 8 = .ok (.i2l, 1) := by decide +kernel
theorem dX1_draw_9 : decode cX1_draw 9 = .ok (.lmul, 1) := by decide +kernel
theorem dX1_draw_10 : decode cX1_draw 10 = .ok (.ldc2_w 93, 3) := by decide +kernel
theorem dX1_draw_13 : decode cX1_draw 13 = .ok (.ladd, 1) := by decide +kernel
theorem dX1_draw_14 : decode cX1_draw 14 = .ok (.ldc2_w 95, 3) := by decide +kernel
theorem dX1_draw_17 : decode cX1_draw 17 = .ok (.lrem, 1) := by decide +kernel
theorem dX1_draw_18 : decode cX1_draw 18 = .ok (.l2i, 1) := by decide +kernel
theorem dX1_draw_19 : decode cX1_draw 19 = .ok (.putfield 9, 3) := by decide +kernel
theorem dX1_draw_22 : decode cX1_draw 22 = .ok (.iload_n 1, 1) := by decide +kernel
theorem dX1_draw_23 : decode cX1_draw 23 = .ok (.ifCond .le 15, 3) := by decide +kernel
theorem dX1_draw_26 : decode cX1_draw 26 = .ok (.aload_n 0, 1) := by decide +kernel
theorem dX1_draw_27 : decode cX1_draw 27 = .ok (.getfield 9, 3) := by decide +kernel
theorem dX1_draw_30 : decode cX1_draw 30 = .ok (.ldc 97, 2) := by decide +kernel
theorem dX1_draw_32 : decode cX1_draw 32 = .ok (.idiv, 1) := by decide +kernel
theorem dX1_draw_33 : decode cX1_draw 33 = .ok (.iload_n 1, 1) := by decide +kernel
theorem dX1_draw_34 : decode cX1_draw 34 = .ok (.irem, 1) := by decide +kernel
theorem dX1_draw_35 : decode cX1_draw 35 = .ok (.goto 4, 3) := by decide +kernel
theorem dX1_draw_38 : decode cX1_draw 38 = .ok (.iconst 0, 1) := by decide +kernel
theorem dX1_draw_39 : decode cX1_draw 39 = .ok (.ireturn, 1) := by decide +kernel
set_option maxRecDepth 20000 in
theorem ggX1_answerOf_X1_handOf : GoodIn wsX1_answerOf wsX1_handOf := goodIn_r _ [12, 13, 59, 60, 61, 62, 63, 64, 65, 66, 67, 68, 69, 70, 71, 72, 73, 74, 75] (by decide +kernel) (by decide +kernel)
set_option maxRecDepth 20000 in
theorem gX1_answerOf_X1_handOf : GoodIn wsX1_answerOf (wsV RX1 98 RX1 yX1_handOf wsX1_handOf) := goodIn_app (goodIn_of _ (by decide +kernel)) ggX1_answerOf_X1_handOf
set_option maxRecDepth 20000 in
theorem ggX1_answerOf_J6_bitCount_0f7a4 : GoodIn wsX1_answerOf wsJ6_bitCount_0f7a4 := goodIn_r _ [17, 18, 19, 20] (by decide +kernel) (by decide +kernel)
set_option maxRecDepth 20000 in
theorem gX1_answerOf_J6_bitCount_0f7a4 : GoodIn wsX1_answerOf (va_wsS RX1 86 yJ6_bitCount_0f7a4 wsJ6_bitCount_0f7a4) := goodIn_app (goodIn_of _ (by decide +kernel)) ggX1_answerOf_J6_bitCount_0f7a4
set_option maxRecDepth 20000 in
theorem ggX1_answerOf_X4_sizeOfHand : GoodIn wsX1_answerOf wsX4_sizeOfHand := goodIn_r _ [23, 24, 25] (by decide +kernel) (by decide +kernel)
set_option maxRecDepth 20000 in
theorem gX1_answerOf_X4_sizeOfHand_n82 : GoodIn wsX1_answerOf (wsX4_sizeOfHand) := ggX1_answerOf_X4_sizeOfHand
set_option maxRecDepth 20000 in
theorem ggX1_answerOf_X0_keepAnswered : GoodIn wsX1_answerOf wsX0_keepAnswered := goodIn_r _ [30, 31, 32, 33, 29, 34, 35, 36, 37, 38, 39, 40, 41, 42, 43, 44, 45, 46, 47, 48, 49, 50, 51, 52, 53, 54, 15, 16, 17, 18, 19, 20, 55, 56, 57, 58, 76, 77, 78, 79] (by decide +kernel) (by decide +kernel)
set_option maxRecDepth 20000 in
theorem gX1_answerOf_X0_keepAnswered : GoodIn wsX1_answerOf (wsV RX1 101 RX0 yX0_keepAnswered wsX0_keepAnswered) := goodIn_app (goodIn_of _ (by decide +kernel)) ggX1_answerOf_X0_keepAnswered
theorem dX1_answerOf_0 : decode cX1_answerOf 0 = .ok (.aload_n 0, 1) := by decide +kernel
theorem dX1_answerOf_1 : decode cX1_answerOf 1 = .ok (.iload_n 1, 1) := by decide +kernel
theorem dX1_answerOf_2 : decode cX1_answerOf 2 = .ok (.invokevirtual 98, 3) := by decide +kernel
theorem dX1_answerOf_5 : decode cX1_answerOf 5 = .ok (.iload_n 2, 1) := by decide +kernel
theorem dX1_answerOf_6 : decode cX1_answerOf 6 = .ok (.iand, 1) := by decide +kernel
theorem dX1_answerOf_7 : decode cX1_answerOf 7 = .ok (.invokestatic 86, 3) := by decide +kernel
theorem dX1_answerOf_10 : decode cX1_answerOf 10 = .ok (.istore 4, 2) := by decide +kernel
theorem dX1_answerOf_12 : decode cX1_answerOf 12 = .ok (.iload_n 3, 1) := by decide +kernel
theorem dX1_answerOf_13 : decode cX1_answerOf 13 = .ok (.ifCond .eq 43, 3) := by decide +kernel
theorem dX1_answerOf_16 : decode cX1_answerOf 16 = .ok (.aload_n 0, 1) := by decide +kernel
theorem dX1_answerOf_17 : decode cX1_answerOf 17 = .ok (.dup, 1) := by decide +kernel
theorem dX1_answerOf_18 : decode cX1_answerOf 18 = .ok (.getfield 58, 3) := by decide +kernel
theorem dX1_answerOf_21 : decode cX1_answerOf 21 = .ok (.iconst 1, 1) := by decide +kernel
theorem dX1_answerOf_22 : decode cX1_answerOf 22 = .ok (.iload_n 1, 1) := by decide +kernel
theorem dX1_answerOf_23 : decode cX1_answerOf 23 = .ok (.ishl, 1) := by decide +kernel
theorem dX1_answerOf_24 : decode cX1_answerOf 24 = .ok (.ior, 1) := by decide +kernel
theorem dX1_answerOf_25 : decode cX1_answerOf 25 = .ok (.putfield 58, 3) := by decide +kernel
theorem dX1_answerOf_28 : decode cX1_answerOf 28 = .ok (.iinc 4 1, 3) := by decide +kernel
theorem dX1_answerOf_31 : decode cX1_answerOf 31 = .ok (.iload 4, 2) := by decide +kernel
theorem dX1_answerOf_33 : decode cX1_answerOf 33 = .ok (.aload_n 0, 1) := by decide +kernel
theorem dX1_answerOf_34 : decode cX1_answerOf 34 = .ok (.getfield 38, 3) := by decide +kernel
theorem dX1_answerOf_37 : decode cX1_answerOf 37 = .ok (.iload_n 1, 1) := by decide +kernel
theorem dX1_answerOf_38 : decode cX1_answerOf 38 = .ok (.invokestatic 82, 3) := by decide +kernel
theorem dX1_answerOf_41 : decode cX1_answerOf 41 = .ok (.if_icmp .gt 12, 3) := by decide +kernel
theorem dX1_answerOf_44 : decode cX1_answerOf 44 = .ok (.iload 4, 2) := by decide +kernel
theorem dX1_answerOf_46 : decode cX1_answerOf 46 = .ok (.iload_n 2, 1) := by decide +kernel
theorem dX1_answerOf_47 : decode cX1_answerOf 47 = .ok (.invokestatic 86, 3) := by decide +kernel
theorem dX1_answerOf_50 : decode cX1_answerOf 50 = .ok (.if_icmp .le 6, 3) := by decide +kernel
theorem dX1_answerOf_53 : decode cX1_answerOf 53 = .ok (.iconst 0, 1) := by decide +kernel
theorem dX1_answerOf_54 : decode cX1_answerOf 54 = .ok (.istore 4, 2) := by decide +kernel
theorem dX1_answerOf_56 : decode cX1_answerOf 56 = .ok (.aload_n 0, 1) := by decide +kernel
theorem dX1_answerOf_57 : decode cX1_answerOf 57 = .ok (.getfield 55, 3) := by decide +kernel
theorem dX1_answerOf_60 : decode cX1_answerOf 60 = .ok (.ifCond .lt 53, 3) := by decide +kernel
theorem dX1_answerOf_63 : decode cX1_answerOf 63 = .ok (.aload_n 0, 1) := by decide +kernel
theorem dX1_answerOf_64 : decode cX1_answerOf 64 = .ok (.getfield 55, 3) := by decide +kernel
theorem dX1_answerOf_67 : decode cX1_answerOf 67 = .ok (.bipush 20, 2) := by decide +kernel
theorem dX1_answerOf_69 : decode cX1_answerOf 69 = .ok (.if_icmp .ge 44, 3) := by decide +kernel
theorem dX1_answerOf_72 : decode cX1_answerOf 72 = .ok (.aload_n 0, 1) := by decide +kernel
theorem dX1_answerOf_73 : decode cX1_answerOf 73 = .ok (.getfield 22, 3) := by decide +kernel
theorem dX1_answerOf_76 : decode cX1_answerOf 76 = .ok (.aload_n 0, 1) := by decide +kernel
theorem dX1_answerOf_77 : decode cX1_answerOf 77 = .ok (.getfield 55, 3) := by decide +kernel
theorem dX1_answerOf_80 : decode cX1_answerOf 80 = .ok (.iload_n 1, 1) := by decide +kernel
theorem dX1_answerOf_81 : decode cX1_answerOf 81 = .ok (.iastore, 1) := by decide +kernel
theorem dX1_answerOf_82 : decode cX1_answerOf 82 = .ok (.aload_n 0, 1) := by decide +kernel
theorem dX1_answerOf_83 : decode cX1_answerOf 83 = .ok (.getfield 25, 3) := by decide +kernel
theorem dX1_answerOf_86 : decode cX1_answerOf 86 = .ok (.aload_n 0, 1) := by decide +kernel
theorem dX1_answerOf_87 : decode cX1_answerOf 87 = .ok (.getfield 55, 3) := by decide +kernel
theorem dX1_answerOf_90 : decode cX1_answerOf 90 = .ok (.iload_n 2, 1) := by decide +kernel
theorem dX1_answerOf_91 : decode cX1_answerOf 91 = .ok (.iastore, 1) := by decide +kernel
theorem dX1_answerOf_92 : decode cX1_answerOf 92 = .ok (.aload_n 0, 1) := by decide +kernel
theorem dX1_answerOf_93 : decode cX1_answerOf 93 = .ok (.getfield 28, 3) := by decide +kernel
theorem dX1_answerOf_96 : decode cX1_answerOf 96 = .ok (.aload_n 0, 1) := by decide +kernel
theorem dX1_answerOf_97 : decode cX1_answerOf 97 = .ok (.getfield 55, 3) := by decide +kernel
theorem dX1_answerOf_100 : decode cX1_answerOf 100 = .ok (.iload 4, 2) := by decide +kernel
theorem dX1_answerOf_102 : decode cX1_answerOf 102 = .ok (.iastore, 1) := by decide +kernel
theorem dX1_answerOf_103 : decode cX1_answerOf 103 = .ok (.aload_n 0, 1) := by decide +kernel
theorem dX1_answerOf_104 : decode cX1_answerOf 104 = .ok (.dup, 1) := by decide +kernel
theorem dX1_answerOf_105 : decode cX1_answerOf 105 = .ok (.getfield 55, 3) := by decide +kernel
theorem dX1_answerOf_108 : decode cX1_answerOf 108 = .ok (.iconst 1, 1) := by decide +kernel
theorem dX1_answerOf_109 : decode cX1_answerOf 109 = .ok (.iadd, 1) := by decide +kernel
theorem dX1_answerOf_110 : decode cX1_answerOf 110 = .ok (.putfield 55, 3) := by decide +kernel
theorem dX1_answerOf_113 : decode cX1_answerOf 113 = .ok (.aload_n 0, 1) := by decide +kernel
theorem dX1_answerOf_114 : decode cX1_answerOf 114 = .ok (.getfield 34, 3) := by decide +kernel
theorem dX1_answerOf_117 : decode cX1_answerOf 117 = .ok (.iload_n 1, 1) := by decide +kernel
theorem dX1_answerOf_118 : decode cX1_answerOf 118 = .ok (.iload_n 2, 1) := by decide +kernel
theorem dX1_answerOf_119 : decode cX1_answerOf 119 = .ok (.iload 4, 2) := by decide +kernel
theorem dX1_answerOf_121 : decode cX1_answerOf 121 = .ok (.invokevirtual 101, 3) := by decide +kernel
theorem dX1_answerOf_124 : decode cX1_answerOf 124 = .ok (.iload 4, 2) := by decide +kernel
theorem dX1_answerOf_126 : decode cX1_answerOf 126 = .ok (.ireturn, 1) := by decide +kernel
set_option maxRecDepth 20000 in
theorem ggX1_proofOf_X1_handOf : GoodIn wsX1_proofOf wsX1_handOf := goodIn_r _ [8, 9, 39, 40, 41, 42, 43, 44, 45, 46, 47, 48, 49, 50, 51, 52, 53, 54, 55] (by decide +kernel) (by decide +kernel)
set_option maxRecDepth 20000 in
theorem gX1_proofOf_X1_handOf : GoodIn wsX1_proofOf (wsV RX1 98 RX1 yX1_handOf wsX1_handOf) := goodIn_app (goodIn_of _ (by decide +kernel)) ggX1_proofOf_X1_handOf
set_option maxRecDepth 20000 in
theorem ggX1_proofOf_X0_keepProved : GoodIn wsX1_proofOf wsX0_keepProved := goodIn_r _ [14, 15, 16, 17, 13, 18, 19, 20, 21, 22, 23, 24, 25, 26, 27, 28, 29, 30, 31, 32, 33, 34, 35, 36, 37, 38, 56, 57, 58, 59] (by decide +kernel) (by decide +kernel)
set_option maxRecDepth 20000 in
theorem gX1_proofOf_X0_keepProved : GoodIn wsX1_proofOf (wsV RX1 105 RX0 yX0_keepProved wsX0_keepProved) := goodIn_app (goodIn_of _ (by decide +kernel)) ggX1_proofOf_X0_keepProved
theorem dX1_proofOf_0 : decode cX1_proofOf 0 = .ok (.aload_n 0, 1) := by decide +kernel
theorem dX1_proofOf_1 : decode cX1_proofOf 1 = .ok (.iload_n 1, 1) := by decide +kernel
theorem dX1_proofOf_2 : decode cX1_proofOf 2 = .ok (.invokevirtual 98, 3) := by decide +kernel
theorem dX1_proofOf_5 : decode cX1_proofOf 5 = .ok (.iload_n 2, 1) := by decide +kernel
theorem dX1_proofOf_6 : decode cX1_proofOf 6 = .ok (.ishr, 1) := by decide +kernel
theorem dX1_proofOf_7 : decode cX1_proofOf 7 = .ok (.iconst 1, 1) := by decide +kernel
theorem dX1_proofOf_8 : decode cX1_proofOf 8 = .ok (.iand, 1) := by decide +kernel
theorem dX1_proofOf_9 : decode cX1_proofOf 9 = .ok (.iconst 1, 1) := by decide +kernel
theorem dX1_proofOf_10 : decode cX1_proofOf 10 = .ok (.if_icmp .ne 7, 3) := by decide +kernel
theorem dX1_proofOf_13 : decode cX1_proofOf 13 = .ok (.iconst 1, 1) := by decide +kernel
theorem dX1_proofOf_14 : decode cX1_proofOf 14 = .ok (.goto 4, 3) := by decide +kernel
theorem dX1_proofOf_17 : decode cX1_proofOf 17 = .ok (.iconst 0, 1) := by decide +kernel
theorem dX1_proofOf_18 : decode cX1_proofOf 18 = .ok (.istore_n 3, 1) := by decide +kernel
theorem dX1_proofOf_19 : decode cX1_proofOf 19 = .ok (.aload_n 0, 1) := by decide +kernel
theorem dX1_proofOf_20 : decode cX1_proofOf 20 = .ok (.dup, 1) := by decide +kernel
theorem dX1_proofOf_21 : decode cX1_proofOf 21 = .ok (.getfield 61, 3) := by decide +kernel
theorem dX1_proofOf_24 : decode cX1_proofOf 24 = .ok (.iconst 1, 1) := by decide +kernel
theorem dX1_proofOf_25 : decode cX1_proofOf 25 = .ok (.iadd, 1) := by decide +kernel
theorem dX1_proofOf_26 : decode cX1_proofOf 26 = .ok (.putfield 61, 3) := by decide +kernel
theorem dX1_proofOf_29 : decode cX1_proofOf 29 = .ok (.iload_n 1, 1) := by decide +kernel
theorem dX1_proofOf_30 : decode cX1_proofOf 30 = .ok (.ifCond .lt 18, 3) := by decide +kernel
theorem dX1_proofOf_33 : decode cX1_proofOf 33 = .ok (.iload_n 1, 1) := by decide +kernel
theorem dX1_proofOf_34 : decode cX1_proofOf 34 = .ok (.iconst 4, 1) := by decide +kernel
theorem dX1_proofOf_35 : decode cX1_proofOf 35 = .ok (.if_icmp .ge 13, 3) := by decide +kernel
theorem dX1_proofOf_38 : decode cX1_proofOf 38 = .ok (.aload_n 0, 1) := by decide +kernel
theorem dX1_proofOf_39 : decode cX1_proofOf 39 = .ok (.getfield 19, 3) := by decide +kernel
theorem dX1_proofOf_42 : decode cX1_proofOf 42 = .ok (.iload_n 1, 1) := by decide +kernel
theorem dX1_proofOf_43 : decode cX1_proofOf 43 = .ok (.dup2, 1) := by decide +kernel
theorem dX1_proofOf_44 : decode cX1_proofOf 44 = .ok (.iaload, 1) := by decide +kernel
theorem dX1_proofOf_45 : decode cX1_proofOf 45 = .ok (.iconst 1, 1) := by decide +kernel
theorem dX1_proofOf_46 : decode cX1_proofOf 46 = .ok (.iadd, 1) := by decide +kernel
theorem dX1_proofOf_47 : decode cX1_proofOf 47 = .ok (.iastore, 1) := by decide +kernel
theorem dX1_proofOf_48 : decode cX1_proofOf 48 = .ok (.aload_n 0, 1) := by decide +kernel
theorem dX1_proofOf_49 : decode cX1_proofOf 49 = .ok (.getfield 34, 3) := by decide +kernel
theorem dX1_proofOf_52 : decode cX1_proofOf 52 = .ok (.iload_n 1, 1) := by decide +kernel
theorem dX1_proofOf_53 : decode cX1_proofOf 53 = .ok (.iload_n 2, 1) := by decide +kernel
theorem dX1_proofOf_54 : decode cX1_proofOf 54 = .ok (.iload_n 3, 1) := by decide +kernel
theorem dX1_proofOf_55 : decode cX1_proofOf 55 = .ok (.invokevirtual 105, 3) := by decide +kernel
theorem dX1_proofOf_58 : decode cX1_proofOf 58 = .ok (.iload_n 3, 1) := by decide +kernel
theorem dX1_proofOf_59 : decode cX1_proofOf 59 = .ok (.ireturn, 1) := by decide +kernel
set_option maxRecDepth 20000 in
theorem ggX1_sendHome_J6_bitCount_0f7a4 : GoodIn wsX1_sendHome wsJ6_bitCount_0f7a4 := goodIn_r _ [5, 6, 7, 8] (by decide +kernel) (by decide +kernel)
set_option maxRecDepth 20000 in
theorem gX1_sendHome_J6_bitCount_0f7a4 : GoodIn wsX1_sendHome (va_wsS RX1 86 yJ6_bitCount_0f7a4 wsJ6_bitCount_0f7a4) := goodIn_app (goodIn_of _ (by decide +kernel)) ggX1_sendHome_J6_bitCount_0f7a4
theorem dX1_sendHome_0 : decode cX1_sendHome 0 = .ok (.aload_n 0, 1) := by decide +kernel
theorem dX1_sendHome_1 : decode cX1_sendHome 1 = .ok (.dup, 1) := by decide +kernel
theorem dX1_sendHome_2 : decode cX1_sendHome 2 = .ok (.getfield 49, 3) := by decide +kernel
theorem dX1_sendHome_5 : decode cX1_sendHome 5 = .ok (.iconst 1, 1) := by decide +kernel
theorem dX1_sendHome_6 : decode cX1_sendHome 6 = .ok (.iload_n 1, 1) := by decide +kernel
theorem dX1_sendHome_7 : decode cX1_sendHome 7 = .ok (.ishl, 1) := by decide +kernel
theorem dX1_sendHome_8 : decode cX1_sendHome 8 = .ok (.iconst (-1), 1) := by decide +kernel
theorem dX1_sendHome_9 : decode cX1_sendHome 9 = .ok (.ixor, 1) := by decide +kernel
theorem dX1_sendHome_10 : decode cX1_sendHome 10 = .ok (.iand, 1) := by decide +kernel
theorem dX1_sendHome_11 : decode cX1_sendHome 11 = .ok (.putfield 49, 3) := by decide +kernel
theorem dX1_sendHome_14 : decode cX1_sendHome 14 = .ok (.aload_n 0, 1) := by decide +kernel
theorem dX1_sendHome_15 : decode cX1_sendHome 15 = .ok (.getfield 49, 3) := by decide +kernel
theorem dX1_sendHome_18 : decode cX1_sendHome 18 = .ok (.invokestatic 86, 3) := by decide +kernel
theorem dX1_sendHome_21 : decode cX1_sendHome 21 = .ok (.ireturn, 1) := by decide +kernel
theorem dX1_close_0 : decode cX1_close 0 = .ok (.aload_n 0, 1) := by decide +kernel
theorem dX1_close_1 : decode cX1_close 1 = .ok (.iconst 0, 1) := by decide +kernel
theorem dX1_close_2 : decode cX1_close 2 = .ok (.putfield 41, 3) := by decide +kernel
theorem dX1_close_5 : decode cX1_close 5 = .ok (.aload_n 0, 1) := by decide +kernel
theorem dX1_close_6 : decode cX1_close 6 = .ok (.dup, 1) := by decide +kernel
theorem dX1_close_7 : decode cX1_close 7 = .ok (.getfield 109, 3) := by decide +kernel
theorem dX1_close_10 : decode cX1_close 10 = .ok (.iconst 1, 1) := by decide +kernel
theorem dX1_close_11 : decode cX1_close 11 = .ok (.iadd, 1) := by decide +kernel
theorem dX1_close_12 : decode cX1_close 12 = .ok (.putfield 109, 3) := by decide +kernel
theorem dX1_close_15 : decode cX1_close 15 = .ok (.iload_n 1, 1) := by decide +kernel
theorem dX1_close_16 : decode cX1_close 16 = .ok (.aload_n 0, 1) := by decide +kernel
theorem dX1_close_17 : decode cX1_close 17 = .ok (.getfield 75, 3) := by decide +kernel
theorem dX1_close_20 : decode cX1_close 20 = .ok (.if_icmp .ne 32, 3) := by decide +kernel
theorem dX1_close_23 : decode cX1_close 23 = .ok (.aload_n 0, 1) := by decide +kernel
theorem dX1_close_24 : decode cX1_close 24 = .ok (.dup, 1) := by decide +kernel
theorem dX1_close_25 : decode cX1_close 25 = .ok (.getfield 112, 3) := by decide +kernel
theorem dX1_close_28 : decode cX1_close 28 = .ok (.iconst 1, 1) := by decide +kernel
theorem dX1_close_29 : decode cX1_close 29 = .ok (.iadd, 1) := by decide +kernel
theorem dX1_close_30 : decode cX1_close 30 = .ok (.putfield 112, 3) := by decide +kernel
theorem dX1_close_33 : decode cX1_close 33 = .ok (.aload_n 0, 1) := by decide +kernel
theorem dX1_close_34 : decode cX1_close 34 = .ok (.dup, 1) := by decide +kernel
theorem dX1_close_35 : decode cX1_close 35 = .ok (.getfield 115, 3) := by decide +kernel
theorem dX1_close_38 : decode cX1_close 38 = .ok (.bipush 21, 2) := by decide +kernel
theorem dX1_close_40 : decode cX1_close 40 = .ok (.aload_n 0, 1) := by decide +kernel
theorem dX1_close_41 : decode cX1_close 41 = .ok (.getfield 55, 3) := by decide +kernel
theorem dX1_close_44 : decode cX1_close 44 = .ok (.isub, 1) := by decide +kernel
theorem dX1_close_45 : decode cX1_close 45 = .ok (.iadd, 1) := by decide +kernel
theorem dX1_close_46 : decode cX1_close 46 = .ok (.putfield 115, 3) := by decide +kernel
theorem dX1_close_49 : decode cX1_close 49 = .ok (.goto 14, 3) := by decide +kernel
theorem dX1_close_52 : decode cX1_close 52 = .ok (.aload_n 0, 1) := by decide +kernel
theorem dX1_close_53 : decode cX1_close 53 = .ok (.dup, 1) := by decide +kernel
theorem dX1_close_54 : decode cX1_close 54 = .ok (.getfield 115, 3) := by decide +kernel
theorem dX1_close_57 : decode cX1_close 57 = .ok (.bipush 10, 2) := by decide +kernel
theorem dX1_close_59 : decode cX1_close 59 = .ok (.isub, 1) := by decide +kernel
theorem dX1_close_60 : decode cX1_close 60 = .ok (.putfield 115, 3) := by decide +kernel
theorem dX1_close_63 : decode cX1_close 63 = .ok (.aload_n 0, 1) := by decide +kernel
theorem dX1_close_64 : decode cX1_close 64 = .ok (.getfield 75, 3) := by decide +kernel
theorem dX1_close_67 : decode cX1_close 67 = .ok (.ireturn, 1) := by decide +kernel
theorem dX1_handOf_0 : decode cX1_handOf 0 = .ok (.iload_n 1, 1) := by decide +kernel
theorem dX1_handOf_1 : decode cX1_handOf 1 = .ok (.ifCond .lt 17, 3) := by decide +kernel
theorem dX1_handOf_4 : decode cX1_handOf 4 = .ok (.iload_n 1, 1) := by decide +kernel
theorem dX1_handOf_5 : decode cX1_handOf 5 = .ok (.iconst 4, 1) := by decide +kernel
theorem dX1_handOf_6 : decode cX1_handOf 6 = .ok (.if_icmp .ge 12, 3) := by decide +kernel
theorem dX1_handOf_9 : decode cX1_handOf 9 = .ok (.aload_n 0, 1) := by decide +kernel
theorem dX1_handOf_10 : decode cX1_handOf 10 = .ok (.getfield 15, 3) := by decide +kernel
theorem dX1_handOf_13 : decode cX1_handOf 13 = .ok (.iload_n 1, 1) := by decide +kernel
theorem dX1_handOf_14 : decode cX1_handOf 14 = .ok (.iaload, 1) := by decide +kernel
theorem dX1_handOf_15 : decode cX1_handOf 15 = .ok (.goto 4, 3) := by decide +kernel
theorem dX1_handOf_18 : decode cX1_handOf 18 = .ok (.iconst 0, 1) := by decide +kernel
theorem dX1_handOf_19 : decode cX1_handOf 19 = .ok (.ireturn, 1) := by decide +kernel
theorem dX1_questionsTo_0 : decode cX1_questionsTo 0 = .ok (.iconst 0, 1) := by decide +kernel
theorem dX1_questionsTo_1 : decode cX1_questionsTo 1 = .ok (.istore_n 2, 1) := by decide +kernel
theorem dX1_questionsTo_2 : decode cX1_questionsTo 2 = .ok (.iconst 0, 1) := by decide +kernel
theorem dX1_questionsTo_3 : decode cX1_questionsTo 3 = .ok (.istore_n 3, 1) := by decide +kernel
theorem dX1_questionsTo_4 : decode cX1_questionsTo 4 = .ok (.iload_n 3, 1) := by decide +kernel
theorem dX1_questionsTo_5 : decode cX1_questionsTo 5 = .ok (.aload_n 0, 1) := by decide +kernel
theorem dX1_questionsTo_6 : decode cX1_questionsTo 6 = .ok (.getfield 55, 3) := by decide +kernel
theorem dX1_questionsTo_9 : decode cX1_questionsTo 9 = .ok (.if_icmp .ge 28, 3) := by decide +kernel
theorem dX1_questionsTo_12 : decode cX1_questionsTo 12 = .ok (.iload_n 3, 1) := by decide +kernel
theorem dX1_questionsTo_13 : decode cX1_questionsTo 13 = .ok (.bipush 20, 2) := by decide +kernel
theorem dX1_questionsTo_15 : decode cX1_questionsTo 15 = .ok (.if_icmp .ge 22, 3) := by decide +kernel
theorem dX1_questionsTo_18 : decode cX1_questionsTo 18 = .ok (.aload_n 0, 1) := by decide +kernel
theorem dX1_questionsTo_19 : decode cX1_questionsTo 19 = .ok (.getfield 22, 3) := by decide +kernel
theorem dX1_questionsTo_22 : decode cX1_questionsTo 22 = .ok (.iload_n 3, 1) := by decide +kernel
theorem dX1_questionsTo_23 : decode cX1_questionsTo 23 = .ok (.iaload, 1) := by decide +kernel
theorem dX1_questionsTo_24 : decode cX1_questionsTo 24 = .ok (.iload_n 1, 1) := by decide +kernel
theorem dX1_questionsTo_25 : decode cX1_questionsTo 25 = .ok (.if_icmp .ne 6, 3) := by decide +kernel
theorem dX1_questionsTo_28 : decode cX1_questionsTo 28 = .ok (.iinc 2 1, 3) := by decide +kernel
theorem dX1_questionsTo_31 : decode cX1_questionsTo 31 = .ok (.iinc 3 1, 3) := by decide +kernel
theorem dX1_questionsTo_34 : decode cX1_questionsTo 34 = .ok (.goto (-30), 3) := by decide +kernel
theorem dX1_questionsTo_37 : decode cX1_questionsTo 37 = .ok (.iload_n 2, 1) := by decide +kernel
theorem dX1_questionsTo_38 : decode cX1_questionsTo 38 = .ok (.ireturn, 1) := by decide +kernel
set_option maxRecDepth 20000 in
theorem ggX1_aboutGuest_X4_sizeOfHand : GoodIn wsX1_aboutGuest wsX4_sizeOfHand := goodIn_r _ [8, 9, 10] (by decide +kernel) (by decide +kernel)
set_option maxRecDepth 20000 in
theorem gX1_aboutGuest_X4_sizeOfHand_n82 : GoodIn wsX1_aboutGuest (wsX4_sizeOfHand) := ggX1_aboutGuest_X4_sizeOfHand
set_option maxRecDepth 20000 in
theorem ggX1_aboutGuest_X1_questionsTo : GoodIn wsX1_aboutGuest wsX1_questionsTo := goodIn_r _ [15, 16, 17, 45, 46, 47, 48, 49, 50, 51, 52, 53, 54, 55, 56, 57, 58, 59, 60, 61] (by decide +kernel) (by decide +kernel)
set_option maxRecDepth 20000 in
theorem gX1_aboutGuest_X1_questionsTo : GoodIn wsX1_aboutGuest (wsV RX1 118 RX1 yX1_questionsTo wsX1_questionsTo) := goodIn_app (goodIn_of _ (by decide +kernel)) ggX1_aboutGuest_X1_questionsTo
set_option maxRecDepth 20000 in
theorem ggX1_aboutGuest_X0_cardsInAll : GoodIn wsX1_aboutGuest wsX0_cardsInAll := goodIn_r _ [22, 23, 24, 25, 26, 21, 27, 62, 63, 64, 65] (by decide +kernel) (by decide +kernel)
set_option maxRecDepth 20000 in
theorem gX1_aboutGuest_X0_cardsInAll : GoodIn wsX1_aboutGuest (wsV RX1 121 RX0 yX0_cardsInAll wsX0_cardsInAll) := goodIn_app (goodIn_of _ (by decide +kernel)) ggX1_aboutGuest_X0_cardsInAll
set_option maxRecDepth 20000 in
theorem ggX1_aboutGuest_X0_cardsInSome : GoodIn wsX1_aboutGuest wsX0_cardsInSome := goodIn_r _ [31, 32, 25, 26, 21, 27, 62, 63, 64, 65] (by decide +kernel) (by decide +kernel)
set_option maxRecDepth 20000 in
theorem gX1_aboutGuest_X0_cardsInSome : GoodIn wsX1_aboutGuest (wsV RX1 124 RX0 yX0_cardsInSome wsX0_cardsInSome) := goodIn_app (goodIn_of _ (by decide +kernel)) ggX1_aboutGuest_X0_cardsInSome
set_option maxRecDepth 20000 in
theorem ggX1_aboutGuest_X0_isWrongInAll : GoodIn wsX1_aboutGuest wsX0_isWrongInAll := goodIn_r _ [36, 23, 24, 37, 38, 21, 39, 62, 63, 64, 65] (by decide +kernel) (by decide +kernel)
set_option maxRecDepth 20000 in
theorem gX1_aboutGuest_X0_isWrongInAll : GoodIn wsX1_aboutGuest (wsV RX1 127 RX0 yX0_isWrongInAll wsX0_isWrongInAll) := goodIn_app (goodIn_of _ (by decide +kernel)) ggX1_aboutGuest_X0_isWrongInAll
set_option maxRecDepth 20000 in
theorem ggX1_aboutGuest_X1_handOf : GoodIn wsX1_aboutGuest wsX1_handOf := goodIn_r _ [43, 44, 45, 46, 47, 48, 49, 50, 51, 52, 53, 54, 55, 56, 57, 58, 59, 60, 61] (by decide +kernel) (by decide +kernel)
set_option maxRecDepth 20000 in
theorem gX1_aboutGuest_X1_handOf : GoodIn wsX1_aboutGuest (wsV RX1 98 RX1 yX1_handOf wsX1_handOf) := goodIn_app (goodIn_of _ (by decide +kernel)) ggX1_aboutGuest_X1_handOf
theorem dX1_aboutGuest_0 : decode cX1_aboutGuest 0 = .ok (.iload_n 2, 1) := by decide +kernel
theorem dX1_aboutGuest_1 : decode cX1_aboutGuest 1 = .ok (.tableswitch 122 0 6 #[43, 52, 61, 67, 87, 96, 105], 43) := by decide +kernel
theorem dX1_aboutGuest_44 : decode cX1_aboutGuest 44 = .ok (.aload_n 0, 1) := by decide +kernel
theorem dX1_aboutGuest_45 : decode cX1_aboutGuest 45 = .ok (.getfield 38, 3) := by decide +kernel
theorem dX1_aboutGuest_48 : decode cX1_aboutGuest 48 = .ok (.iload_n 1, 1) := by decide +kernel
theorem dX1_aboutGuest_49 : decode cX1_aboutGuest 49 = .ok (.invokestatic 82, 3) := by decide +kernel
theorem dX1_aboutGuest_52 : decode cX1_aboutGuest 52 = .ok (.ireturn, 1) := by decide +kernel
theorem dX1_aboutGuest_53 : decode cX1_aboutGuest 53 = .ok (.aload_n 0, 1) := by decide +kernel
theorem dX1_aboutGuest_54 : decode cX1_aboutGuest 54 = .ok (.getfield 49, 3) := by decide +kernel
theorem dX1_aboutGuest_57 : decode cX1_aboutGuest 57 = .ok (.iload_n 1, 1) := by decide +kernel
theorem dX1_aboutGuest_58 : decode cX1_aboutGuest 58 = .ok (.ishr, 1) := by decide +kernel
theorem dX1_aboutGuest_59 : decode cX1_aboutGuest 59 = .ok (.iconst 1, 1) := by decide +kernel
theorem dX1_aboutGuest_60 : decode cX1_aboutGuest 60 = .ok (.iand, 1) := by decide +kernel
theorem dX1_aboutGuest_61 : decode cX1_aboutGuest 61 = .ok (.ireturn, 1) := by decide +kernel
theorem dX1_aboutGuest_62 : decode cX1_aboutGuest 62 = .ok (.aload_n 0, 1) := by decide +kernel
theorem dX1_aboutGuest_63 : decode cX1_aboutGuest 63 = .ok (.iload_n 1, 1) := by decide +kernel
theorem dX1_aboutGuest_64 : decode cX1_aboutGuest 64 = .ok (.invokevirtual 118, 3) := by decide +kernel
theorem dX1_aboutGuest_67 : decode cX1_aboutGuest 67 = .ok (.ireturn, 1) := by decide +kernel
theorem dX1_aboutGuest_68 : decode cX1_aboutGuest 68 = .ok (.iload_n 1, 1) := by decide +kernel
theorem dX1_aboutGuest_69 : decode cX1_aboutGuest 69 = .ok (.ifCond .lt 17, 3) := by decide +kernel
theorem dX1_aboutGuest_72 : decode cX1_aboutGuest 72 = .ok (.iload_n 1, 1) := by decide +kernel
theorem dX1_aboutGuest_73 : decode cX1_aboutGuest 73 = .ok (.iconst 4, 1) := by decide +kernel
theorem dX1_aboutGuest_74 : decode cX1_aboutGuest 74 = .ok (.if_icmp .ge 12, 3) := by decide +kernel
theorem dX1_aboutGuest_77 : decode cX1_aboutGuest 77 = .ok (.aload_n 0, 1) := by decide +kernel
theorem dX1_aboutGuest_78 : decode cX1_aboutGuest 78 = .ok (.getfield 19, 3) := by decide +kernel
theorem dX1_aboutGuest_81 : decode cX1_aboutGuest 81 = .ok (.iload_n 1, 1) := by decide +kernel
theorem dX1_aboutGuest_82 : decode cX1_aboutGuest 82 = .ok (.iaload, 1) := by decide +kernel
theorem dX1_aboutGuest_83 : decode cX1_aboutGuest 83 = .ok (.goto 4, 3) := by decide +kernel
theorem dX1_aboutGuest_86 : decode cX1_aboutGuest 86 = .ok (.iconst 0, 1) := by decide +kernel
theorem dX1_aboutGuest_87 : decode cX1_aboutGuest 87 = .ok (.ireturn, 1) := by decide +kernel
theorem dX1_aboutGuest_88 : decode cX1_aboutGuest 88 = .ok (.aload_n 0, 1) := by decide +kernel
theorem dX1_aboutGuest_89 : decode cX1_aboutGuest 89 = .ok (.getfield 34, 3) := by decide +kernel
theorem dX1_aboutGuest_92 : decode cX1_aboutGuest 92 = .ok (.iload_n 1, 1) := by decide +kernel
theorem dX1_aboutGuest_93 : decode cX1_aboutGuest 93 = .ok (.invokevirtual 121, 3) := by decide +kernel
theorem dX1_aboutGuest_96 : decode cX1_aboutGuest 96 = .ok (.ireturn, 1) := by decide +kernel
theorem dX1_aboutGuest_97 : decode cX1_aboutGuest 97 = .ok (.aload_n 0, 1) := by decide +kernel
theorem dX1_aboutGuest_98 : decode cX1_aboutGuest 98 = .ok (.getfield 34, 3) := by decide +kernel
theorem dX1_aboutGuest_101 : decode cX1_aboutGuest 101 = .ok (.iload_n 1, 1) := by decide +kernel
theorem dX1_aboutGuest_102 : decode cX1_aboutGuest 102 = .ok (.invokevirtual 124, 3) := by decide +kernel
theorem dX1_aboutGuest_105 : decode cX1_aboutGuest 105 = .ok (.ireturn, 1) := by decide +kernel
theorem dX1_aboutGuest_106 : decode cX1_aboutGuest 106 = .ok (.aload_n 0, 1) := by decide +kernel
theorem dX1_aboutGuest_107 : decode cX1_aboutGuest 107 = .ok (.getfield 34, 3) := by decide +kernel
theorem dX1_aboutGuest_110 : decode cX1_aboutGuest 110 = .ok (.iload_n 1, 1) := by decide +kernel
theorem dX1_aboutGuest_111 : decode cX1_aboutGuest 111 = .ok (.invokevirtual 127, 3) := by decide +kernel
theorem dX1_aboutGuest_114 : decode cX1_aboutGuest 114 = .ok (.ifCond .eq 7, 3) := by decide +kernel
theorem dX1_aboutGuest_117 : decode cX1_aboutGuest 117 = .ok (.iconst 1, 1) := by decide +kernel
theorem dX1_aboutGuest_118 : decode cX1_aboutGuest 118 = .ok (.goto 4, 3) := by decide +kernel
theorem dX1_aboutGuest_121 : decode cX1_aboutGuest 121 = .ok (.iconst 0, 1) := by decide +kernel
theorem dX1_aboutGuest_122 : decode cX1_aboutGuest 122 = .ok (.ireturn, 1) := by decide +kernel
theorem dX1_aboutGuest_123 : decode cX1_aboutGuest 123 = .ok (.aload_n 0, 1) := by decide +kernel
theorem dX1_aboutGuest_124 : decode cX1_aboutGuest 124 = .ok (.getfield 41, 3) := by decide +kernel
theorem dX1_aboutGuest_127 : decode cX1_aboutGuest 127 = .ok (.ifCond .eq 7, 3) := by decide +kernel
theorem dX1_aboutGuest_130 : decode cX1_aboutGuest 130 = .ok (.iconst (-1), 1) := by decide +kernel
theorem dX1_aboutGuest_131 : decode cX1_aboutGuest 131 = .ok (.goto 8, 3) := by decide +kernel
theorem dX1_aboutGuest_134 : decode cX1_aboutGuest 134 = .ok (.aload_n 0, 1) := by decide +kernel
theorem dX1_aboutGuest_135 : decode cX1_aboutGuest 135 = .ok (.iload_n 1, 1) := by decide +kernel
theorem dX1_aboutGuest_136 : decode cX1_aboutGuest 136 = .ok (.invokevirtual 98, 3) := by decide +kernel
theorem dX1_aboutGuest_139 : decode cX1_aboutGuest 139 = .ok (.ireturn, 1) := by decide +kernel
set_option maxRecDepth 20000 in
theorem ggX1_aboutHouse_J6_bitCount_0f7a4 : GoodIn wsX1_aboutHouse wsJ6_bitCount_0f7a4 := goodIn_r _ [14, 15, 16, 17] (by decide +kernel) (by decide +kernel)
set_option maxRecDepth 20000 in
theorem gX1_aboutHouse_J6_bitCount_0f7a4 : GoodIn wsX1_aboutHouse (va_wsS RX1 86 yJ6_bitCount_0f7a4 wsJ6_bitCount_0f7a4) := goodIn_app (goodIn_of _ (by decide +kernel)) ggX1_aboutHouse_J6_bitCount_0f7a4
theorem dX1_aboutHouse_0 : decode cX1_aboutHouse 0 = .ok (.iload_n 1, 1) := by decide +kernel
theorem dX1_aboutHouse_1 : decode cX1_aboutHouse 1 = .ok (.tableswitch 107 0 8 #[51, 56, 69, 74, 79, 84, 89, 94, 99], 51) := by decide +kernel
theorem dX1_aboutHouse_52 : decode cX1_aboutHouse 52 = .ok (.aload_n 0, 1) := by decide +kernel
theorem dX1_aboutHouse_53 : decode cX1_aboutHouse 53 = .ok (.getfield 38, 3) := by decide +kernel
theorem dX1_aboutHouse_56 : decode cX1_aboutHouse 56 = .ok (.ireturn, 1) := by decide +kernel
theorem dX1_aboutHouse_57 : decode cX1_aboutHouse 57 = .ok (.aload_n 0, 1) := by decide +kernel
theorem dX1_aboutHouse_58 : decode cX1_aboutHouse 58 = .ok (.getfield 41, 3) := by decide +kernel
theorem dX1_aboutHouse_61 : decode cX1_aboutHouse 61 = .ok (.ifCond .eq 7, 3) := by decide +kernel
theorem dX1_aboutHouse_64 : decode cX1_aboutHouse 64 = .ok (.iconst 1, 1) := by decide +kernel
theorem dX1_aboutHouse_65 : decode cX1_aboutHouse 65 = .ok (.goto 4, 3) := by decide +kernel
theorem dX1_aboutHouse_68 : decode cX1_aboutHouse 68 = .ok (.iconst 0, 1) := by decide +kernel
theorem dX1_aboutHouse_69 : decode cX1_aboutHouse 69 = .ok (.ireturn, 1) := by decide +kernel
theorem dX1_aboutHouse_70 : decode cX1_aboutHouse 70 = .ok (.aload_n 0, 1) := by decide +kernel
theorem dX1_aboutHouse_71 : decode cX1_aboutHouse 71 = .ok (.getfield 55, 3) := by decide +kernel
theorem dX1_aboutHouse_74 : decode cX1_aboutHouse 74 = .ok (.ireturn, 1) := by decide +kernel
theorem dX1_aboutHouse_75 : decode cX1_aboutHouse 75 = .ok (.aload_n 0, 1) := by decide +kernel
theorem dX1_aboutHouse_76 : decode cX1_aboutHouse 76 = .ok (.getfield 61, 3) := by decide +kernel
theorem dX1_aboutHouse_79 : decode cX1_aboutHouse 79 = .ok (.ireturn, 1) := by decide +kernel
theorem dX1_aboutHouse_80 : decode cX1_aboutHouse 80 = .ok (.aload_n 0, 1) := by decide +kernel
theorem dX1_aboutHouse_81 : decode cX1_aboutHouse 81 = .ok (.getfield 109, 3) := by decide +kernel
theorem dX1_aboutHouse_84 : decode cX1_aboutHouse 84 = .ok (.ireturn, 1) := by decide +kernel
theorem dX1_aboutHouse_85 : decode cX1_aboutHouse 85 = .ok (.aload_n 0, 1) := by decide +kernel
theorem dX1_aboutHouse_86 : decode cX1_aboutHouse 86 = .ok (.getfield 112, 3) := by decide +kernel
theorem dX1_aboutHouse_89 : decode cX1_aboutHouse 89 = .ok (.ireturn, 1) := by decide +kernel
theorem dX1_aboutHouse_90 : decode cX1_aboutHouse 90 = .ok (.aload_n 0, 1) := by decide +kernel
theorem dX1_aboutHouse_91 : decode cX1_aboutHouse 91 = .ok (.getfield 115, 3) := by decide +kernel
theorem dX1_aboutHouse_94 : decode cX1_aboutHouse 94 = .ok (.ireturn, 1) := by decide +kernel
theorem dX1_aboutHouse_95 : decode cX1_aboutHouse 95 = .ok (.aload_n 0, 1) := by decide +kernel
theorem dX1_aboutHouse_96 : decode cX1_aboutHouse 96 = .ok (.getfield 9, 3) := by decide +kernel
theorem dX1_aboutHouse_99 : decode cX1_aboutHouse 99 = .ok (.ireturn, 1) := by decide +kernel
theorem dX1_aboutHouse_100 : decode cX1_aboutHouse 100 = .ok (.aload_n 0, 1) := by decide +kernel
theorem dX1_aboutHouse_101 : decode cX1_aboutHouse 101 = .ok (.getfield 49, 3) := by decide +kernel
theorem dX1_aboutHouse_104 : decode cX1_aboutHouse 104 = .ok (.invokestatic 86, 3) := by decide +kernel
theorem dX1_aboutHouse_107 : decode cX1_aboutHouse 107 = .ok (.ireturn, 1) := by decide +kernel
theorem dX1_aboutHouse_108 : decode cX1_aboutHouse 108 = .ok (.aload_n 0, 1) := by decide +kernel
theorem dX1_aboutHouse_109 : decode cX1_aboutHouse 109 = .ok (.getfield 41, 3) := by decide +kernel
theorem dX1_aboutHouse_112 : decode cX1_aboutHouse 112 = .ok (.ifCond .ne 10, 3) := by decide +kernel
theorem dX1_aboutHouse_115 : decode cX1_aboutHouse 115 = .ok (.aload_n 0, 1) := by decide +kernel
theorem dX1_aboutHouse_116 : decode cX1_aboutHouse 116 = .ok (.getfield 109, 3) := by decide +kernel
theorem dX1_aboutHouse_119 : decode cX1_aboutHouse 119 = .ok (.ifCond .ne 7, 3) := by decide +kernel
theorem dX1_aboutHouse_122 : decode cX1_aboutHouse 122 = .ok (.iconst (-1), 1) := by decide +kernel
theorem dX1_aboutHouse_123 : decode cX1_aboutHouse 123 = .ok (.goto 7, 3) := by decide +kernel
theorem dX1_aboutHouse_126 : decode cX1_aboutHouse 126 = .ok (.aload_n 0, 1) := by decide +kernel
theorem dX1_aboutHouse_127 : decode cX1_aboutHouse 127 = .ok (.getfield 75, 3) := by decide +kernel
theorem dX1_aboutHouse_130 : decode cX1_aboutHouse 130 = .ok (.ireturn, 1) := by decide +kernel
theorem dX1_aboutQuestion_0 : decode cX1_aboutQuestion 0 = .ok (.iload_n 1, 1) := by decide +kernel
theorem dX1_aboutQuestion_1 : decode cX1_aboutQuestion 1 = .ok (.ifCond .lt 9, 3) := by decide +kernel
theorem dX1_aboutQuestion_4 : decode cX1_aboutQuestion 4 = .ok (.iload_n 1, 1) := by decide +kernel
theorem dX1_aboutQuestion_5 : decode cX1_aboutQuestion 5 = .ok (.bipush 20, 2) := by decide +kernel
theorem dX1_aboutQuestion_7 : decode cX1_aboutQuestion 7 = .ok (.if_icmp .lt 5, 3) := by decide +kernel
theorem dX1_aboutQuestion_10 : decode cX1_aboutQuestion 10 = .ok (.iconst (-1), 1) := by decide +kernel
theorem dX1_aboutQuestion_11 : decode cX1_aboutQuestion 11 = .ok (.ireturn, 1) := by decide +kernel
theorem dX1_aboutQuestion_12 : decode cX1_aboutQuestion 12 = .ok (.iload_n 2, 1) := by decide +kernel
theorem dX1_aboutQuestion_13 : decode cX1_aboutQuestion 13 = .ok (.lookupswitch 41 #[(0, 27), (1, 34)], 27) := by decide +kernel
theorem dX1_aboutQuestion_40 : decode cX1_aboutQuestion 40 = .ok (.aload_n 0, 1) := by decide +kernel
theorem dX1_aboutQuestion_41 : decode cX1_aboutQuestion 41 = .ok (.getfield 22, 3) := by decide +kernel
theorem dX1_aboutQuestion_44 : decode cX1_aboutQuestion 44 = .ok (.iload_n 1, 1) := by decide +kernel
theorem dX1_aboutQuestion_45 : decode cX1_aboutQuestion 45 = .ok (.iaload, 1) := by decide +kernel
theorem dX1_aboutQuestion_46 : decode cX1_aboutQuestion 46 = .ok (.ireturn, 1) := by decide +kernel
theorem dX1_aboutQuestion_47 : decode cX1_aboutQuestion 47 = .ok (.aload_n 0, 1) := by decide +kernel
theorem dX1_aboutQuestion_48 : decode cX1_aboutQuestion 48 = .ok (.getfield 25, 3) := by decide +kernel
theorem dX1_aboutQuestion_51 : decode cX1_aboutQuestion 51 = .ok (.iload_n 1, 1) := by decide +kernel
theorem dX1_aboutQuestion_52 : decode cX1_aboutQuestion 52 = .ok (.iaload, 1) := by decide +kernel
theorem dX1_aboutQuestion_53 : decode cX1_aboutQuestion 53 = .ok (.ireturn, 1) := by decide +kernel
theorem dX1_aboutQuestion_54 : decode cX1_aboutQuestion 54 = .ok (.aload_n 0, 1) := by decide +kernel
theorem dX1_aboutQuestion_55 : decode cX1_aboutQuestion 55 = .ok (.getfield 28, 3) := by decide +kernel
theorem dX1_aboutQuestion_58 : decode cX1_aboutQuestion 58 = .ok (.iload_n 1, 1) := by decide +kernel
theorem dX1_aboutQuestion_59 : decode cX1_aboutQuestion 59 = .ok (.iaload, 1) := by decide +kernel
theorem dX1_aboutQuestion_60 : decode cX1_aboutQuestion 60 = .ok (.ireturn, 1) := by decide +kernel
set_option maxRecDepth 20000 in
theorem ggX1_copyFrom_X4_copyRow : GoodIn wsX1_copyFrom wsX4_copyRow := goodIn_r _ [20, 21, 22, 23, 24, 25, 26, 27, 28] (by decide +kernel) (by decide +kernel)
set_option maxRecDepth 20000 in
theorem gX1_copyFrom_X4_copyRow_n130 : GoodIn wsX1_copyFrom (wsX4_copyRow) := ggX1_copyFrom_X4_copyRow
set_option maxRecDepth 20000 in
theorem ggX1_copyFrom_X0_copyFrom : GoodIn wsX1_copyFrom wsX0_copyFrom := goodIn_r _ [33, 34, 35, 26, 27, 28, 36, 37, 38, 39, 40, 41, 32, 42, 43, 22, 23, 24, 61, 62, 63, 64] (by decide +kernel) (by decide +kernel)
set_option maxRecDepth 20000 in
theorem gX1_copyFrom_X0_copyFrom : GoodIn wsX1_copyFrom (wsV RX1 67 RX0 yX0_copyFrom wsX0_copyFrom) := goodIn_app (goodIn_of _ (by decide +kernel)) ggX1_copyFrom_X0_copyFrom
theorem dX1_copyFrom_0 : decode cX1_copyFrom 0 = .ok (.aload_n 0, 1) := by decide +kernel
theorem dX1_copyFrom_1 : decode cX1_copyFrom 1 = .ok (.aload_n 1, 1) := by decide +kernel
theorem dX1_copyFrom_2 : decode cX1_copyFrom 2 = .ok (.getfield 9, 3) := by decide +kernel
theorem dX1_copyFrom_5 : decode cX1_copyFrom 5 = .ok (.putfield 9, 3) := by decide +kernel
theorem dX1_copyFrom_8 : decode cX1_copyFrom 8 = .ok (.aload_n 0, 1) := by decide +kernel
theorem dX1_copyFrom_9 : decode cX1_copyFrom 9 = .ok (.aload_n 1, 1) := by decide +kernel
theorem dX1_copyFrom_10 : decode cX1_copyFrom 10 = .ok (.getfield 38, 3) := by decide +kernel
theorem dX1_copyFrom_13 : decode cX1_copyFrom 13 = .ok (.putfield 38, 3) := by decide +kernel
theorem dX1_copyFrom_16 : decode cX1_copyFrom 16 = .ok (.aload_n 0, 1) := by decide +kernel
theorem dX1_copyFrom_17 : decode cX1_copyFrom 17 = .ok (.aload_n 1, 1) := by decide +kernel
theorem dX1_copyFrom_18 : decode cX1_copyFrom 18 = .ok (.getfield 41, 3) := by decide +kernel
theorem dX1_copyFrom_21 : decode cX1_copyFrom 21 = .ok (.putfield 41, 3) := by decide +kernel
theorem dX1_copyFrom_24 : decode cX1_copyFrom 24 = .ok (.aload_n 0, 1) := by decide +kernel
theorem dX1_copyFrom_25 : decode cX1_copyFrom 25 = .ok (.aload_n 1, 1) := by decide +kernel
theorem dX1_copyFrom_26 : decode cX1_copyFrom 26 = .ok (.getfield 75, 3) := by decide +kernel
theorem dX1_copyFrom_29 : decode cX1_copyFrom 29 = .ok (.putfield 75, 3) := by decide +kernel
theorem dX1_copyFrom_32 : decode cX1_copyFrom 32 = .ok (.aload_n 0, 1) := by decide +kernel
theorem dX1_copyFrom_33 : decode cX1_copyFrom 33 = .ok (.aload_n 1, 1) := by decide +kernel
theorem dX1_copyFrom_34 : decode cX1_copyFrom 34 = .ok (.getfield 109, 3) := by decide +kernel
theorem dX1_copyFrom_37 : decode cX1_copyFrom 37 = .ok (.putfield 109, 3) := by decide +kernel
theorem dX1_copyFrom_40 : decode cX1_copyFrom 40 = .ok (.aload_n 0, 1) := by decide +kernel
theorem dX1_copyFrom_41 : decode cX1_copyFrom 41 = .ok (.aload_n 1, 1) := by decide +kernel
theorem dX1_copyFrom_42 : decode cX1_copyFrom 42 = .ok (.getfield 112, 3) := by decide +kernel
theorem dX1_copyFrom_45 : decode cX1_copyFrom 45 = .ok (.putfield 112, 3) := by decide +kernel
theorem dX1_copyFrom_48 : decode cX1_copyFrom 48 = .ok (.aload_n 0, 1) := by decide +kernel
theorem dX1_copyFrom_49 : decode cX1_copyFrom 49 = .ok (.aload_n 1, 1) := by decide +kernel
theorem dX1_copyFrom_50 : decode cX1_copyFrom 50 = .ok (.getfield 115, 3) := by decide +kernel
theorem dX1_copyFrom_53 : decode cX1_copyFrom 53 = .ok (.putfield 115, 3) := by decide +kernel
theorem dX1_copyFrom_56 : decode cX1_copyFrom 56 = .ok (.aload_n 0, 1) := by decide +kernel
theorem dX1_copyFrom_57 : decode cX1_copyFrom 57 = .ok (.aload_n 1, 1) := by decide +kernel
theorem dX1_copyFrom_58 : decode cX1_copyFrom 58 = .ok (.getfield 49, 3) := by decide +kernel
theorem dX1_copyFrom_61 : decode cX1_copyFrom 61 = .ok (.putfield 49, 3) := by decide +kernel
theorem dX1_copyFrom_64 : decode cX1_copyFrom 64 = .ok (.aload_n 0, 1) := by decide +kernel
theorem dX1_copyFrom_65 : decode cX1_copyFrom 65 = .ok (.aload_n 1, 1) := by decide +kernel
theorem dX1_copyFrom_66 : decode cX1_copyFrom 66 = .ok (.getfield 58, 3) := by decide +kernel
theorem dX1_copyFrom_69 : decode cX1_copyFrom 69 = .ok (.putfield 58, 3) := by decide +kernel
theorem dX1_copyFrom_72 : decode cX1_copyFrom 72 = .ok (.aload_n 1, 1) := by decide +kernel
theorem dX1_copyFrom_73 : decode cX1_copyFrom 73 = .ok (.getfield 15, 3) := by decide +kernel
theorem dX1_copyFrom_76 : decode cX1_copyFrom 76 = .ok (.aload_n 0, 1) := by decide +kernel
theorem dX1_copyFrom_77 : decode cX1_copyFrom 77 = .ok (.getfield 15, 3) := by decide +kernel
theorem dX1_copyFrom_80 : decode cX1_copyFrom 80 = .ok (.invokestatic 130, 3) := by decide +kernel
theorem dX1_copyFrom_83 : decode cX1_copyFrom 83 = .ok (.aload_n 0, 1) := by decide +kernel
theorem dX1_copyFrom_84 : decode cX1_copyFrom 84 = .ok (.aload_n 1, 1) := by decide +kernel
theorem dX1_copyFrom_85 : decode cX1_copyFrom 85 = .ok (.getfield 61, 3) := by decide +kernel
theorem dX1_copyFrom_88 : decode cX1_copyFrom 88 = .ok (.putfield 61, 3) := by decide +kernel
theorem dX1_copyFrom_91 : decode cX1_copyFrom 91 = .ok (.aload_n 1, 1) := by decide +kernel
theorem dX1_copyFrom_92 : decode cX1_copyFrom 92 = .ok (.getfield 19, 3) := by decide +kernel
theorem dX1_copyFrom_95 : decode cX1_copyFrom 95 = .ok (.aload_n 0, 1) := by decide +kernel
theorem dX1_copyFrom_96 : decode cX1_copyFrom 96 = .ok (.getfield 19, 3) := by decide +kernel
theorem dX1_copyFrom_99 : decode cX1_copyFrom 99 = .ok (.invokestatic 130, 3) := by decide +kernel
theorem dX1_copyFrom_102 : decode cX1_copyFrom 102 = .ok (.aload_n 0, 1) := by decide +kernel
theorem dX1_copyFrom_103 : decode cX1_copyFrom 103 = .ok (.aload_n 1, 1) := by decide +kernel
theorem dX1_copyFrom_104 : decode cX1_copyFrom 104 = .ok (.getfield 55, 3) := by decide +kernel
theorem dX1_copyFrom_107 : decode cX1_copyFrom 107 = .ok (.putfield 55, 3) := by decide +kernel
theorem dX1_copyFrom_110 : decode cX1_copyFrom 110 = .ok (.aload_n 1, 1) := by decide +kernel
theorem dX1_copyFrom_111 : decode cX1_copyFrom 111 = .ok (.getfield 22, 3) := by decide +kernel
theorem dX1_copyFrom_114 : decode cX1_copyFrom 114 = .ok (.aload_n 0, 1) := by decide +kernel
theorem dX1_copyFrom_115 : decode cX1_copyFrom 115 = .ok (.getfield 22, 3) := by decide +kernel
theorem dX1_copyFrom_118 : decode cX1_copyFrom 118 = .ok (.invokestatic 130, 3) := by decide +kernel
theorem dX1_copyFrom_121 : decode cX1_copyFrom 121 = .ok (.aload_n 1, 1) := by decide +kernel
theorem dX1_copyFrom_122 : decode cX1_copyFrom 122 = .ok (.getfield 25, 3) := by decide +kernel
theorem dX1_copyFrom_125 : decode cX1_copyFrom 125 = .ok (.aload_n 0, 1) := by decide +kernel
theorem dX1_copyFrom_126 : decode cX1_copyFrom 126 = .ok (.getfield 25, 3) := by decide +kernel
theorem dX1_copyFrom_129 : decode cX1_copyFrom 129 = .ok (.invokestatic 130, 3) := by decide +kernel
theorem dX1_copyFrom_132 : decode cX1_copyFrom 132 = .ok (.aload_n 1, 1) := by decide +kernel
theorem dX1_copyFrom_133 : decode cX1_copyFrom 133 = .ok (.getfield 28, 3) := by decide +kernel
theorem dX1_copyFrom_136 : decode cX1_copyFrom 136 = .ok (.aload_n 0, 1) := by decide +kernel
theorem dX1_copyFrom_137 : decode cX1_copyFrom 137 = .ok (.getfield 28, 3) := by decide +kernel
theorem dX1_copyFrom_140 : decode cX1_copyFrom 140 = .ok (.invokestatic 130, 3) := by decide +kernel
theorem dX1_copyFrom_143 : decode cX1_copyFrom 143 = .ok (.aload_n 0, 1) := by decide +kernel
theorem dX1_copyFrom_144 : decode cX1_copyFrom 144 = .ok (.getfield 34, 3) := by decide +kernel
theorem dX1_copyFrom_147 : decode cX1_copyFrom 147 = .ok (.aload_n 1, 1) := by decide +kernel
theorem dX1_copyFrom_148 : decode cX1_copyFrom 148 = .ok (.getfield 34, 3) := by decide +kernel
theorem dX1_copyFrom_151 : decode cX1_copyFrom 151 = .ok (.invokevirtual 67, 3) := by decide +kernel
theorem dX1_copyFrom_154 : decode cX1_copyFrom 154 = .ok (.return_, 1) := by decide +kernel
theorem dX2_init_0 : decode cX2_init 0 = .ok (.aload_n 0, 1) := by decide +kernel
theorem dX2_init_1 : decode cX2_init 1 = .ok (.invokespecial 3, 3) := by decide +kernel
theorem dX2_init_4 : decode cX2_init 4 = .ok (.aload_n 0, 1) := by decide +kernel
theorem dX2_init_5 : decode cX2_init 5 = .ok (.sipush 256, 3) := by decide +kernel
theorem dX2_init_8 : decode cX2_init 8 = .ok (.newarray .int, 2) := by decide +kernel
theorem dX2_init_10 : decode cX2_init 10 = .ok (.putfield 9, 3) := by decide +kernel
theorem dX2_init_13 : decode cX2_init 13 = .ok (.aload_n 0, 1) := by decide +kernel
theorem dX2_init_14 : decode cX2_init 14 = .ok (.bipush 9, 2) := by decide +kernel
theorem dX2_init_16 : decode cX2_init 16 = .ok (.newarray .int, 2) := by decide +kernel
theorem dX2_init_18 : decode cX2_init 18 = .ok (.putfield 15, 3) := by decide +kernel
theorem dX2_init_21 : decode cX2_init 21 = .ok (.return_, 1) := by decide +kernel
set_option maxRecDepth 20000 in
theorem ggX2_lookAt_X0_wrongBit : GoodIn wsX2_lookAt wsX0_wrongBit := goodIn_r _ [6] (by decide +kernel) (by decide +kernel)
set_option maxRecDepth 20000 in
theorem gX2_lookAt_X0_wrongBit : GoodIn wsX2_lookAt (va_wsS RX2 22 yX0_wrongBit wsX0_wrongBit) := goodIn_app (goodIn_of _ (by decide +kernel)) ggX2_lookAt_X0_wrongBit
set_option maxRecDepth 20000 in
theorem ggX2_lookAt_X0_length : GoodIn wsX2_lookAt wsX0_length := goodIn_r _ [9, 10, 11, 12, 13, 14, 15, 22, 23, 24, 25] (by decide +kernel) (by decide +kernel)
set_option maxRecDepth 20000 in
theorem gX2_lookAt_X0_length_n28 : GoodIn wsX2_lookAt (wsX0_length) := ggX2_lookAt_X0_length
set_option maxRecDepth 20000 in
theorem ggX2_lookAt_X0_cardsAt : GoodIn wsX2_lookAt wsX0_cardsAt := goodIn_r _ [18] (by decide +kernel) (by decide +kernel)
set_option maxRecDepth 20000 in
theorem gX2_lookAt_X0_cardsAt : GoodIn wsX2_lookAt (va_wsS RX2 36 yX0_cardsAt wsX0_cardsAt) := goodIn_app (goodIn_of _ (by decide +kernel)) ggX2_lookAt_X0_cardsAt
theorem dX2_lookAt_0 : decode cX2_lookAt 0 = .ok (.aload_n 0, 1) := by decide +kernel
theorem dX2_lookAt_1 : decode cX2_lookAt 1 = .ok (.iconst 0, 1) := by decide +kernel
theorem dX2_lookAt_2 : decode cX2_lookAt 2 = .ok (.putfield 18, 3) := by decide +kernel
theorem dX2_lookAt_5 : decode cX2_lookAt 5 = .ok (.iconst 0, 1) := by decide +kernel
theorem dX2_lookAt_6 : decode cX2_lookAt 6 = .ok (.istore_n 3, 1) := by decide +kernel
theorem dX2_lookAt_7 : decode cX2_lookAt 7 = .ok (.iload_n 3, 1) := by decide +kernel
theorem dX2_lookAt_8 : decode cX2_lookAt 8 = .ok (.aload_n 0, 1) := by decide +kernel
theorem dX2_lookAt_9 : decode cX2_lookAt 9 = .ok (.getfield 9, 3) := by decide +kernel
theorem dX2_lookAt_12 : decode cX2_lookAt 12 = .ok (.arraylength, 1) := by decide +kernel
theorem dX2_lookAt_13 : decode cX2_lookAt 13 = .ok (.if_icmp .ge 16, 3) := by decide +kernel
theorem dX2_lookAt_16 : decode cX2_lookAt 16 = .ok (.aload_n 0, 1) := by decide +kernel
theorem dX2_lookAt_17 : decode cX2_lookAt 17 = .ok (.getfield 9, 3) := by decide +kernel
theorem dX2_lookAt_20 : decode cX2_lookAt 20 = .ok (.iload_n 3, 1) := by decide +kernel
theorem dX2_lookAt_21 : decode cX2_lookAt 21 = .ok (.iconst 0, 1) := by decide +kernel
theorem dX2_lookAt_22 : decode cX2_lookAt 22 = .ok (.iastore, 1) := by decide +kernel
theorem dX2_lookAt_23 : decode cX2_lookAt 23 = .ok (.iinc 3 1, 3) := by decide +kernel
theorem dX2_lookAt_26 : decode cX2_lookAt 26 = .ok (.goto (-19), 3) := by decide +kernel
theorem dX2_lookAt_29 : decode cX2_lookAt 29 = .ok (.iload_n 2, 1) := by decide +kernel
theorem dX2_lookAt_30 : decode cX2_lookAt 30 = .ok (.invokestatic 22, 3) := by decide +kernel
theorem dX2_lookAt_33 : decode cX2_lookAt 33 = .ok (.lstore_n 3, 1) := by decide +kernel
theorem dX2_lookAt_34 : decode cX2_lookAt 34 = .ok (.aload_n 1, 1) := by decide +kernel
theorem dX2_lookAt_35 : decode cX2_lookAt 35 = .ok (.invokevirtual 28, 3) := by decide +kernel
theorem dX2_lookAt_38 : decode cX2_lookAt 38 = .ok (.istore 5, 2) := by decide +kernel
theorem dX2_lookAt_40 : decode cX2_lookAt 40 = .ok (.iconst 0, 1) := by decide +kernel
theorem dX2_lookAt_41 : decode cX2_lookAt 41 = .ok (.istore 6, 2) := by decide +kernel
theorem dX2_lookAt_43 : decode cX2_lookAt 43 = .ok (.iload 6, 2) := by decide +kernel
theorem dX2_lookAt_45 : decode cX2_lookAt 45 = .ok (.iload 5, 2) := by decide +kernel
theorem dX2_lookAt_47 : decode cX2_lookAt 47 = .ok (.if_icmp .ge 69, 3) := by decide +kernel
theorem dX2_lookAt_50 : decode cX2_lookAt 50 = .ok (.aload_n 1, 1) := by decide +kernel
theorem dX2_lookAt_51 : decode cX2_lookAt 51 = .ok (.getfield 32, 3) := by decide +kernel
theorem dX2_lookAt_54 : decode cX2_lookAt 54 = .ok (.iload 6, 2) := by decide +kernel
theorem dX2_lookAt_56 : decode cX2_lookAt 56 = .ok (.laload, 1) := by decide +kernel
theorem dX2_lookAt_57 : decode cX2_lookAt 57 = .ok (.lstore 7, 2) := by decide +kernel
theorem dX2_lookAt_59 : decode cX2_lookAt 59 = .ok (.lload 7, 2) := by decide +kernel
theorem dX2_lookAt_61 : decode cX2_lookAt 61 = .ok (.iload_n 2, 1) := by decide +kernel
theorem dX2_lookAt_62 : decode cX2_lookAt 62 = .ok (.invokestatic 36, 3) := by decide +kernel
theorem dX2_lookAt_65 : decode cX2_lookAt 65 = .ok (.istore 9, 2) := by decide +kernel
theorem dX2_lookAt_67 : decode cX2_lookAt 67 = .ok (.lload 7, 2) := by decide +kernel
theorem dX2_lookAt_69 : decode cX2_lookAt 69 = .ok (.lload_n 3, 1) := by decide +kernel
theorem dX2_lookAt_70 : decode cX2_lookAt 70 = .ok (.land, 1) := by decide +kernel
theorem dX2_lookAt_71 : decode cX2_lookAt 71 = .ok (.lconst 0, 1) := by decide +kernel
theorem dX2_lookAt_72 : decode cX2_lookAt 72 = .ok (.lcmp, 1) := by decide +kernel
theorem dX2_lookAt_73 : decode cX2_lookAt 73 = .ok (.ifCond .ne 16, 3) := by decide +kernel
theorem dX2_lookAt_76 : decode cX2_lookAt 76 = .ok (.aload_n 0, 1) := by decide +kernel
theorem dX2_lookAt_77 : decode cX2_lookAt 77 = .ok (.dup, 1) := by decide +kernel
theorem dX2_lookAt_78 : decode cX2_lookAt 78 = .ok (.getfield 18, 3) := by decide +kernel
theorem dX2_lookAt_81 : decode cX2_lookAt 81 = .ok (.iconst 1, 1) := by decide +kernel
theorem dX2_lookAt_82 : decode cX2_lookAt 82 = .ok (.iadd, 1) := by decide +kernel
theorem dX2_lookAt_83 : decode cX2_lookAt 83 = .ok (.putfield 18, 3) := by decide +kernel
theorem dX2_lookAt_86 : decode cX2_lookAt 86 = .ok (.goto 24, 3) := by decide +kernel
theorem dX2_lookAt_89 : decode cX2_lookAt 89 = .ok (.iload 9, 2) := by decide +kernel
theorem dX2_lookAt_91 : decode cX2_lookAt 91 = .ok (.aload_n 0, 1) := by decide +kernel
theorem dX2_lookAt_92 : decode cX2_lookAt 92 = .ok (.getfield 9, 3) := by decide +kernel
theorem dX2_lookAt_95 : decode cX2_lookAt 95 = .ok (.arraylength, 1) := by decide +kernel
theorem dX2_lookAt_96 : decode cX2_lookAt 96 = .ok (.if_icmp .ge 14, 3) := by decide +kernel
theorem dX2_lookAt_99 : decode cX2_lookAt 99 = .ok (.aload_n 0, 1) := by decide +kernel
theorem dX2_lookAt_100 : decode cX2_lookAt 100 = .ok (.getfield 9, 3) := by decide +kernel
theorem dX2_lookAt_103 : decode cX2_lookAt 103 = .ok (.iload 9, 2) := by decide +kernel
theorem dX2_lookAt_105 : decode cX2_lookAt 105 = .ok (.dup2, 1) := by decide +kernel
theorem dX2_lookAt_106 : decode cX2_lookAt 106 = .ok (.iaload, 1) := by decide +kernel
theorem dX2_lookAt_107 : decode cX2_lookAt 107 = .ok (.iconst 1, 1) := by decide +kernel
theorem dX2_lookAt_108 : decode cX2_lookAt 108 = .ok (.iadd, 1) := by decide +kernel
theorem dX2_lookAt_109 : decode cX2_lookAt 109 = .ok (.iastore, 1) := by decide +kernel
theorem dX2_lookAt_110 : decode cX2_lookAt 110 = .ok (.iinc 6 1, 3) := by decide +kernel
theorem dX2_lookAt_113 : decode cX2_lookAt 113 = .ok (.goto (-70), 3) := by decide +kernel
theorem dX2_lookAt_116 : decode cX2_lookAt 116 = .ok (.return_, 1) := by decide +kernel
set_option maxRecDepth 20000 in
theorem ggX2_leftBehind_J6_bitCount_0f7a4 : GoodIn wsX2_leftBehind wsJ6_bitCount_0f7a4 := goodIn_r _ [6, 7, 8, 9] (by decide +kernel) (by decide +kernel)
set_option maxRecDepth 20000 in
theorem gX2_leftBehind_J6_bitCount_0f7a4 : GoodIn wsX2_leftBehind (va_wsS RX2 40 yJ6_bitCount_0f7a4 wsJ6_bitCount_0f7a4) := goodIn_app (goodIn_of _ (by decide +kernel)) ggX2_leftBehind_J6_bitCount_0f7a4
theorem dX2_leftBehind_0 : decode cX2_leftBehind 0 = .ok (.aload_n 0, 1) := by decide +kernel
theorem dX2_leftBehind_1 : decode cX2_leftBehind 1 = .ok (.getfield 18, 3) := by decide +kernel
theorem dX2_leftBehind_4 : decode cX2_leftBehind 4 = .ok (.istore_n 3, 1) := by decide +kernel
theorem dX2_leftBehind_5 : decode cX2_leftBehind 5 = .ok (.iconst 0, 1) := by decide +kernel
theorem dX2_leftBehind_6 : decode cX2_leftBehind 6 = .ok (.istore 4, 2) := by decide +kernel
theorem dX2_leftBehind_8 : decode cX2_leftBehind 8 = .ok (.iload 4, 2) := by decide +kernel
theorem dX2_leftBehind_10 : decode cX2_leftBehind 10 = .ok (.aload_n 0, 1) := by decide +kernel
theorem dX2_leftBehind_11 : decode cX2_leftBehind 11 = .ok (.getfield 9, 3) := by decide +kernel
theorem dX2_leftBehind_14 : decode cX2_leftBehind 14 = .ok (.arraylength, 1) := by decide +kernel
theorem dX2_leftBehind_15 : decode cX2_leftBehind 15 = .ok (.if_icmp .ge 30, 3) := by decide +kernel
theorem dX2_leftBehind_18 : decode cX2_leftBehind 18 = .ok (.iload 4, 2) := by decide +kernel
theorem dX2_leftBehind_20 : decode cX2_leftBehind 20 = .ok (.iload_n 1, 1) := by decide +kernel
theorem dX2_leftBehind_21 : decode cX2_leftBehind 21 = .ok (.iand, 1) := by decide +kernel
theorem dX2_leftBehind_22 : decode cX2_leftBehind 22 = .ok (.invokestatic 40, 3) := by decide +kernel
theorem dX2_leftBehind_25 : decode cX2_leftBehind 25 = .ok (.iload_n 2, 1) := by decide +kernel
theorem dX2_leftBehind_26 : decode cX2_leftBehind 26 = .ok (.if_icmp .ne 13, 3) := by decide +kernel
theorem dX2_leftBehind_29 : decode cX2_leftBehind 29 = .ok (.iload_n 3, 1) := by decide +kernel
theorem dX2_leftBehind_30 : decode cX2_leftBehind 30 = .ok (.aload_n 0, 1) := by decide +kernel
theorem dX2_leftBehind_31 : decode cX2_leftBehind 31 = .ok (.getfield 9, 3) := by decide +kernel
theorem dX2_leftBehind_34 : decode cX2_leftBehind 34 = .ok (.iload 4, 2) := by decide +kernel
theorem dX2_leftBehind_36 : decode cX2_leftBehind 36 = .ok (.iaload, 1) := by decide +kernel
theorem dX2_leftBehind_37 : decode cX2_leftBehind 37 = .ok (.iadd, 1) := by decide +kernel
theorem dX2_leftBehind_38 : decode cX2_leftBehind 38 = .ok (.istore_n 3, 1) := by decide +kernel
theorem dX2_leftBehind_39 : decode cX2_leftBehind 39 = .ok (.iinc 4 1, 3) := by decide +kernel
theorem dX2_leftBehind_42 : decode cX2_leftBehind 42 = .ok (.goto (-34), 3) := by decide +kernel
theorem dX2_leftBehind_45 : decode cX2_leftBehind 45 = .ok (.iload_n 3, 1) := by decide +kernel
theorem dX2_leftBehind_46 : decode cX2_leftBehind 46 = .ok (.ireturn, 1) := by decide +kernel
set_option maxRecDepth 20000 in
theorem ggX2_mostLeft_J6_bitCount_0f7a4 : GoodIn wsX2_mostLeft wsJ6_bitCount_0f7a4 := goodIn_r _ [11, 12, 13, 14] (by decide +kernel) (by decide +kernel)
set_option maxRecDepth 20000 in
theorem gX2_mostLeft_J6_bitCount_0f7a4 : GoodIn wsX2_mostLeft (va_wsS RX2 40 yJ6_bitCount_0f7a4 wsJ6_bitCount_0f7a4) := goodIn_app (goodIn_of _ (by decide +kernel)) ggX2_mostLeft_J6_bitCount_0f7a4
theorem dX2_mostLeft_0 : decode cX2_mostLeft 0 = .ok (.iconst 0, 1) := by decide +kernel
theorem dX2_mostLeft_1 : decode cX2_mostLeft 1 = .ok (.istore_n 2, 1) := by decide +kernel
theorem dX2_mostLeft_2 : decode cX2_mostLeft 2 = .ok (.iload_n 2, 1) := by decide +kernel
theorem dX2_mostLeft_3 : decode cX2_mostLeft 3 = .ok (.aload_n 0, 1) := by decide +kernel
theorem dX2_mostLeft_4 : decode cX2_mostLeft 4 = .ok (.getfield 15, 3) := by decide +kernel
theorem dX2_mostLeft_7 : decode cX2_mostLeft 7 = .ok (.arraylength, 1) := by decide +kernel
