theorem dX2_mostLeft_8 : decode cX2_mostLeft 8 = .ok (.if_icmp .ge 16, 3) := by decide +kernel
theorem dX2_mostLeft_11 : decode cX2_mostLeft 11 = .ok (.aload_n 0, 1) := by decide +kernel
theorem dX2_mostLeft_12 : decode cX2_mostLeft 12 = .ok (.getfield 15, 3) := by decide +kernel
theorem dX2_mostLeft_15 : decode cX2_mostLeft 15 = .ok (.iload_n 2, 1) := by decide +kernel
theorem dX2_mostLeft_16 : decode cX2_mostLeft 16 = .ok (.iconst 0, 1) := by decide +kernel
theorem dX2_mostLeft_17 : decode cX2_mostLeft 17 = .ok (.iastore, 1) := by decide +kernel
theorem dX2_mostLeft_18 : decode cX2_mostLeft 18 = .ok (.iinc 2 1, 3) := by decide +kernel
theorem dX2_mostLeft_21 : decode cX2_mostLeft 21 = .ok (.goto (-19), 3) := by decide +kernel
theorem dX2_mostLeft_24 : decode cX2_mostLeft 24 = .ok (.iconst 0, 1) := by decide +kernel
theorem dX2_mostLeft_25 : decode cX2_mostLeft 25 = .ok (.istore_n 2, 1) := by decide +kernel
theorem dX2_mostLeft_26 : decode cX2_mostLeft 26 = .ok (.iload_n 2, 1) := by decide +kernel
theorem dX2_mostLeft_27 : decode cX2_mostLeft 27 = .ok (.aload_n 0, 1) := by decide +kernel
theorem dX2_mostLeft_28 : decode cX2_mostLeft 28 = .ok (.getfield 9, 3) := by decide +kernel
theorem dX2_mostLeft_31 : decode cX2_mostLeft 31 = .ok (.arraylength, 1) := by decide +kernel
theorem dX2_mostLeft_32 : decode cX2_mostLeft 32 = .ok (.if_icmp .ge 40, 3) := by decide +kernel
theorem dX2_mostLeft_35 : decode cX2_mostLeft 35 = .ok (.iload_n 2, 1) := by decide +kernel
theorem dX2_mostLeft_36 : decode cX2_mostLeft 36 = .ok (.iload_n 1, 1) := by decide +kernel
theorem dX2_mostLeft_37 : decode cX2_mostLeft 37 = .ok (.iand, 1) := by decide +kernel
theorem dX2_mostLeft_38 : decode cX2_mostLeft 38 = .ok (.invokestatic 40, 3) := by decide +kernel
theorem dX2_mostLeft_41 : decode cX2_mostLeft 41 = .ok (.istore_n 3, 1) := by decide +kernel
theorem dX2_mostLeft_42 : decode cX2_mostLeft 42 = .ok (.iload_n 3, 1) := by decide +kernel
theorem dX2_mostLeft_43 : decode cX2_mostLeft 43 = .ok (.aload_n 0, 1) := by decide +kernel
theorem dX2_mostLeft_44 : decode cX2_mostLeft 44 = .ok (.getfield 15, 3) := by decide +kernel
theorem dX2_mostLeft_47 : decode cX2_mostLeft 47 = .ok (.arraylength, 1) := by decide +kernel
theorem dX2_mostLeft_48 : decode cX2_mostLeft 48 = .ok (.if_icmp .ge 18, 3) := by decide +kernel
theorem dX2_mostLeft_51 : decode cX2_mostLeft 51 = .ok (.aload_n 0, 1) := by decide +kernel
theorem dX2_mostLeft_52 : decode cX2_mostLeft 52 = .ok (.getfield 15, 3) := by decide +kernel
theorem dX2_mostLeft_55 : decode cX2_mostLeft 55 = .ok (.iload_n 3, 1) := by decide +kernel
theorem dX2_mostLeft_56 : decode cX2_mostLeft 56 = .ok (.dup2, 1) := by decide +kernel
theorem dX2_mostLeft_57 : decode cX2_mostLeft 57 = .ok (.iaload, 1) := by decide +kernel
theorem dX2_mostLeft_58 : decode cX2_mostLeft 58 = .ok (.aload_n 0, 1) := by decide +kernel
theorem dX2_mostLeft_59 : decode cX2_mostLeft 59 = .ok (.getfield 9, 3) := by decide +kernel
theorem dX2_mostLeft_62 : decode cX2_mostLeft 62 = .ok (.iload_n 2, 1) := by decide +kernel
theorem dX2_mostLeft_63 : decode cX2_mostLeft 63 = .ok (.iaload, 1) := by decide +kernel
theorem dX2_mostLeft_64 : decode cX2_mostLeft 64 = .ok (.iadd, 1) := by decide +kernel
theorem dX2_mostLeft_65 : decode cX2_mostLeft 65 = .ok (.iastore, 1) := by decide +kernel
theorem dX2_mostLeft_66 : decode cX2_mostLeft 66 = .ok (.iinc 2 1, 3) := by decide +kernel
theorem dX2_mostLeft_69 : decode cX2_mostLeft 69 = .ok (.goto (-43), 3) := by decide +kernel
theorem dX2_mostLeft_72 : decode cX2_mostLeft 72 = .ok (.iconst 0, 1) := by decide +kernel
theorem dX2_mostLeft_73 : decode cX2_mostLeft 73 = .ok (.istore_n 2, 1) := by decide +kernel
theorem dX2_mostLeft_74 : decode cX2_mostLeft 74 = .ok (.iconst 0, 1) := by decide +kernel
theorem dX2_mostLeft_75 : decode cX2_mostLeft 75 = .ok (.istore_n 3, 1) := by decide +kernel
theorem dX2_mostLeft_76 : decode cX2_mostLeft 76 = .ok (.iload_n 3, 1) := by decide +kernel
theorem dX2_mostLeft_77 : decode cX2_mostLeft 77 = .ok (.aload_n 0, 1) := by decide +kernel
theorem dX2_mostLeft_78 : decode cX2_mostLeft 78 = .ok (.getfield 15, 3) := by decide +kernel
theorem dX2_mostLeft_81 : decode cX2_mostLeft 81 = .ok (.arraylength, 1) := by decide +kernel
theorem dX2_mostLeft_82 : decode cX2_mostLeft 82 = .ok (.if_icmp .ge 20, 3) := by decide +kernel
theorem dX2_mostLeft_85 : decode cX2_mostLeft 85 = .ok (.iload_n 2, 1) := by decide +kernel
theorem dX2_mostLeft_86 : decode cX2_mostLeft 86 = .ok (.aload_n 0, 1) := by decide +kernel
theorem dX2_mostLeft_87 : decode cX2_mostLeft 87 = .ok (.getfield 15, 3) := by decide +kernel
theorem dX2_mostLeft_90 : decode cX2_mostLeft 90 = .ok (.iload_n 3, 1) := by decide +kernel
theorem dX2_mostLeft_91 : decode cX2_mostLeft 91 = .ok (.iaload, 1) := by decide +kernel
theorem dX2_mostLeft_92 : decode cX2_mostLeft 92 = .ok (.invokestatic 46, 3) := by decide +kernel
theorem dX2_mostLeft_95 : decode cX2_mostLeft 95 = .ok (.istore_n 2, 1) := by decide +kernel
theorem dX2_mostLeft_96 : decode cX2_mostLeft 96 = .ok (.iinc 3 1, 3) := by decide +kernel
theorem dX2_mostLeft_99 : decode cX2_mostLeft 99 = .ok (.goto (-23), 3) := by decide +kernel
theorem dX2_mostLeft_102 : decode cX2_mostLeft 102 = .ok (.aload_n 0, 1) := by decide +kernel
theorem dX2_mostLeft_103 : decode cX2_mostLeft 103 = .ok (.getfield 18, 3) := by decide +kernel
theorem dX2_mostLeft_106 : decode cX2_mostLeft 106 = .ok (.iload_n 2, 1) := by decide +kernel
theorem dX2_mostLeft_107 : decode cX2_mostLeft 107 = .ok (.iadd, 1) := by decide +kernel
theorem dX2_mostLeft_108 : decode cX2_mostLeft 108 = .ok (.ireturn, 1) := by decide +kernel
set_option maxRecDepth 20000 in
theorem ggX2_bestQuestion_X2_mostLeft : GoodIn wsX2_bestQuestion wsX2_mostLeft := goodIn_r _ [5, 6, 7, 8, 9, 10, 11, 12, 13, 14, 15, 16, 17, 18, 19, 20, 21, 22] (by decide +kernel) (by decide +kernel)
set_option maxRecDepth 20000 in
theorem gX2_bestQuestion_X2_mostLeft : GoodIn wsX2_bestQuestion (wsV RX2 52 RX2 yX2_mostLeft wsX2_mostLeft) := goodIn_app (goodIn_of _ (by decide +kernel)) ggX2_bestQuestion_X2_mostLeft
set_option maxRecDepth 20000 in
theorem ggX2_bestQuestion_J6_bitCount_0f7a4 : GoodIn wsX2_bestQuestion wsJ6_bitCount_0f7a4 := goodIn_r _ [16, 17, 18, 19] (by decide +kernel) (by decide +kernel)
set_option maxRecDepth 20000 in
theorem gX2_bestQuestion_J6_bitCount_0f7a4 : GoodIn wsX2_bestQuestion (va_wsS RX2 40 yJ6_bitCount_0f7a4 wsJ6_bitCount_0f7a4) := goodIn_app (goodIn_of _ (by decide +kernel)) ggX2_bestQuestion_J6_bitCount_0f7a4
theorem dX2_bestQuestion_0 : decode cX2_bestQuestion 0 = .ok (.iconst 1, 1) := by decide +kernel
theorem dX2_bestQuestion_1 : decode cX2_bestQuestion 1 = .ok (.istore_n 1, 1) := by decide +kernel
theorem dX2_bestQuestion_2 : decode cX2_bestQuestion 2 = .ok (.aload_n 0, 1) := by decide +kernel
theorem dX2_bestQuestion_3 : decode cX2_bestQuestion 3 = .ok (.iload_n 1, 1) := by decide +kernel
theorem dX2_bestQuestion_4 : decode cX2_bestQuestion 4 = .ok (.invokevirtual 52, 3) := by decide +kernel
theorem dX2_bestQuestion_7 : decode cX2_bestQuestion 7 = .ok (.istore_n 2, 1) := by decide +kernel
theorem dX2_bestQuestion_8 : decode cX2_bestQuestion 8 = .ok (.iconst 2, 1) := by decide +kernel
theorem dX2_bestQuestion_9 : decode cX2_bestQuestion 9 = .ok (.istore_n 3, 1) := by decide +kernel
theorem dX2_bestQuestion_10 : decode cX2_bestQuestion 10 = .ok (.iload_n 3, 1) := by decide +kernel
theorem dX2_bestQuestion_11 : decode cX2_bestQuestion 11 = .ok (.sipush 255, 3) := by decide +kernel
theorem dX2_bestQuestion_14 : decode cX2_bestQuestion 14 = .ok (.if_icmp .gt 35, 3) := by decide +kernel
theorem dX2_bestQuestion_17 : decode cX2_bestQuestion 17 = .ok (.iload_n 3, 1) := by decide +kernel
theorem dX2_bestQuestion_18 : decode cX2_bestQuestion 18 = .ok (.invokestatic 40, 3) := by decide +kernel
theorem dX2_bestQuestion_21 : decode cX2_bestQuestion 21 = .ok (.iconst 2, 1) := by decide +kernel
theorem dX2_bestQuestion_22 : decode cX2_bestQuestion 22 = .ok (.if_icmp .gt 21, 3) := by decide +kernel
theorem dX2_bestQuestion_25 : decode cX2_bestQuestion 25 = .ok (.aload_n 0, 1) := by decide +kernel
theorem dX2_bestQuestion_26 : decode cX2_bestQuestion 26 = .ok (.iload_n 3, 1) := by decide +kernel
theorem dX2_bestQuestion_27 : decode cX2_bestQuestion 27 = .ok (.invokevirtual 52, 3) := by decide +kernel
theorem dX2_bestQuestion_30 : decode cX2_bestQuestion 30 = .ok (.istore 4, 2) := by decide +kernel
theorem dX2_bestQuestion_32 : decode cX2_bestQuestion 32 = .ok (.iload 4, 2) := by decide +kernel
theorem dX2_bestQuestion_34 : decode cX2_bestQuestion 34 = .ok (.iload_n 2, 1) := by decide +kernel
theorem dX2_bestQuestion_35 : decode cX2_bestQuestion 35 = .ok (.if_icmp .ge 8, 3) := by decide +kernel
theorem dX2_bestQuestion_38 : decode cX2_bestQuestion 38 = .ok (.iload 4, 2) := by decide +kernel
theorem dX2_bestQuestion_40 : decode cX2_bestQuestion 40 = .ok (.istore_n 2, 1) := by decide +kernel
theorem dX2_bestQuestion_41 : decode cX2_bestQuestion 41 = .ok (.iload_n 3, 1) := by decide +kernel
theorem dX2_bestQuestion_42 : decode cX2_bestQuestion 42 = .ok (.istore_n 1, 1) := by decide +kernel
theorem dX2_bestQuestion_43 : decode cX2_bestQuestion 43 = .ok (.iinc 3 1, 3) := by decide +kernel
theorem dX2_bestQuestion_46 : decode cX2_bestQuestion 46 = .ok (.goto (-36), 3) := by decide +kernel
theorem dX2_bestQuestion_49 : decode cX2_bestQuestion 49 = .ok (.iload_n 1, 1) := by decide +kernel
theorem dX2_bestQuestion_50 : decode cX2_bestQuestion 50 = .ok (.ireturn, 1) := by decide +kernel
theorem dX3_init_0 : decode cX3_init 0 = .ok (.aload_n 0, 1) := by decide +kernel
theorem dX3_init_1 : decode cX3_init 1 = .ok (.invokespecial 3, 3) := by decide +kernel
theorem dX3_init_4 : decode cX3_init 4 = .ok (.aload_n 0, 1) := by decide +kernel
theorem dX3_init_5 : decode cX3_init 5 = .ok (.bipush 90, 2) := by decide +kernel
theorem dX3_init_7 : decode cX3_init 7 = .ok (.newarray .int, 2) := by decide +kernel
theorem dX3_init_9 : decode cX3_init 9 = .ok (.putfield 9, 3) := by decide +kernel
theorem dX3_init_12 : decode cX3_init 12 = .ok (.return_, 1) := by decide +kernel
theorem dX3_add_0 : decode cX3_add 0 = .ok (.aload_n 0, 1) := by decide +kernel
theorem dX3_add_1 : decode cX3_add 1 = .ok (.getfield 15, 3) := by decide +kernel
theorem dX3_add_4 : decode cX3_add 4 = .ok (.ifCond .lt 32, 3) := by decide +kernel
theorem dX3_add_7 : decode cX3_add 7 = .ok (.aload_n 0, 1) := by decide +kernel
theorem dX3_add_8 : decode cX3_add 8 = .ok (.getfield 15, 3) := by decide +kernel
theorem dX3_add_11 : decode cX3_add 11 = .ok (.bipush 90, 2) := by decide +kernel
theorem dX3_add_13 : decode cX3_add 13 = .ok (.if_icmp .ge 23, 3) := by decide +kernel
theorem dX3_add_16 : decode cX3_add 16 = .ok (.aload_n 0, 1) := by decide +kernel
theorem dX3_add_17 : decode cX3_add 17 = .ok (.getfield 9, 3) := by decide +kernel
theorem dX3_add_20 : decode cX3_add 20 = .ok (.aload_n 0, 1) := by decide +kernel
theorem dX3_add_21 : decode cX3_add 21 = .ok (.getfield 15, 3) := by decide +kernel
theorem dX3_add_24 : decode cX3_add 24 = .ok (.iload_n 1, 1) := by decide +kernel
theorem dX3_add_25 : decode cX3_add 25 = .ok (.iastore, 1) := by decide +kernel
theorem dX3_add_26 : decode cX3_add 26 = .ok (.aload_n 0, 1) := by decide +kernel
theorem dX3_add_27 : decode cX3_add 27 = .ok (.dup, 1) := by decide +kernel
theorem dX3_add_28 : decode cX3_add 28 = .ok (.getfield 15, 3) := by decide +kernel
theorem dX3_add_31 : decode cX3_add 31 = .ok (.iconst 1, 1) := by decide +kernel
theorem dX3_add_32 : decode cX3_add 32 = .ok (.iadd, 1) := by decide +kernel
theorem dX3_add_33 : decode cX3_add 33 = .ok (.putfield 15, 3) := by decide +kernel
theorem dX3_add_36 : decode cX3_add 36 = .ok (.aload_n 0, 1) := by decide +kernel
theorem dX3_add_37 : decode cX3_add 37 = .ok (.getfield 15, 3) := by decide +kernel
theorem dX3_add_40 : decode cX3_add 40 = .ok (.ireturn, 1) := by decide +kernel
set_option maxRecDepth 20000 in
theorem ggX4_init_X1_init : GoodIn wsX4_init wsX1_init := goodIn_r _ [23, 24, 2, 3, 25, 26, 27, 28, 29, 30, 31, 32, 10, 11, 33, 34, 35, 36, 37, 38, 39, 40, 50, 51, 52, 53, 54, 55, 56, 57, 58, 59, 60, 61, 62, 63, 64, 65, 66, 74, 75, 76, 77] (by decide +kernel) (by decide +kernel)
set_option maxRecDepth 20000 in
theorem gX4_init_X1_init_n9 : GoodIn wsX4_init (wsX1_init) := ggX4_init_X1_init
set_option maxRecDepth 20000 in
theorem ggX4_init_X0_init : GoodIn wsX4_init wsX0_init := goodIn_r _ [35, 36, 2, 3, 37, 38, 39, 40, 74, 75, 76, 77] (by decide +kernel) (by decide +kernel)
set_option maxRecDepth 20000 in
theorem gX4_init_X0_init_n22 : GoodIn wsX4_init (wsX0_init) := ggX4_init_X0_init
set_option maxRecDepth 20000 in
theorem ggX4_init_X2_init : GoodIn wsX4_init wsX2_init := goodIn_r _ [42, 43, 2, 3, 26, 44, 45, 78, 79, 80] (by decide +kernel) (by decide +kernel)
set_option maxRecDepth 20000 in
theorem gX4_init_X2_init_n32 : GoodIn wsX4_init (wsX2_init) := ggX4_init_X2_init
set_option maxRecDepth 20000 in
theorem ggX4_init_X3_init : GoodIn wsX4_init wsX3_init := goodIn_r _ [47, 48, 2, 3, 26, 49, 81, 82, 83, 84, 85, 86, 87] (by decide +kernel) (by decide +kernel)
set_option maxRecDepth 20000 in
theorem gX4_init_X3_init_n39 : GoodIn wsX4_init (wsX3_init) := ggX4_init_X3_init
theorem dX4_init_0 : decode cX4_init 0 = .ok (.aload_n 0, 1) := by decide +kernel
theorem dX4_init_1 : decode cX4_init 1 = .ok (.invokespecial 1, 3) := by decide +kernel
theorem dX4_init_4 : decode cX4_init 4 = .ok (.aload_n 0, 1) := by decide +kernel
theorem dX4_init_5 : decode cX4_init 5 = .ok (.new 7, 3) := by decide +kernel
theorem dX4_init_8 : decode cX4_init 8 = .ok (.dup, 1) := by decide +kernel
theorem dX4_init_9 : decode cX4_init 9 = .ok (.invokespecial 9, 3) := by decide +kernel
theorem dX4_init_12 : decode cX4_init 12 = .ok (.putfield 10, 3) := by decide +kernel
theorem dX4_init_15 : decode cX4_init 15 = .ok (.aload_n 0, 1) := by decide +kernel
theorem dX4_init_16 : decode cX4_init 16 = .ok (.iconst 4, 1) := by decide +kernel
theorem dX4_init_17 : decode cX4_init 17 = .ok (.anewarray 7, 3) := by decide +kernel
theorem dX4_init_20 : decode cX4_init 20 = .ok (.putfield 16, 3) := by decide +kernel
theorem dX4_init_23 : decode cX4_init 23 = .ok (.aload_n 0, 1) := by decide +kernel
theorem dX4_init_24 : decode cX4_init 24 = .ok (.new 20, 3) := by decide +kernel
theorem dX4_init_27 : decode cX4_init 27 = .ok (.dup, 1) := by decide +kernel
theorem dX4_init_28 : decode cX4_init 28 = .ok (.invokespecial 22, 3) := by decide +kernel
theorem dX4_init_31 : decode cX4_init 31 = .ok (.putfield 23, 3) := by decide +kernel
theorem dX4_init_34 : decode cX4_init 34 = .ok (.aload_n 0, 1) := by decide +kernel
theorem dX4_init_35 : decode cX4_init 35 = .ok (.new 20, 3) := by decide +kernel
theorem dX4_init_38 : decode cX4_init 38 = .ok (.dup, 1) := by decide +kernel
theorem dX4_init_39 : decode cX4_init 39 = .ok (.invokespecial 22, 3) := by decide +kernel
theorem dX4_init_42 : decode cX4_init 42 = .ok (.putfield 27, 3) := by decide +kernel
theorem dX4_init_45 : decode cX4_init 45 = .ok (.aload_n 0, 1) := by decide +kernel
theorem dX4_init_46 : decode cX4_init 46 = .ok (.new 30, 3) := by decide +kernel
theorem dX4_init_49 : decode cX4_init 49 = .ok (.dup, 1) := by decide +kernel
theorem dX4_init_50 : decode cX4_init 50 = .ok (.invokespecial 32, 3) := by decide +kernel
theorem dX4_init_53 : decode cX4_init 53 = .ok (.putfield 33, 3) := by decide +kernel
theorem dX4_init_56 : decode cX4_init 56 = .ok (.aload_n 0, 1) := by decide +kernel
theorem dX4_init_57 : decode cX4_init 57 = .ok (.new 37, 3) := by decide +kernel
theorem dX4_init_60 : decode cX4_init 60 = .ok (.dup, 1) := by decide +kernel
theorem dX4_init_61 : decode cX4_init 61 = .ok (.invokespecial 39, 3) := by decide +kernel
theorem dX4_init_64 : decode cX4_init 64 = .ok (.putfield 40, 3) := by decide +kernel
theorem dX4_init_67 : decode cX4_init 67 = .ok (.iconst 0, 1) := by decide +kernel
theorem dX4_init_68 : decode cX4_init 68 = .ok (.istore_n 1, 1) := by decide +kernel
theorem dX4_init_69 : decode cX4_init 69 = .ok (.iload_n 1, 1) := by decide +kernel
theorem dX4_init_70 : decode cX4_init 70 = .ok (.iconst 4, 1) := by decide +kernel
theorem dX4_init_71 : decode cX4_init 71 = .ok (.if_icmp .ge 22, 3) := by decide +kernel
theorem dX4_init_74 : decode cX4_init 74 = .ok (.aload_n 0, 1) := by decide +kernel
theorem dX4_init_75 : decode cX4_init 75 = .ok (.getfield 16, 3) := by decide +kernel
theorem dX4_init_78 : decode cX4_init 78 = .ok (.iload_n 1, 1) := by decide +kernel
theorem dX4_init_79 : decode cX4_init 79 = .ok (.new 7, 3) := by decide +kernel
theorem dX4_init_82 : decode cX4_init 82 = .ok (.dup, 1) := by decide +kernel
theorem dX4_init_83 : decode cX4_init 83 = .ok (.invokespecial 9, 3) := by decide +kernel
theorem dX4_init_86 : decode cX4_init 86 = .ok (.aastore, 1) := by decide +kernel
theorem dX4_init_87 : decode cX4_init 87 = .ok (.iinc 1 1, 3) := by decide +kernel
theorem dX4_init_90 : decode cX4_init 90 = .ok (.goto (-21), 3) := by decide +kernel
theorem dX4_init_93 : decode cX4_init 93 = .ok (.return_, 1) := by decide +kernel
set_option maxRecDepth 20000 in
theorem ggX4_begin_X4_saveForUndo : GoodIn wsX4_begin wsX4_saveForUndo := goodIn_r _ [13, 14, 15, 6, 16, 17, 18, 12, 19, 20, 21, 22, 23, 24, 25, 26, 27, 28, 29, 30, 31, 32, 33, 34, 35, 36, 37, 38, 39, 40, 41, 42, 43, 44, 45, 46, 47, 48, 49, 50, 51, 52, 53, 54, 55, 56, 57, 58, 59, 60, 61, 62, 63, 64, 65, 66, 117, 118, 119, 120, 121, 122, 123, 124, 125, 126, 127, 128, 129, 130, 131, 132, 133, 134, 135, 136, 137, 138, 139, 140, 141, 142, 143, 144] (by decide +kernel) (by decide +kernel)
set_option maxRecDepth 20000 in
theorem gX4_begin_X4_saveForUndo : GoodIn wsX4_begin (wsV RX4 63 RX4 yX4_saveForUndo wsX4_saveForUndo) := goodIn_app (goodIn_of _ (by decide +kernel)) ggX4_begin_X4_saveForUndo
set_option maxRecDepth 20000 in
theorem ggX4_begin_X0_fillOnce : GoodIn wsX4_begin wsX0_fillOnce := goodIn_r _ [70, 59, 71, 72, 55, 73, 74, 75, 76, 77, 57, 60, 61, 78, 79, 80, 81, 82, 83, 84, 85, 86, 87, 88, 12, 89, 90, 91, 92, 93, 94, 141, 142, 143, 144] (by decide +kernel) (by decide +kernel)
set_option maxRecDepth 20000 in
theorem gX4_begin_X0_fillOnce : GoodIn wsX4_begin (wsV RX4 66 RX0 yX0_fillOnce wsX0_fillOnce) := goodIn_app (goodIn_of _ (by decide +kernel)) ggX4_begin_X0_fillOnce
set_option maxRecDepth 20000 in
theorem ggX4_begin_X1_open : GoodIn wsX4_begin wsX1_open := goodIn_r _ [98, 25, 26, 27, 32, 33, 35, 37, 34, 36, 41, 99, 100, 101, 23, 102, 28, 103, 104, 105, 106, 107, 108, 109, 110, 111, 112, 113, 114, 88, 12, 89, 90, 91, 115, 82, 83, 84, 85, 86, 87, 52, 53, 54, 55, 56, 57, 58, 49, 50, 51, 59, 60, 61, 62, 63, 64, 65, 66, 45, 46, 47, 124, 125, 126, 127, 128, 129, 130, 131, 132, 133, 134, 135, 136, 137, 138, 139, 140, 141, 142, 143, 144] (by decide +kernel) (by decide +kernel)
set_option maxRecDepth 20000 in
theorem gX4_begin_X1_open : GoodIn wsX4_begin (wsV RX4 70 RX1 yX1_open wsX1_open) := goodIn_app (goodIn_of _ (by decide +kernel)) ggX4_begin_X1_open
set_option maxRecDepth 20000 in
theorem ggX4_begin_X4_sizeOfHand : GoodIn wsX4_begin wsX4_sizeOfHand := goodIn_r _ [89, 90, 91] (by decide +kernel) (by decide +kernel)
set_option maxRecDepth 20000 in
theorem gX4_begin_X4_sizeOfHand : GoodIn wsX4_begin (va_wsS RX4 74 yX4_sizeOfHand wsX4_sizeOfHand) := goodIn_app (goodIn_of _ (by decide +kernel)) ggX4_begin_X4_sizeOfHand
theorem dX4_begin_0 : decode cX4_begin 0 = .ok (.iload_n 1, 1) := by decide +kernel
theorem dX4_begin_1 : decode cX4_begin 1 = .ok (.iconst 3, 1) := by decide +kernel
theorem dX4_begin_2 : decode cX4_begin 2 = .ok (.if_icmp .lt 8, 3) := by decide +kernel
theorem dX4_begin_5 : decode cX4_begin 5 = .ok (.iload_n 1, 1) := by decide +kernel
theorem dX4_begin_6 : decode cX4_begin 6 = .ok (.iconst 4, 1) := by decide +kernel
theorem dX4_begin_7 : decode cX4_begin 7 = .ok (.if_icmp .le 13, 3) := by decide +kernel
theorem dX4_begin_10 : decode cX4_begin 10 = .ok (.new 44, 3) := by decide +kernel
theorem dX4_begin_13 : decode cX4_begin 13 = .ok (.dup, 1) := by decide +kernel
theorem dX4_begin_14 : decode cX4_begin 14 = .ok (.ldc 46, 2) := by decide +kernel
theorem dX4_begin_16 : decode cX4_begin 16 = .ok (.invokespecial 48, 3) := by decide +kernel
theorem dX4_begin_19 : decode cX4_begin 19 = .ok (.athrow, 1) := by decide +kernel
theorem dX4_begin_20 : decode cX4_begin 20 = .ok (.iload_n 2, 1) := by decide +kernel
theorem dX4_begin_21 : decode cX4_begin 21 = .ok (.iconst (-1), 1) := by decide +kernel
theorem dX4_begin_22 : decode cX4_begin 22 = .ok (.if_icmp .lt 9, 3) := by decide +kernel
theorem dX4_begin_25 : decode cX4_begin 25 = .ok (.iload_n 2, 1) := by decide +kernel
theorem dX4_begin_26 : decode cX4_begin 26 = .ok (.ldc 51, 2) := by decide +kernel
theorem dX4_begin_28 : decode cX4_begin 28 = .ok (.if_icmp .le 13, 3) := by decide +kernel
theorem dX4_begin_31 : decode cX4_begin 31 = .ok (.new 44, 3) := by decide +kernel
theorem dX4_begin_34 : decode cX4_begin 34 = .ok (.dup, 1) := by decide +kernel
theorem dX4_begin_35 : decode cX4_begin 35 = .ok (.ldc 52, 2) := by decide +kernel
theorem dX4_begin_37 : decode cX4_begin 37 = .ok (.invokespecial 48, 3) := by decide +kernel
theorem dX4_begin_40 : decode cX4_begin 40 = .ok (.athrow, 1) := by decide +kernel
theorem dX4_begin_41 : decode cX4_begin 41 = .ok (.aload_n 0, 1) := by decide +kernel
theorem dX4_begin_42 : decode cX4_begin 42 = .ok (.getfield 10, 3) := by decide +kernel
theorem dX4_begin_45 : decode cX4_begin 45 = .ok (.getfield 54, 3) := by decide +kernel
theorem dX4_begin_48 : decode cX4_begin 48 = .ok (.ifCond .eq 13, 3) := by decide +kernel
theorem dX4_begin_51 : decode cX4_begin 51 = .ok (.new 58, 3) := by decide +kernel
theorem dX4_begin_54 : decode cX4_begin 54 = .ok (.dup, 1) := by decide +kernel
theorem dX4_begin_55 : decode cX4_begin 55 = .ok (.ldc 60, 2) := by decide +kernel
theorem dX4_begin_57 : decode cX4_begin 57 = .ok (.invokespecial 62, 3) := by decide +kernel
theorem dX4_begin_60 : decode cX4_begin 60 = .ok (.athrow, 1) := by decide +kernel
theorem dX4_begin_61 : decode cX4_begin 61 = .ok (.aload_n 0, 1) := by decide +kernel
theorem dX4_begin_62 : decode cX4_begin 62 = .ok (.invokevirtual 63, 3) := by decide +kernel
theorem dX4_begin_65 : decode cX4_begin 65 = .ok (.iload_n 1, 1) := by decide +kernel
theorem dX4_begin_66 : decode cX4_begin 66 = .ok (.iconst 3, 1) := by decide +kernel
theorem dX4_begin_67 : decode cX4_begin 67 = .ok (.if_icmp .ne 10, 3) := by decide +kernel
theorem dX4_begin_70 : decode cX4_begin 70 = .ok (.aload_n 0, 1) := by decide +kernel
theorem dX4_begin_71 : decode cX4_begin 71 = .ok (.getfield 23, 3) := by decide +kernel
theorem dX4_begin_74 : decode cX4_begin 74 = .ok (.goto 7, 3) := by decide +kernel
theorem dX4_begin_77 : decode cX4_begin 77 = .ok (.aload_n 0, 1) := by decide +kernel
theorem dX4_begin_78 : decode cX4_begin 78 = .ok (.getfield 27, 3) := by decide +kernel
theorem dX4_begin_81 : decode cX4_begin 81 = .ok (.astore_n 3, 1) := by decide +kernel
theorem dX4_begin_82 : decode cX4_begin 82 = .ok (.aload_n 3, 1) := by decide +kernel
theorem dX4_begin_83 : decode cX4_begin 83 = .ok (.iload_n 1, 1) := by decide +kernel
theorem dX4_begin_84 : decode cX4_begin 84 = .ok (.invokevirtual 66, 3) := by decide +kernel
theorem dX4_begin_87 : decode cX4_begin 87 = .ok (.aload_n 0, 1) := by decide +kernel
theorem dX4_begin_88 : decode cX4_begin 88 = .ok (.getfield 10, 3) := by decide +kernel
theorem dX4_begin_91 : decode cX4_begin 91 = .ok (.iload_n 1, 1) := by decide +kernel
theorem dX4_begin_92 : decode cX4_begin 92 = .ok (.iload_n 2, 1) := by decide +kernel
theorem dX4_begin_93 : decode cX4_begin 93 = .ok (.aload_n 3, 1) := by decide +kernel
theorem dX4_begin_94 : decode cX4_begin 94 = .ok (.invokevirtual 70, 3) := by decide +kernel
theorem dX4_begin_97 : decode cX4_begin 97 = .ok (.iload_n 1, 1) := by decide +kernel
theorem dX4_begin_98 : decode cX4_begin 98 = .ok (.iconst 0, 1) := by decide +kernel
theorem dX4_begin_99 : decode cX4_begin 99 = .ok (.invokestatic 74, 3) := by decide +kernel
theorem dX4_begin_102 : decode cX4_begin 102 = .ok (.ireturn, 1) := by decide +kernel
set_option maxRecDepth 20000 in
theorem ggX4_ask_X1_hasGuest : GoodIn wsX4_ask wsX1_hasGuest := goodIn_r _ [12, 13, 128, 129, 130, 131, 132, 133, 134, 135, 136, 137, 138, 139, 140, 141, 142, 143, 144] (by decide +kernel) (by decide +kernel)
set_option maxRecDepth 20000 in
theorem gX4_ask_X1_hasGuest : GoodIn wsX4_ask (wsV RX4 78 RX1 yX1_hasGuest wsX1_hasGuest) := goodIn_app (goodIn_of _ (by decide +kernel)) ggX4_ask_X1_hasGuest
set_option maxRecDepth 20000 in
theorem ggX4_ask_X4_isQuestion : GoodIn wsX4_ask wsX4_isQuestion := goodIn_r _ [17] (by decide +kernel) (by decide +kernel)
set_option maxRecDepth 20000 in
theorem gX4_ask_X4_isQuestion : GoodIn wsX4_ask (va_wsS RX4 87 yX4_isQuestion wsX4_isQuestion) := goodIn_app (goodIn_of _ (by decide +kernel)) ggX4_ask_X4_isQuestion
set_option maxRecDepth 20000 in
theorem ggX4_ask_X1_canAnswer : GoodIn wsX4_ask wsX1_canAnswer := goodIn_r _ [21, 22, 23, 24, 25, 26, 11, 27, 28, 29, 30, 9, 10, 12, 13, 128, 129, 130, 131, 132, 133, 134, 135, 136, 137, 138, 139, 140, 141, 142, 143, 144] (by decide +kernel) (by decide +kernel)
set_option maxRecDepth 20000 in
theorem gX4_ask_X1_canAnswer : GoodIn wsX4_ask (wsV RX4 92 RX1 yX1_canAnswer wsX1_canAnswer) := goodIn_app (goodIn_of _ (by decide +kernel)) ggX4_ask_X1_canAnswer
set_option maxRecDepth 20000 in
theorem ggX4_ask_X4_saveForUndo : GoodIn wsX4_ask wsX4_saveForUndo := goodIn_r _ [34, 35, 36, 7, 37, 38, 39, 16, 40, 41, 42, 43, 11, 44, 45, 13, 28, 46, 47, 48, 49, 29, 23, 50, 51, 52, 22, 53, 54, 55, 56, 57, 58, 59, 60, 61, 62, 63, 64, 65, 66, 67, 68, 69, 70, 71, 72, 73, 74, 75, 76, 77, 78, 79, 80, 81, 121, 122, 123, 124, 125, 126, 127, 128, 129, 130, 131, 132, 133, 134, 135, 136, 137, 138, 139, 140, 141, 142, 143, 144, 145, 146, 147, 148] (by decide +kernel) (by decide +kernel)
set_option maxRecDepth 20000 in
theorem gX4_ask_X4_saveForUndo : GoodIn wsX4_ask (wsV RX4 63 RX4 yX4_saveForUndo wsX4_saveForUndo) := goodIn_app (goodIn_of _ (by decide +kernel)) ggX4_ask_X4_saveForUndo
set_option maxRecDepth 20000 in
theorem ggX4_ask_X1_answerOf : GoodIn wsX4_ask wsX1_answerOf := goodIn_r _ [85, 23, 13, 22, 53, 54, 55, 56, 86, 87, 88, 11, 89, 50, 90, 91, 92, 93, 94, 95, 96, 97, 16, 98, 99, 100, 101, 102, 103, 70, 104, 72, 105, 106, 107, 108, 109, 110, 111, 74, 112, 75, 76, 77, 78, 79, 80, 81, 60, 61, 62, 113, 114, 115, 116, 117, 118, 119, 120, 128, 129, 130, 131, 132, 133, 134, 135, 136, 137, 138, 139, 140, 141, 142, 143, 144, 145, 146, 147, 148] (by decide +kernel) (by decide +kernel)
set_option maxRecDepth 20000 in
theorem gX4_ask_X1_answerOf : GoodIn wsX4_ask (wsV RX4 98 RX1 yX1_answerOf wsX1_answerOf) := goodIn_app (goodIn_of _ (by decide +kernel)) ggX4_ask_X1_answerOf
theorem dX4_ask_0 : decode cX4_ask 0 = .ok (.aload_n 0, 1) := by decide +kernel
theorem dX4_ask_1 : decode cX4_ask 1 = .ok (.getfield 10, 3) := by decide +kernel
theorem dX4_ask_4 : decode cX4_ask 4 = .ok (.iload_n 1, 1) := by decide +kernel
theorem dX4_ask_5 : decode cX4_ask 5 = .ok (.invokevirtual 78, 3) := by decide +kernel
theorem dX4_ask_8 : decode cX4_ask 8 = .ok (.ifCond .ne 13, 3) := by decide +kernel
theorem dX4_ask_11 : decode cX4_ask 11 = .ok (.new 82, 3) := by decide +kernel
theorem dX4_ask_14 : decode cX4_ask 14 = .ok (.dup, 1) := by decide +kernel
theorem dX4_ask_15 : decode cX4_ask 15 = .ok (.ldc 84, 2) := by decide +kernel
theorem dX4_ask_17 : decode cX4_ask 17 = .ok (.invokespecial 86, 3) := by decide +kernel
theorem dX4_ask_20 : decode cX4_ask 20 = .ok (.athrow, 1) := by decide +kernel
theorem dX4_ask_21 : decode cX4_ask 21 = .ok (.iload_n 2, 1) := by decide +kernel
theorem dX4_ask_22 : decode cX4_ask 22 = .ok (.invokestatic 87, 3) := by decide +kernel
theorem dX4_ask_25 : decode cX4_ask 25 = .ok (.ifCond .ne 13, 3) := by decide +kernel
theorem dX4_ask_28 : decode cX4_ask 28 = .ok (.new 44, 3) := by decide +kernel
theorem dX4_ask_31 : decode cX4_ask 31 = .ok (.dup, 1) := by decide +kernel
theorem dX4_ask_32 : decode cX4_ask 32 = .ok (.ldc 90, 2) := by decide +kernel
theorem dX4_ask_34 : decode cX4_ask 34 = .ok (.invokespecial 48, 3) := by decide +kernel
theorem dX4_ask_37 : decode cX4_ask 37 = .ok (.athrow, 1) := by decide +kernel
theorem dX4_ask_38 : decode cX4_ask 38 = .ok (.aload_n 0, 1) := by decide +kernel
theorem dX4_ask_39 : decode cX4_ask 39 = .ok (.getfield 10, 3) := by decide +kernel
theorem dX4_ask_42 : decode cX4_ask 42 = .ok (.iload_n 1, 1) := by decide +kernel
theorem dX4_ask_43 : decode cX4_ask 43 = .ok (.iload_n 3, 1) := by decide +kernel
theorem dX4_ask_44 : decode cX4_ask 44 = .ok (.invokevirtual 92, 3) := by decide +kernel
theorem dX4_ask_47 : decode cX4_ask 47 = .ok (.ifCond .ne 13, 3) := by decide +kernel
theorem dX4_ask_50 : decode cX4_ask 50 = .ok (.new 58, 3) := by decide +kernel
theorem dX4_ask_53 : decode cX4_ask 53 = .ok (.dup, 1) := by decide +kernel
theorem dX4_ask_54 : decode cX4_ask 54 = .ok (.ldc 96, 2) := by decide +kernel
theorem dX4_ask_56 : decode cX4_ask 56 = .ok (.invokespecial 62, 3) := by decide +kernel
theorem dX4_ask_59 : decode cX4_ask 59 = .ok (.athrow, 1) := by decide +kernel
theorem dX4_ask_60 : decode cX4_ask 60 = .ok (.aload_n 0, 1) := by decide +kernel
theorem dX4_ask_61 : decode cX4_ask 61 = .ok (.invokevirtual 63, 3) := by decide +kernel
theorem dX4_ask_64 : decode cX4_ask 64 = .ok (.aload_n 0, 1) := by decide +kernel
theorem dX4_ask_65 : decode cX4_ask 65 = .ok (.getfield 10, 3) := by decide +kernel
theorem dX4_ask_68 : decode cX4_ask 68 = .ok (.iload_n 1, 1) := by decide +kernel
theorem dX4_ask_69 : decode cX4_ask 69 = .ok (.iload_n 2, 1) := by decide +kernel
theorem dX4_ask_70 : decode cX4_ask 70 = .ok (.iload_n 3, 1) := by decide +kernel
theorem dX4_ask_71 : decode cX4_ask 71 = .ok (.invokevirtual 98, 3) := by decide +kernel
theorem dX4_ask_74 : decode cX4_ask 74 = .ok (.ireturn, 1) := by decide +kernel
set_option maxRecDepth 20000 in
theorem ggX4_prove_X1_hasGuest : GoodIn wsX4_prove wsX1_hasGuest := goodIn_r _ [10, 11, 107, 108, 109, 110, 111, 112, 113, 114, 115, 116, 117, 118, 119, 120, 121, 122, 123] (by decide +kernel) (by decide +kernel)
set_option maxRecDepth 20000 in
theorem gX4_prove_X1_hasGuest : GoodIn wsX4_prove (wsV RX4 78 RX1 yX1_hasGuest wsX1_hasGuest) := goodIn_app (goodIn_of _ (by decide +kernel)) ggX4_prove_X1_hasGuest
set_option maxRecDepth 20000 in
theorem ggX4_prove_X4_isCard : GoodIn wsX4_prove wsX4_isCard := goodIn_r _ [15] (by decide +kernel) (by decide +kernel)
set_option maxRecDepth 20000 in
theorem gX4_prove_X4_isCard : GoodIn wsX4_prove (va_wsS RX4 102 yX4_isCard wsX4_isCard) := goodIn_app (goodIn_of _ (by decide +kernel)) ggX4_prove_X4_isCard
set_option maxRecDepth 20000 in
theorem ggX4_prove_X1_isThere : GoodIn wsX4_prove wsX1_isThere := goodIn_r _ [19, 20, 21, 22, 7, 8, 9, 10, 11, 107, 108, 109, 110, 111, 112, 113, 114, 115, 116, 117, 118, 119, 120, 121, 122, 123] (by decide +kernel) (by decide +kernel)
set_option maxRecDepth 20000 in
theorem gX4_prove_X1_isThere : GoodIn wsX4_prove (wsV RX4 107 RX1 yX1_isThere wsX1_isThere) := goodIn_app (goodIn_of _ (by decide +kernel)) ggX4_prove_X1_isThere
set_option maxRecDepth 20000 in
theorem ggX4_prove_X4_saveForUndo : GoodIn wsX4_prove wsX4_saveForUndo := goodIn_r _ [26, 27, 28, 5, 29, 30, 31, 14, 32, 33, 34, 35, 9, 36, 37, 11, 20, 38, 39, 40, 41, 21, 42, 43, 44, 45, 46, 47, 48, 49, 50, 51, 52, 53, 54, 55, 56, 57, 58, 59, 60, 61, 62, 63, 64, 65, 66, 67, 68, 69, 70, 71, 72, 73, 74, 75, 100, 101, 102, 103, 104, 105, 106, 107, 108, 109, 110, 111, 112, 113, 114, 115, 116, 117, 118, 119, 120, 121, 122, 123, 124, 125, 126, 127] (by decide +kernel) (by decide +kernel)
set_option maxRecDepth 20000 in
theorem gX4_prove_X4_saveForUndo : GoodIn wsX4_prove (wsV RX4 63 RX4 yX4_saveForUndo wsX4_saveForUndo) := goodIn_app (goodIn_of _ (by decide +kernel)) ggX4_prove_X4_saveForUndo
set_option maxRecDepth 20000 in
theorem ggX4_prove_X1_proofOf : GoodIn wsX4_prove wsX1_proofOf := goodIn_r _ [79, 44, 45, 50, 80, 81, 82, 9, 83, 43, 84, 85, 86, 64, 87, 66, 88, 89, 90, 91, 92, 93, 94, 68, 95, 69, 70, 71, 72, 73, 74, 75, 54, 55, 56, 96, 97, 98, 99, 107, 108, 109, 110, 111, 112, 113, 114, 115, 116, 117, 118, 119, 120, 121, 122, 123, 124, 125, 126, 127] (by decide +kernel) (by decide +kernel)
set_option maxRecDepth 20000 in
theorem gX4_prove_X1_proofOf : GoodIn wsX4_prove (wsV RX4 112 RX1 yX1_proofOf wsX1_proofOf) := goodIn_app (goodIn_of _ (by decide +kernel)) ggX4_prove_X1_proofOf
theorem dX4_prove_0 : decode cX4_prove 0 = .ok (.aload_n 0, 1) := by decide +kernel
theorem dX4_prove_1 : decode cX4_prove 1 = .ok (.getfield 10, 3) := by decide +kernel
theorem dX4_prove_4 : decode cX4_prove 4 = .ok (.iload_n 1, 1) := by decide +kernel
theorem dX4_prove_5 : decode cX4_prove 5 = .ok (.invokevirtual 78, 3) := by decide +kernel
theorem dX4_prove_8 : decode cX4_prove 8 = .ok (.ifCond .eq 10, 3) := by decide +kernel
theorem dX4_prove_11 : decode cX4_prove 11 = .ok (.iload_n 2, 1) := by decide +kernel
theorem dX4_prove_12 : decode cX4_prove 12 = .ok (.invokestatic 102, 3) := by decide +kernel
theorem dX4_prove_15 : decode cX4_prove 15 = .ok (.ifCond .ne 13, 3) := by decide +kernel
theorem dX4_prove_18 : decode cX4_prove 18 = .ok (.new 82, 3) := by decide +kernel
theorem dX4_prove_21 : decode cX4_prove 21 = .ok (.dup, 1) := by decide +kernel
theorem dX4_prove_22 : decode cX4_prove 22 = .ok (.ldc 105, 2) := by decide +kernel
theorem dX4_prove_24 : decode cX4_prove 24 = .ok (.invokespecial 86, 3) := by decide +kernel
theorem dX4_prove_27 : decode cX4_prove 27 = .ok (.athrow, 1) := by decide +kernel
theorem dX4_prove_28 : decode cX4_prove 28 = .ok (.aload_n 0, 1) := by decide +kernel
theorem dX4_prove_29 : decode cX4_prove 29 = .ok (.getfield 10, 3) := by decide +kernel
theorem dX4_prove_32 : decode cX4_prove 32 = .ok (.iload_n 1, 1) := by decide +kernel
theorem dX4_prove_33 : decode cX4_prove 33 = .ok (.invokevirtual 107, 3) := by decide +kernel
theorem dX4_prove_36 : decode cX4_prove 36 = .ok (.ifCond .ne 13, 3) := by decide +kernel
theorem dX4_prove_39 : decode cX4_prove 39 = .ok (.new 58, 3) := by decide +kernel
theorem dX4_prove_42 : decode cX4_prove 42 = .ok (.dup, 1) := by decide +kernel
theorem dX4_prove_43 : decode cX4_prove 43 = .ok (.ldc 110, 2) := by decide +kernel
theorem dX4_prove_45 : decode cX4_prove 45 = .ok (.invokespecial 62, 3) := by decide +kernel
theorem dX4_prove_48 : decode cX4_prove 48 = .ok (.athrow, 1) := by decide +kernel
theorem dX4_prove_49 : decode cX4_prove 49 = .ok (.aload_n 0, 1) := by decide +kernel
theorem dX4_prove_50 : decode cX4_prove 50 = .ok (.invokevirtual 63, 3) := by decide +kernel
theorem dX4_prove_53 : decode cX4_prove 53 = .ok (.aload_n 0, 1) := by decide +kernel
theorem dX4_prove_54 : decode cX4_prove 54 = .ok (.getfield 10, 3) := by decide +kernel
theorem dX4_prove_57 : decode cX4_prove 57 = .ok (.iload_n 1, 1) := by decide +kernel
theorem dX4_prove_58 : decode cX4_prove 58 = .ok (.iload_n 2, 1) := by decide +kernel
theorem dX4_prove_59 : decode cX4_prove 59 = .ok (.invokevirtual 112, 3) := by decide +kernel
theorem dX4_prove_62 : decode cX4_prove 62 = .ok (.ireturn, 1) := by decide +kernel
set_option maxRecDepth 20000 in
theorem ggX4_leave_X1_hasGuest : GoodIn wsX4_leave wsX1_hasGuest := goodIn_r _ [10, 11, 91, 92, 93, 94, 95, 96, 97, 98, 99, 100, 101, 102, 103, 104, 105, 106, 107] (by decide +kernel) (by decide +kernel)
set_option maxRecDepth 20000 in
theorem gX4_leave_X1_hasGuest : GoodIn wsX4_leave (wsV RX4 78 RX1 yX1_hasGuest wsX1_hasGuest) := goodIn_app (goodIn_of _ (by decide +kernel)) ggX4_leave_X1_hasGuest
set_option maxRecDepth 20000 in
theorem ggX4_leave_X1_isThere : GoodIn wsX4_leave wsX1_isThere := goodIn_r _ [15, 16, 17, 18, 7, 8, 9, 10, 11, 91, 92, 93, 94, 95, 96, 97, 98, 99, 100, 101, 102, 103, 104, 105, 106, 107] (by decide +kernel) (by decide +kernel)
set_option maxRecDepth 20000 in
theorem gX4_leave_X1_isThere : GoodIn wsX4_leave (wsV RX4 107 RX1 yX1_isThere wsX1_isThere) := goodIn_app (goodIn_of _ (by decide +kernel)) ggX4_leave_X1_isThere
set_option maxRecDepth 20000 in
theorem ggX4_leave_X4_saveForUndo : GoodIn wsX4_leave wsX4_saveForUndo := goodIn_r _ [23, 24, 25, 5, 26, 27, 28, 22, 29, 30, 31, 32, 9, 33, 34, 11, 16, 35, 36, 37, 38, 17, 39, 40, 41, 42, 43, 44, 45, 46, 47, 48, 49, 50, 51, 52, 53, 54, 55, 56, 57, 58, 59, 60, 61, 62, 63, 64, 65, 66, 67, 68, 69, 70, 71, 72, 84, 85, 86, 87, 88, 89, 90, 91, 92, 93, 94, 95, 96, 97, 98, 99, 100, 101, 102, 103, 104, 105, 106, 107, 108, 109, 110, 111] (by decide +kernel) (by decide +kernel)
set_option maxRecDepth 20000 in
theorem gX4_leave_X4_saveForUndo : GoodIn wsX4_leave (wsV RX4 63 RX4 yX4_saveForUndo wsX4_saveForUndo) := goodIn_app (goodIn_of _ (by decide +kernel)) ggX4_leave_X4_saveForUndo
set_option maxRecDepth 20000 in
theorem ggX4_leave_X1_sendHome : GoodIn wsX4_leave wsX1_sendHome := goodIn_r _ [76, 17, 77, 78, 79, 80, 81, 82, 83, 91, 92, 93, 94, 95, 96, 97, 98, 99, 100, 101, 102, 103, 104, 105, 106, 107] (by decide +kernel) (by decide +kernel)
set_option maxRecDepth 20000 in
theorem gX4_leave_X1_sendHome : GoodIn wsX4_leave (wsV RX4 118 RX1 yX1_sendHome wsX1_sendHome) := goodIn_app (goodIn_of _ (by decide +kernel)) ggX4_leave_X1_sendHome
theorem dX4_leave_0 : decode cX4_leave 0 = .ok (.aload_n 0, 1) := by decide +kernel
theorem dX4_leave_1 : decode cX4_leave 1 = .ok (.getfield 10, 3) := by decide +kernel
theorem dX4_leave_4 : decode cX4_leave 4 = .ok (.iload_n 1, 1) := by decide +kernel
theorem dX4_leave_5 : decode cX4_leave 5 = .ok (.invokevirtual 78, 3) := by decide +kernel
theorem dX4_leave_8 : decode cX4_leave 8 = .ok (.ifCond .ne 13, 3) := by decide +kernel
theorem dX4_leave_11 : decode cX4_leave 11 = .ok (.new 82, 3) := by decide +kernel
theorem dX4_leave_14 : decode cX4_leave 14 = .ok (.dup, 1) := by decide +kernel
theorem dX4_leave_15 : decode cX4_leave 15 = .ok (.ldc 84, 2) := by decide +kernel
theorem dX4_leave_17 : decode cX4_leave 17 = .ok (.invokespecial 86, 3) := by decide +kernel
theorem dX4_leave_20 : decode cX4_leave 20 = .ok (.athrow, 1) := by decide +kernel
theorem dX4_leave_21 : decode cX4_leave 21 = .ok (.aload_n 0, 1) := by decide +kernel
theorem dX4_leave_22 : decode cX4_leave 22 = .ok (.getfield 10, 3) := by decide +kernel
theorem dX4_leave_25 : decode cX4_leave 25 = .ok (.iload_n 1, 1) := by decide +kernel
theorem dX4_leave_26 : decode cX4_leave 26 = .ok (.invokevirtual 107, 3) := by decide +kernel
theorem dX4_leave_29 : decode cX4_leave 29 = .ok (.ifCond .ne 13, 3) := by decide +kernel
theorem dX4_leave_32 : decode cX4_leave 32 = .ok (.new 58, 3) := by decide +kernel
theorem dX4_leave_35 : decode cX4_leave 35 = .ok (.dup, 1) := by decide +kernel
theorem dX4_leave_36 : decode cX4_leave 36 = .ok (.ldc 116, 2) := by decide +kernel
theorem dX4_leave_38 : decode cX4_leave 38 = .ok (.invokespecial 62, 3) := by decide +kernel
theorem dX4_leave_41 : decode cX4_leave 41 = .ok (.athrow, 1) := by decide +kernel
theorem dX4_leave_42 : decode cX4_leave 42 = .ok (.aload_n 0, 1) := by decide +kernel
theorem dX4_leave_43 : decode cX4_leave 43 = .ok (.invokevirtual 63, 3) := by decide +kernel
theorem dX4_leave_46 : decode cX4_leave 46 = .ok (.aload_n 0, 1) := by decide +kernel
theorem dX4_leave_47 : decode cX4_leave 47 = .ok (.getfield 10, 3) := by decide +kernel
theorem dX4_leave_50 : decode cX4_leave 50 = .ok (.iload_n 1, 1) := by decide +kernel
theorem dX4_leave_51 : decode cX4_leave 51 = .ok (.invokevirtual 118, 3) := by decide +kernel
theorem dX4_leave_54 : decode cX4_leave 54 = .ok (.ireturn, 1) := by decide +kernel
set_option maxRecDepth 20000 in
theorem ggX4_accuse_X4_isCard : GoodIn wsX4_accuse wsX4_isCard := goodIn_r _ [9] (by decide +kernel) (by decide +kernel)
set_option maxRecDepth 20000 in
theorem gX4_accuse_X4_isCard : GoodIn wsX4_accuse (va_wsS RX4 102 yX4_isCard wsX4_isCard) := goodIn_app (goodIn_of _ (by decide +kernel)) ggX4_accuse_X4_isCard
set_option maxRecDepth 20000 in
theorem ggX4_accuse_X4_saveForUndo : GoodIn wsX4_accuse wsX4_saveForUndo := goodIn_r _ [13, 14, 15, 5, 16, 17, 18, 8, 19, 20, 21, 22, 23, 24, 25, 26, 27, 28, 29, 30, 31, 32, 33, 34, 35, 36, 37, 38, 39, 40, 41, 42, 43, 44, 45, 46, 47, 48, 49, 50, 51, 52, 53, 54, 55, 56, 57, 58, 59, 60, 61, 62, 63, 64, 65, 66, 71, 72, 73, 74, 75, 76, 77, 78, 79, 80, 81, 82, 83, 84, 85, 86, 87, 88, 89, 90, 91, 92, 93, 94, 95, 96, 97, 98] (by decide +kernel) (by decide +kernel)
set_option maxRecDepth 20000 in
theorem gX4_accuse_X4_saveForUndo : GoodIn wsX4_accuse (wsV RX4 63 RX4 yX4_saveForUndo wsX4_saveForUndo) := goodIn_app (goodIn_of _ (by decide +kernel)) ggX4_accuse_X4_saveForUndo
set_option maxRecDepth 20000 in
theorem ggX4_accuse_X1_close : GoodIn wsX4_accuse wsX1_close := goodIn_r _ [70, 27, 29, 28, 30, 31, 37, 78, 79, 80, 81, 82, 83, 84, 85, 86, 87, 88, 89, 90, 91, 92, 93, 94] (by decide +kernel) (by decide +kernel)
set_option maxRecDepth 20000 in
theorem gX4_accuse_X1_close : GoodIn wsX4_accuse (wsV RX4 126 RX1 yX1_close wsX1_close) := goodIn_app (goodIn_of _ (by decide +kernel)) ggX4_accuse_X1_close
theorem dX4_accuse_0 : decode cX4_accuse 0 = .ok (.iload_n 1, 1) := by decide +kernel
theorem dX4_accuse_1 : decode cX4_accuse 1 = .ok (.invokestatic 102, 3) := by decide +kernel
theorem dX4_accuse_4 : decode cX4_accuse 4 = .ok (.ifCond .ne 13, 3) := by decide +kernel
theorem dX4_accuse_7 : decode cX4_accuse 7 = .ok (.new 82, 3) := by decide +kernel
theorem dX4_accuse_10 : decode cX4_accuse 10 = .ok (.dup, 1) := by decide +kernel
theorem dX4_accuse_11 : decode cX4_accuse 11 = .ok (.ldc 122, 2) := by decide +kernel
theorem dX4_accuse_13 : decode cX4_accuse 13 = .ok (.invokespecial 86, 3) := by decide +kernel
theorem dX4_accuse_16 : decode cX4_accuse 16 = .ok (.athrow, 1) := by decide +kernel
theorem dX4_accuse_17 : decode cX4_accuse 17 = .ok (.aload_n 0, 1) := by decide +kernel
theorem dX4_accuse_18 : decode cX4_accuse 18 = .ok (.getfield 10, 3) := by decide +kernel
theorem dX4_accuse_21 : decode cX4_accuse 21 = .ok (.getfield 54, 3) := by decide +kernel
theorem dX4_accuse_24 : decode cX4_accuse 24 = .ok (.ifCond .ne 13, 3) := by decide +kernel
theorem dX4_accuse_27 : decode cX4_accuse 27 = .ok (.new 58, 3) := by decide +kernel
theorem dX4_accuse_30 : decode cX4_accuse 30 = .ok (.dup, 1) := by decide +kernel
theorem dX4_accuse_31 : decode cX4_accuse 31 = .ok (.ldc 124, 2) := by decide +kernel
theorem dX4_accuse_33 : decode cX4_accuse 33 = .ok (.invokespecial 62, 3) := by decide +kernel
theorem dX4_accuse_36 : decode cX4_accuse 36 = .ok (.athrow, 1) := by decide +kernel
theorem dX4_accuse_37 : decode cX4_accuse 37 = .ok (.aload_n 0, 1) := by decide +kernel
theorem dX4_accuse_38 : decode cX4_accuse 38 = .ok (.invokevirtual 63, 3) := by decide +kernel
theorem dX4_accuse_41 : decode cX4_accuse 41 = .ok (.aload_n 0, 1) := by decide +kernel
theorem dX4_accuse_42 : decode cX4_accuse 42 = .ok (.getfield 10, 3) := by decide +kernel
theorem dX4_accuse_45 : decode cX4_accuse 45 = .ok (.iload_n 1, 1) := by decide +kernel
theorem dX4_accuse_46 : decode cX4_accuse 46 = .ok (.invokevirtual 126, 3) := by decide +kernel
theorem dX4_accuse_49 : decode cX4_accuse 49 = .ok (.ireturn, 1) := by decide +kernel
set_option maxRecDepth 20000 in
theorem ggX4_guest_X1_hasGuest : GoodIn wsX4_guest wsX1_hasGuest := goodIn_r _ [10, 11, 65, 66, 67, 68, 69, 70, 71, 72, 73, 74, 75, 76, 77, 78, 79, 80, 81] (by decide +kernel) (by decide +kernel)
set_option maxRecDepth 20000 in
theorem gX4_guest_X1_hasGuest : GoodIn wsX4_guest (wsV RX4 78 RX1 yX1_hasGuest wsX1_hasGuest) := goodIn_app (goodIn_of _ (by decide +kernel)) ggX4_guest_X1_hasGuest
set_option maxRecDepth 20000 in
theorem ggX4_guest_X1_aboutGuest : GoodIn wsX4_guest wsX1_aboutGuest := goodIn_r _ [15, 11, 16, 17, 18, 19, 20, 21, 22, 23, 24, 25, 26, 27, 9, 28, 29, 30, 31, 32, 33, 34, 35, 36, 37, 38, 39, 40, 41, 42, 43, 44, 45, 46, 47, 48, 49, 50, 51, 52, 53, 54, 55, 56, 57, 65, 66, 67, 68, 69, 70, 71, 72, 73, 74, 75, 76, 77, 78, 79, 80, 81, 82, 83, 84, 85] (by decide +kernel) (by decide +kernel)
set_option maxRecDepth 20000 in
theorem gX4_guest_X1_aboutGuest : GoodIn wsX4_guest (wsV RX4 131 RX1 yX1_aboutGuest wsX1_aboutGuest) := goodIn_app (goodIn_of _ (by decide +kernel)) ggX4_guest_X1_aboutGuest
theorem dX4_guest_0 : decode cX4_guest 0 = .ok (.aload_n 0, 1) := by decide +kernel
theorem dX4_guest_1 : decode cX4_guest 1 = .ok (.getfield 10, 3) := by decide +kernel
theorem dX4_guest_4 : decode cX4_guest 4 = .ok (.iload_n 1, 1) := by decide +kernel
theorem dX4_guest_5 : decode cX4_guest 5 = .ok (.invokevirtual 78, 3) := by decide +kernel
theorem dX4_guest_8 : decode cX4_guest 8 = .ok (.ifCond .ne 13, 3) := by decide +kernel
theorem dX4_guest_11 : decode cX4_guest 11 = .ok (.new 82, 3) := by decide +kernel
theorem dX4_guest_14 : decode cX4_guest 14 = .ok (.dup, 1) := by decide +kernel
theorem dX4_guest_15 : decode cX4_guest 15 = .ok (.ldc 84, 2) := by decide +kernel
theorem dX4_guest_17 : decode cX4_guest 17 = .ok (.invokespecial 86, 3) := by decide +kernel
theorem dX4_guest_20 : decode cX4_guest 20 = .ok (.athrow, 1) := by decide +kernel
theorem dX4_guest_21 : decode cX4_guest 21 = .ok (.iload_n 2, 1) := by decide +kernel
theorem dX4_guest_22 : decode cX4_guest 22 = .ok (.ifCond .lt 9, 3) := by decide +kernel
theorem dX4_guest_25 : decode cX4_guest 25 = .ok (.iload_n 2, 1) := by decide +kernel
theorem dX4_guest_26 : decode cX4_guest 26 = .ok (.bipush 8, 2) := by decide +kernel
theorem dX4_guest_28 : decode cX4_guest 28 = .ok (.if_icmp .lt 13, 3) := by decide +kernel
theorem dX4_guest_31 : decode cX4_guest 31 = .ok (.new 44, 3) := by decide +kernel
theorem dX4_guest_34 : decode cX4_guest 34 = .ok (.dup, 1) := by decide +kernel
theorem dX4_guest_35 : decode cX4_guest 35 = .ok (.ldc 129, 2) := by decide +kernel
theorem dX4_guest_37 : decode cX4_guest 37 = .ok (.invokespecial 48, 3) := by decide +kernel
theorem dX4_guest_40 : decode cX4_guest 40 = .ok (.athrow, 1) := by decide +kernel
theorem dX4_guest_41 : decode cX4_guest 41 = .ok (.aload_n 0, 1) := by decide +kernel
theorem dX4_guest_42 : decode cX4_guest 42 = .ok (.getfield 10, 3) := by decide +kernel
theorem dX4_guest_45 : decode cX4_guest 45 = .ok (.iload_n 1, 1) := by decide +kernel
theorem dX4_guest_46 : decode cX4_guest 46 = .ok (.iload_n 2, 1) := by decide +kernel
theorem dX4_guest_47 : decode cX4_guest 47 = .ok (.invokevirtual 131, 3) := by decide +kernel
theorem dX4_guest_50 : decode cX4_guest 50 = .ok (.ireturn, 1) := by decide +kernel
set_option maxRecDepth 20000 in
theorem ggX4_value_X1_aboutHouse : GoodIn wsX4_value wsX1_aboutHouse := goodIn_r _ [8, 9, 10, 11, 12, 13, 14, 15, 16, 17, 18, 19, 20, 21, 22, 23, 24, 25, 33, 34, 35, 36, 37, 38, 39, 40, 41, 42, 43, 44, 45, 46, 47, 48, 49] (by decide +kernel) (by decide +kernel)
set_option maxRecDepth 20000 in
theorem gX4_value_X1_aboutHouse : GoodIn wsX4_value (wsV RX4 134 RX1 yX1_aboutHouse wsX1_aboutHouse) := goodIn_app (goodIn_of _ (by decide +kernel)) ggX4_value_X1_aboutHouse
theorem dX4_value_0 : decode cX4_value 0 = .ok (.iload_n 1, 1) := by decide +kernel
theorem dX4_value_1 : decode cX4_value 1 = .ok (.ifCond .lt 9, 3) := by decide +kernel
theorem dX4_value_4 : decode cX4_value 4 = .ok (.iload_n 1, 1) := by decide +kernel
theorem dX4_value_5 : decode cX4_value 5 = .ok (.bipush 10, 2) := by decide +kernel
theorem dX4_value_7 : decode cX4_value 7 = .ok (.if_icmp .lt 13, 3) := by decide +kernel
theorem dX4_value_10 : decode cX4_value 10 = .ok (.new 44, 3) := by decide +kernel
theorem dX4_value_13 : decode cX4_value 13 = .ok (.dup, 1) := by decide +kernel
theorem dX4_value_14 : decode cX4_value 14 = .ok (.ldc 129, 2) := by decide +kernel
theorem dX4_value_16 : decode cX4_value 16 = .ok (.invokespecial 48, 3) := by decide +kernel
theorem dX4_value_19 : decode cX4_value 19 = .ok (.athrow, 1) := by decide +kernel
theorem dX4_value_20 : decode cX4_value 20 = .ok (.aload_n 0, 1) := by decide +kernel
theorem dX4_value_21 : decode cX4_value 21 = .ok (.getfield 10, 3) := by decide +kernel
theorem dX4_value_24 : decode cX4_value 24 = .ok (.iload_n 1, 1) := by decide +kernel
theorem dX4_value_25 : decode cX4_value 25 = .ok (.invokevirtual 134, 3) := by decide +kernel
theorem dX4_value_28 : decode cX4_value 28 = .ok (.ireturn, 1) := by decide +kernel
set_option maxRecDepth 20000 in
theorem ggX4_question_X1_aboutQuestion : GoodIn wsX4_question wsX1_aboutQuestion := goodIn_r _ [10, 11, 12, 13, 21, 22, 23, 24, 25, 26, 27, 28, 29, 30, 31, 32, 33, 34, 35, 36, 37] (by decide +kernel) (by decide +kernel)
set_option maxRecDepth 20000 in
theorem gX4_question_X1_aboutQuestion : GoodIn wsX4_question (wsV RX4 143 RX1 yX1_aboutQuestion wsX1_aboutQuestion) := goodIn_app (goodIn_of _ (by decide +kernel)) ggX4_question_X1_aboutQuestion
theorem dX4_question_0 : decode cX4_question 0 = .ok (.iload_n 1, 1) := by decide +kernel
theorem dX4_question_1 : decode cX4_question 1 = .ok (.ifCond .lt 14, 3) := by decide +kernel
theorem dX4_question_4 : decode cX4_question 4 = .ok (.iload_n 1, 1) := by decide +kernel
theorem dX4_question_5 : decode cX4_question 5 = .ok (.aload_n 0, 1) := by decide +kernel
theorem dX4_question_6 : decode cX4_question 6 = .ok (.getfield 10, 3) := by decide +kernel
theorem dX4_question_9 : decode cX4_question 9 = .ok (.getfield 137, 3) := by decide +kernel
theorem dX4_question_12 : decode cX4_question 12 = .ok (.if_icmp .lt 13, 3) := by decide +kernel
theorem dX4_question_15 : decode cX4_question 15 = .ok (.new 82, 3) := by decide +kernel
theorem dX4_question_18 : decode cX4_question 18 = .ok (.dup, 1) := by decide +kernel
theorem dX4_question_19 : decode cX4_question 19 = .ok (.ldc 141, 2) := by decide +kernel
theorem dX4_question_21 : decode cX4_question 21 = .ok (.invokespecial 86, 3) := by decide +kernel
theorem dX4_question_24 : decode cX4_question 24 = .ok (.athrow, 1) := by decide +kernel
theorem dX4_question_25 : decode cX4_question 25 = .ok (.iload_n 2, 1) := by decide +kernel
theorem dX4_question_26 : decode cX4_question 26 = .ok (.ifCond .lt 8, 3) := by decide +kernel
theorem dX4_question_29 : decode cX4_question 29 = .ok (.iload_n 2, 1) := by decide +kernel
theorem dX4_question_30 : decode cX4_question 30 = .ok (.iconst 3, 1) := by decide +kernel
theorem dX4_question_31 : decode cX4_question 31 = .ok (.if_icmp .lt 13, 3) := by decide +kernel
theorem dX4_question_34 : decode cX4_question 34 = .ok (.new 44, 3) := by decide +kernel
theorem dX4_question_37 : decode cX4_question 37 = .ok (.dup, 1) := by decide +kernel
theorem dX4_question_38 : decode cX4_question 38 = .ok (.ldc 129, 2) := by decide +kernel
theorem dX4_question_40 : decode cX4_question 40 = .ok (.invokespecial 48, 3) := by decide +kernel
theorem dX4_question_43 : decode cX4_question 43 = .ok (.athrow, 1) := by decide +kernel
theorem dX4_question_44 : decode cX4_question 44 = .ok (.aload_n 0, 1) := by decide +kernel
theorem dX4_question_45 : decode cX4_question 45 = .ok (.getfield 10, 3) := by decide +kernel
theorem dX4_question_48 : decode cX4_question 48 = .ok (.iload_n 1, 1) := by decide +kernel
theorem dX4_question_49 : decode cX4_question 49 = .ok (.iload_n 2, 1) := by decide +kernel
theorem dX4_question_50 : decode cX4_question 50 = .ok (.invokevirtual 143, 3) := by decide +kernel
theorem dX4_question_53 : decode cX4_question 53 = .ok (.ireturn, 1) := by decide +kernel
theorem dX4_deals_0 : decode cX4_deals 0 = .ok (.aload_n 0, 1) := by decide +kernel
theorem dX4_deals_1 : decode cX4_deals 1 = .ok (.getfield 10, 3) := by decide +kernel
theorem dX4_deals_4 : decode cX4_deals 4 = .ok (.getfield 146, 3) := by decide +kernel
theorem dX4_deals_7 : decode cX4_deals 7 = .ok (.getfield 149, 3) := by decide +kernel
theorem dX4_deals_10 : decode cX4_deals 10 = .ok (.ireturn, 1) := by decide +kernel
set_option maxRecDepth 20000 in
theorem ggX4_dealsWith_X4_isCard : GoodIn wsX4_dealsWith wsX4_isCard := goodIn_r _ [7] (by decide +kernel) (by decide +kernel)
set_option maxRecDepth 20000 in
theorem gX4_dealsWith_X4_isCard : GoodIn wsX4_dealsWith (va_wsS RX4 102 yX4_isCard wsX4_isCard) := goodIn_app (goodIn_of _ (by decide +kernel)) ggX4_dealsWith_X4_isCard
set_option maxRecDepth 20000 in
theorem ggX4_dealsWith_X0_countWith : GoodIn wsX4_dealsWith wsX0_countWith := goodIn_r _ [12, 13, 14, 15, 11, 16, 17, 18, 19, 20, 21, 22, 23, 24, 25, 50, 51, 52, 53] (by decide +kernel) (by decide +kernel)
set_option maxRecDepth 20000 in
theorem gX4_dealsWith_X0_countWith : GoodIn wsX4_dealsWith (wsV RX4 152 RX0 yX0_countWith wsX0_countWith) := goodIn_app (goodIn_of _ (by decide +kernel)) ggX4_dealsWith_X0_countWith
theorem dX4_dealsWith_0 : decode cX4_dealsWith 0 = .ok (.iload_n 1, 1) := by decide +kernel
theorem dX4_dealsWith_1 : decode cX4_dealsWith 1 = .ok (.invokestatic 102, 3) := by decide +kernel
theorem dX4_dealsWith_4 : decode cX4_dealsWith 4 = .ok (.ifCond .ne 13, 3) := by decide +kernel
theorem dX4_dealsWith_7 : decode cX4_dealsWith 7 = .ok (.new 82, 3) := by decide +kernel
theorem dX4_dealsWith_10 : decode cX4_dealsWith 10 = .ok (.dup, 1) := by decide +kernel
theorem dX4_dealsWith_11 : decode cX4_dealsWith 11 = .ok (.ldc 122, 2) := by decide +kernel
theorem dX4_dealsWith_13 : decode cX4_dealsWith 13 = .ok (.invokespecial 86, 3) := by decide +kernel
theorem dX4_dealsWith_16 : decode cX4_dealsWith 16 = .ok (.athrow, 1) := by decide +kernel
theorem dX4_dealsWith_17 : decode cX4_dealsWith 17 = .ok (.aload_n 0, 1) := by decide +kernel
theorem dX4_dealsWith_18 : decode cX4_dealsWith 18 = .ok (.getfield 10, 3) := by decide +kernel
theorem dX4_dealsWith_21 : decode cX4_dealsWith 21 = .ok (.getfield 146, 3) := by decide +kernel
theorem dX4_dealsWith_24 : decode cX4_dealsWith 24 = .ok (.iconst 4, 1) := by decide +kernel
theorem dX4_dealsWith_25 : decode cX4_dealsWith 25 = .ok (.iload_n 1, 1) := by decide +kernel
theorem dX4_dealsWith_26 : decode cX4_dealsWith 26 = .ok (.invokevirtual 152, 3) := by decide +kernel
theorem dX4_dealsWith_29 : decode cX4_dealsWith 29 = .ok (.ireturn, 1) := by decide +kernel
set_option maxRecDepth 20000 in
theorem ggX4_dealsHeld_X1_hasGuest : GoodIn wsX4_dealsHeld wsX1_hasGuest := goodIn_r _ [8, 9, 39, 40, 41, 42, 43, 44, 45, 46, 47, 48, 49, 50, 51, 52, 53, 54, 55] (by decide +kernel) (by decide +kernel)
set_option maxRecDepth 20000 in
theorem gX4_dealsHeld_X1_hasGuest : GoodIn wsX4_dealsHeld (wsV RX4 78 RX1 yX1_hasGuest wsX1_hasGuest) := goodIn_app (goodIn_of _ (by decide +kernel)) ggX4_dealsHeld_X1_hasGuest
set_option maxRecDepth 20000 in
theorem ggX4_dealsHeld_X4_isCard : GoodIn wsX4_dealsHeld wsX4_isCard := goodIn_r _ [13] (by decide +kernel) (by decide +kernel)
set_option maxRecDepth 20000 in
theorem gX4_dealsHeld_X4_isCard : GoodIn wsX4_dealsHeld (va_wsS RX4 102 yX4_isCard wsX4_isCard) := goodIn_app (goodIn_of _ (by decide +kernel)) ggX4_dealsHeld_X4_isCard
set_option maxRecDepth 20000 in
theorem ggX4_dealsHeld_X0_countWith : GoodIn wsX4_dealsHeld wsX0_countWith := goodIn_r _ [18, 19, 20, 21, 17, 22, 23, 24, 25, 26, 27, 28, 29, 30, 31, 56, 57, 58, 59] (by decide +kernel) (by decide +kernel)
set_option maxRecDepth 20000 in
theorem gX4_dealsHeld_X0_countWith : GoodIn wsX4_dealsHeld (wsV RX4 152 RX0 yX0_countWith wsX0_countWith) := goodIn_app (goodIn_of _ (by decide +kernel)) ggX4_dealsHeld_X0_countWith
theorem dX4_dealsHeld_0 : decode cX4_dealsHeld 0 = .ok (.aload_n 0, 1) := by decide +kernel
theorem dX4_dealsHeld_1 : decode cX4_dealsHeld 1 = .ok (.getfield 10, 3) := by decide +kernel
theorem dX4_dealsHeld_4 : decode cX4_dealsHeld 4 = .ok (.iload_n 1, 1) := by decide +kernel
theorem dX4_dealsHeld_5 : decode cX4_dealsHeld 5 = .ok (.invokevirtual 78, 3) := by decide +kernel
theorem dX4_dealsHeld_8 : decode cX4_dealsHeld 8 = .ok (.ifCond .eq 10, 3) := by decide +kernel
theorem dX4_dealsHeld_11 : decode cX4_dealsHeld 11 = .ok (.iload_n 2, 1) := by decide +kernel
theorem dX4_dealsHeld_12 : decode cX4_dealsHeld 12 = .ok (.invokestatic 102, 3) := by decide +kernel
theorem dX4_dealsHeld_15 : decode cX4_dealsHeld 15 = .ok (.ifCond .ne 13, 3) := by decide +kernel
theorem dX4_dealsHeld_18 : decode cX4_dealsHeld 18 = .ok (.new 82, 3) := by decide +kernel
theorem dX4_dealsHeld_21 : decode cX4_dealsHeld 21 = .ok (.dup, 1) := by decide +kernel
theorem dX4_dealsHeld_22 : decode cX4_dealsHeld 22 = .ok (.ldc 105, 2) := by decide +kernel
theorem dX4_dealsHeld_24 : decode cX4_dealsHeld 24 = .ok (.invokespecial 86, 3) := by decide +kernel
theorem dX4_dealsHeld_27 : decode cX4_dealsHeld 27 = .ok (.athrow, 1) := by decide +kernel
theorem dX4_dealsHeld_28 : decode cX4_dealsHeld 28 = .ok (.aload_n 0, 1) := by decide +kernel
theorem dX4_dealsHeld_29 : decode cX4_dealsHeld 29 = .ok (.getfield 10, 3) := by decide +kernel
theorem dX4_dealsHeld_32 : decode cX4_dealsHeld 32 = .ok (.getfield 146, 3) := by decide +kernel
theorem dX4_dealsHeld_35 : decode cX4_dealsHeld 35 = .ok (.iload_n 1, 1) := by decide +kernel
theorem dX4_dealsHeld_36 : decode cX4_dealsHeld 36 = .ok (.iload_n 2, 1) := by decide +kernel
theorem dX4_dealsHeld_37 : decode cX4_dealsHeld 37 = .ok (.invokevirtual 152, 3) := by decide +kernel
theorem dX4_dealsHeld_40 : decode cX4_dealsHeld 40 = .ok (.ireturn, 1) := by decide +kernel
set_option maxRecDepth 20000 in
theorem ggX4_culprits_X0_cardsInSome : GoodIn wsX4_culprits wsX0_cardsInSome := goodIn_r _ [6, 7, 8, 9, 5, 10, 35, 36, 37, 38] (by decide +kernel) (by decide +kernel)
set_option maxRecDepth 20000 in
theorem gX4_culprits_X0_cardsInSome : GoodIn wsX4_culprits (wsV RX4 155 RX0 yX0_cardsInSome wsX0_cardsInSome) := goodIn_app (goodIn_of _ (by decide +kernel)) ggX4_culprits_X0_cardsInSome
theorem dX4_culprits_0 : decode cX4_culprits 0 = .ok (.aload_n 0, 1) := by decide +kernel
theorem dX4_culprits_1 : decode cX4_culprits 1 = .ok (.getfield 10, 3) := by decide +kernel
theorem dX4_culprits_4 : decode cX4_culprits 4 = .ok (.getfield 146, 3) := by decide +kernel
theorem dX4_culprits_7 : decode cX4_culprits 7 = .ok (.iconst 4, 1) := by decide +kernel
theorem dX4_culprits_8 : decode cX4_culprits 8 = .ok (.invokevirtual 155, 3) := by decide +kernel
theorem dX4_culprits_11 : decode cX4_culprits 11 = .ok (.ireturn, 1) := by decide +kernel
set_option maxRecDepth 20000 in
theorem ggX4_likeliest_X0_countWith : GoodIn wsX4_likeliest wsX0_countWith := goodIn_r _ [6, 7, 8, 9, 5, 10, 11, 12, 13, 14, 15, 16, 17, 18, 19, 44, 45, 46, 47] (by decide +kernel) (by decide +kernel)
set_option maxRecDepth 20000 in
theorem gX4_likeliest_X0_countWith : GoodIn wsX4_likeliest (wsV RX4 152 RX0 yX0_countWith wsX0_countWith) := goodIn_app (goodIn_of _ (by decide +kernel)) ggX4_likeliest_X0_countWith
theorem dX4_likeliest_0 : decode cX4_likeliest 0 = .ok (.iconst (-1), 1) := by decide +kernel
theorem dX4_likeliest_1 : decode cX4_likeliest 1 = .ok (.istore_n 1, 1) := by decide +kernel
theorem dX4_likeliest_2 : decode cX4_likeliest 2 = .ok (.iconst 0, 1) := by decide +kernel
theorem dX4_likeliest_3 : decode cX4_likeliest 3 = .ok (.istore_n 2, 1) := by decide +kernel
theorem dX4_likeliest_4 : decode cX4_likeliest 4 = .ok (.iconst 0, 1) := by decide +kernel
theorem dX4_likeliest_5 : decode cX4_likeliest 5 = .ok (.istore_n 3, 1) := by decide +kernel
theorem dX4_likeliest_6 : decode cX4_likeliest 6 = .ok (.iload_n 3, 1) := by decide +kernel
theorem dX4_likeliest_7 : decode cX4_likeliest 7 = .ok (.bipush 8, 2) := by decide +kernel
theorem dX4_likeliest_9 : decode cX4_likeliest 9 = .ok (.if_icmp .ge 34, 3) := by decide +kernel
theorem dX4_likeliest_12 : decode cX4_likeliest 12 = .ok (.aload_n 0, 1) := by decide +kernel
theorem dX4_likeliest_13 : decode cX4_likeliest 13 = .ok (.getfield 10, 3) := by decide +kernel
theorem dX4_likeliest_16 : decode cX4_likeliest 16 = .ok (.getfield 146, 3) := by decide +kernel
theorem dX4_likeliest_19 : decode cX4_likeliest 19 = .ok (.iconst 4, 1) := by decide +kernel
theorem dX4_likeliest_20 : decode cX4_likeliest 20 = .ok (.iload_n 3, 1) := by decide +kernel
theorem dX4_likeliest_21 : decode cX4_likeliest 21 = .ok (.invokevirtual 152, 3) := by decide +kernel
theorem dX4_likeliest_24 : decode cX4_likeliest 24 = .ok (.istore 4, 2) := by decide +kernel
