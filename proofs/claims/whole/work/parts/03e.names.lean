theorem dX2_mostLeft_8 : decode cX2_mostLeft 8 = .ok (.if_icmp .ge 16, 3) := by decide +kernel
theorem dX2_mostLeft_11 : decode cX2_mostLeft 11 = .ok (.aload_n 0, 1) := by decide +kernel
theorem dX2_mostLeft_12 : decode cX2_mostLeft 12 = .ok (.getfield 15, 3) := by decide +kernel
theorem dX2_mostLeft_15 : decode cX2_mostLeft 15 = .ok (.iload_n 2, 1) := by decide +kernel
theorem dX2_mostLeft_16 : decode cX2_mostLeft 16 = .ok (.iconst 0, 1) := by decide +kernel
theorem dX2_mostLeft_17 : decode cX2_mostLeft 17 = .ok (.iastore, 1) := by decide +kernel
theorem dX2_mostLeft_18 : decode cX2_mostLeft 18 = .ok (.iinc 2 1, 3) := by decide +kernel
theorem dX2_mostLeft_21 : decode cX2_mostLeft 21 = .ok (.goto (-19), 3) := by decide +kernel
theorem dX2_mostLeft_24 : decode cX2_mostLeft 24 = .ok (.iconst 0, 1) := by decide +kernel
theorem dX2_mostLeft_25 : decode cX2_mostLeft 25 = .ok (.istore_n 2, 1) := by decide +kernel
theorem dX2_mostLeft_26 : decode cX2_mostLeft 26 = .ok (.iload_n 2, 1) := by decide +kernel
theorem dX2_mostLeft_27 : decode cX2_mostLeft 27 = .ok (.aload_n 0, 1) := by decide +kernel
theorem dX2_mostLeft_28 : decode cX2_mostLeft 28 = .ok (.getfield 9, 3) := by decide +kernel
theorem dX2_mostLeft_31 : decode cX2_mostLeft 31 = .ok (.arraylength, 1) := by decide +kernel
theorem dX2_mostLeft_32 : decode cX2_mostLeft 32 = .ok (.if_icmp .ge 40, 3) := by decide +kernel
theorem dX2_mostLeft_35 : decode cX2_mostLeft 35 = .ok (.iload_n 2, 1) := by decide +kernel
theorem dX2_mostLeft_36 : decode cX2_mostLeft 36 = .ok (.iload_n 1, 1) := by decide +kernel
theorem dX2_mostLeft_37 : decode cX2_mostLeft 37 = .ok (.iand, 1) := by decide +kernel
theorem dX2_mostLeft_38 : decode cX2_mostLeft 38 = .ok (.invokestatic 40, 3) := by decide +kernel
theorem dX2_mostLeft_41 : decode cX2_mostLeft 41 = .ok (.istore_n 3, 1) := by decide +kernel
theorem dX2_mostLeft_42 : decode cX2_mostLeft 42 = .ok (.iload_n 3, 1) := by decide +kernel
theorem dX2_mostLeft_43 : decode cX2_mostLeft 43 = .ok (.aload_n 0, 1) := by decide +kernel
theorem dX2_mostLeft_44 : decode cX2_mostLeft 44 = .ok (.getfield 15, 3) := by decide +kernel
theorem dX2_mostLeft_47 : decode cX2_mostLeft 47 = .ok (.arraylength, 1) := by decide +kernel
theorem dX2_mostLeft_48 : decode cX2_mostLeft 48 = .ok (.if_icmp .ge 18, 3) := by decide +kernel
theorem dX2_mostLeft_51 : decode cX2_mostLeft 51 = .ok (.aload_n 0, 1) := by decide +kernel
theorem dX2_mostLeft_52 : decode cX2_mostLeft 52 = .ok (.getfield 15, 3) := by decide +kernel
theorem dX2_mostLeft_55 : decode cX2_mostLeft 55 = .ok (.iload_n 3, 1) := by decide +kernel
theorem dX2_mostLeft_56 : decode cX2_mostLeft 56 = .ok (.dup2, 1) := by decide +kernel
theorem dX2_mostLeft_57 : decode cX2_mostLeft 57 = .ok (.iaload, 1) := by decide +kernel
theorem dX2_mostLeft_58 : decode cX2_mostLeft 58 = .ok (.aload_n 0, 1) := by decide +kernel
theorem dX2_mostLeft_59 : decode cX2_mostLeft 59 = .ok (.getfield 9, 3) := by decide +kernel
theorem dX2_mostLeft_62 : decode cX2_mostLeft 62 = .ok (.iload_n 2, 1) := by decide +kernel
theorem dX2_mostLeft_63 : decode cX2_mostLeft 63 = .ok (.iaload, 1) := by decide +kernel
theorem dX2_mostLeft_64 : decode cX2_mostLeft 64 = .ok (.iadd, 1) := by decide +kernel
theorem dX2_mostLeft_65 : decode cX2_mostLeft 65 = .ok (.iastore, 1) := by decide +kernel
theorem dX2_mostLeft_66 : decode cX2_mostLeft 66 = .ok (.iinc 2 1, 3) := by decide +kernel
theorem dX2_mostLeft_69 : decode cX2_mostLeft 69 = .ok (.goto (-43), 3) := by decide +kernel
theorem dX2_mostLeft_72 : decode cX2_mostLeft 72 = .ok (.iconst 0, 1) := by decide +kernel
theorem dX2_mostLeft_73 : decode cX2_mostLeft 73 = .ok (.istore_n 2, 1) := by decide +kernel
theorem dX2_mostLeft_74 : decode cX2_mostLeft 74 = .ok (.iconst 0, 1) := by decide +kernel
theorem dX2_mostLeft_75 : decode cX2_mostLeft 75 = .ok (.istore_n 3, 1) := by decide +kernel
theorem dX2_mostLeft_76 : decode cX2_mostLeft 76 = .ok (.iload_n 3, 1) := by decide +kernel
theorem dX2_mostLeft_77 : decode cX2_mostLeft 77 = .ok (.aload_n 0, 1) := by decide +kernel
theorem dX2_mostLeft_78 : decode cX2_mostLeft 78 = .ok (.getfield 15, 3) := by decide +kernel
theorem dX2_mostLeft_81 : decode cX2_mostLeft 81 = .ok (.arraylength, 1) := by decide +kernel
theorem dX2_mostLeft_82 : decode cX2_mostLeft 82 = .ok (.if_icmp .ge 20, 3) := by decide +kernel
theorem dX2_mostLeft_85 : decode cX2_mostLeft 85 = .ok (.iload_n 2, 1) := by decide +kernel
theorem dX2_mostLeft_86 : decode cX2_mostLeft 86 = .ok (.aload_n 0, 1) := by decide +kernel
theorem dX2_mostLeft_87 : decode cX2_mostLeft 87 = .ok (.getfield 15, 3) := by decide +kernel
theorem dX2_mostLeft_90 : decode cX2_mostLeft 90 = .ok (.iload_n 3, 1) := by decide +kernel
theorem dX2_mostLeft_91 : decode cX2_mostLeft 91 = .ok (.iaload, 1) := by decide +kernel
theorem dX2_mostLeft_92 : decode cX2_mostLeft 92 = .ok (.invokestatic 46, 3) := by decide +kernel
theorem dX2_mostLeft_95 : decode cX2_mostLeft 95 = .ok (.istore_n 2, 1) := by decide +kernel
theorem dX2_mostLeft_96 : decode cX2_mostLeft 96 = .ok (.iinc 3 1, 3) := by decide +kernel
theorem dX2_mostLeft_99 : decode cX2_mostLeft 99 = .ok (.goto (-23), 3) := by decide +kernel
theorem dX2_mostLeft_102 : decode cX2_mostLeft 102 = .ok (.aload_n 0, 1) := by decide +kernel
theorem dX2_mostLeft_103 : decode cX2_mostLeft 103 = .ok (.getfield 18, 3) := by decide +kernel
theorem dX2_mostLeft_106 : decode cX2_mostLeft 106 = .ok (.iload_n 2, 1) := by decide +kernel
theorem dX2_mostLeft_107 : decode cX2_mostLeft 107 = .ok (.iadd, 1) := by decide +kernel
theorem dX2_mostLeft_108 : decode cX2_mostLeft 108 = .ok (.ireturn, 1) := by decide +kernel
set_option maxRecDepth 20000 in
theorem ggX2_bestQuestion_X2_mostLeft : GoodIn wsX2_bestQuestion wsX2_mostLeft := goodIn_r _ [5, 6, 7, 8, 9, 10, 11, 12, 13, 14, 15, 16, 17, 18, 19, 20, 21, 22] (by decide +kernel) (by decide +kernel)
set_option maxRecDepth 20000 in
theorem gX2_bestQuestion_X2_mostLeft : GoodIn wsX2_bestQuestion (wsV RX2 52 RX2 yX2_mostLeft wsX2_mostLeft) := goodIn_app (goodIn_of _ (by decide +kernel)) ggX2_bestQuestion_X2_mostLeft
set_option maxRecDepth 20000 in
theorem ggX2_bestQuestion_J6_bitCount_0f7a4 : GoodIn wsX2_bestQuestion wsJ6_bitCount_0f7a4 := goodIn_r _ [16, 17, 18, 19] (by decide +kernel) (by decide +kernel)
set_option maxRecDepth 20000 in
theorem gX2_bestQuestion_J6_bitCount_0f7a4 : GoodIn wsX2_bestQuestion (va_wsS RX2 40 yJ6_bitCount_0f7a4 wsJ6_bitCount_0f7a4) := goodIn_app (goodIn_of _ (by decide +kernel)) ggX2_bestQuestion_J6_bitCount_0f7a4
theorem dX2_bestQuestion_0 : decode cX2_bestQuestion 0 = .ok (.iconst 1, 1) := by decide +kernel
theorem dX2_bestQuestion_1 : decode cX2_bestQuestion 1 = .ok (.istore_n 1, 1) := by decide +kernel
theorem dX2_bestQuestion_2 : decode cX2_bestQuestion 2 = .ok (.aload_n 0, 1) := by decide +kernel
theorem dX2_bestQuestion_3 : decode cX2_bestQuestion 3 = .ok (.iload_n 1, 1) := by decide +kernel
theorem dX2_bestQuestion_4 : decode cX2_bestQuestion 4 = .ok (.invokevirtual 52, 3) := by decide +kernel
theorem dX2_bestQuestion_7 : decode cX2_bestQuestion 7 = .ok (.istore_n 2, 1) := by decide +kernel
theorem dX2_bestQuestion_8 : decode cX2_bestQuestion 8 = .ok (.iconst 2, 1) := by decide +kernel
theorem dX2_bestQuestion_9 : decode cX2_bestQuestion 9 = .ok (.istore_n 3, 1) := by decide +kernel
theorem dX2_bestQuestion_10 : decode cX2_bestQuestion 10 = .ok (.iload_n 3, 1) := by decide +kernel
theorem dX2_bestQuestion_11 : decode cX2_bestQuestion 11 = .ok (.sipush 255, 3) := by decide +kernel
theorem dX2_bestQuestion_14 : decode cX2_bestQuestion 14 = .ok (.if_icmp .gt 35, 3) := by decide +kernel
theorem dX2_bestQuestion_17 : decode cX2_bestQuestion 17 = .ok (.iload_n 3, 1) := by decide +kernel
theorem dX2_bestQuestion_18 : decode cX2_bestQuestion 18 = .ok (.invokestatic 40, 3) := by decide +kernel
theorem dX2_bestQuestion_21 : decode cX2_bestQuestion 21 = .ok (.iconst 2, 1) := by decide +kernel
theorem dX2_bestQuestion_22 : decode cX2_bestQuestion 22 = .ok (.if_icmp .gt 21, 3) := by decide +kernel
theorem dX2_bestQuestion_25 : decode cX2_bestQuestion 25 = .ok (.aload_n 0, 1) := by decide +kernel
theorem dX2_bestQuestion_26 : decode cX2_bestQuestion 26 = .ok (.iload_n 3, 1) := by decide +kernel
theorem dX2_bestQuestion_27 : decode cX2_bestQuestion 27 = .ok (.invokevirtual 52, 3) := by decide +kernel
theorem dX2_bestQuestion_30 : decode cX2_bestQuestion 30 = .ok (.istore 4, 2) := by decide +kernel
theorem dX2_bestQuestion_32 : decode cX2_bestQuestion 32 = .ok (.iload 4, 2) := by decide +kernel
theorem dX2_bestQuestion_34 : decode cX2_bestQuestion 34 = .ok (.iload_n 2, 1) := by decide +kernel
theorem dX2_bestQuestion_35 : decode cX2_bestQuestion 35 = .ok (.if_icmp .ge 8, 3) := by decide +kernel
theorem dX2_bestQuestion_38 : decode cX2_bestQuestion 38 = .ok (.iload 4, 2) := by decide +kernel
theorem dX2_bestQuestion_40 : decode cX2_bestQuestion 40 = .ok (.istore_n 2, 1) := by decide +kernel
theorem dX2_bestQuestion_41 : decode cX2_bestQuestion 41 = .ok (.iload_n 3, 1) := by decide +kernel
theorem dX2_bestQuestion_42 : decode cX2_bestQuestion 42 = .ok (.istore_n 1, 1) := by decide +kernel
theorem dX2_bestQuestion_43 : decode cX2_bestQuestion 43 = .ok (.iinc 3 1, 3) := by decide +kernel
theorem dX2_bestQuestion_46 : decode cX2_bestQuestion 46 = .ok (.goto (-36), 3) := by decide +kernel
theorem dX2_bestQuestion_49 : decode cX2_bestQuestion 49 = .ok (.iload_n 1, 1) := by decide +kernel
theorem dX2_bestQuestion_50 : decode cX2_bestQuestion 50 = .ok (.ireturn, 1) := by decide +kernel
theorem dX3_init_0 : decode cX3_init 0 = .ok (.aload_n 0, 1) := by decide +kernel
theorem dX3_init_1 : decode cX3_init 1 = .ok (.invokespecial 3, 3) := by decide +kernel
theorem dX3_init_4 : decode cX3_init 4 = .ok (.aload_n 0, 1) := by decide +kernel
theorem dX3_init_5 : decode cX3_init 5 = .ok (.bipush 90, 2) := by decide +kernel
theorem dX3_init_7 : decode cX3_init 7 = .ok (.newarray .int, 2) := by decide +kernel
theorem dX3_init_9 : decode cX3_init 9 = .ok (.putfield 9, 3) := by decide +kernel
theorem dX3_init_12 : decode cX3_init 12 = .ok (.return_, 1) := by decide +kernel
theorem dX3_add_0 : decode cX3_add 0 = .ok (.aload_n 0, 1) := by decide +kernel
theorem dX3_add_1 : decode cX3_add 1 = .ok (.getfield 15, 3) := by decide +kernel
theorem dX3_add_4 : decode cX3_add 4 = .ok (.ifCond .lt 32, 3) := by decide +kernel
theorem dX3_add_7 : decode cX3_add 7 = .ok (.aload_n 0, 1) := by decide +kernel
theorem dX3_add_8 : decode cX3_add 8 = .ok (.getfield 15, 3) := by decide +kernel
theorem dX3_add_11 : decode cX3_add 11 = .ok (.bipush 90, 2) := by decide +kernel
theorem dX3_add_13 : decode cX3_add 13 = .ok (.if_icmp .ge 23, 3) := by decide +kernel
theorem dX3_add_16 : decode cX3_add 16 = .ok (.aload_n 0, 1) := by decide +kernel
theorem dX3_add_17 : decode cX3_add 17 = .ok (.getfield 9, 3) := by decide +kernel
theorem dX3_add_20 : decode cX3_add 20 = .ok (.aload_n 0, 1) := by decide +kernel
theorem dX3_add_21 : decode cX3_add 21 = .ok (.getfield 15, 3) := by decide +kernel
theorem dX3_add_24 : decode cX3_add 24 = .ok (.iload_n 1, 1) := by decide +kernel
theorem dX3_add_25 : decode cX3_add 25 = .ok (.iastore, 1) := by decide +kernel
theorem dX3_add_26 : decode cX3_add 26 = .ok (.aload_n 0, 1) := by decide +kernel
theorem dX3_add_27 : decode cX3_add 27 = .ok (.dup, 1) := by decide +kernel
theorem dX3_add_28 : decode cX3_add 28 = .ok (.getfield 15, 3) := by decide +kernel
theorem dX3_add_31 : decode cX3_add 31 = .ok (.iconst 1, 1) := by decide +kernel
theorem dX3_add_32 : decode cX3_add 32 = .ok (.iadd, 1) := by decide +kernel
theorem dX3_add_33 : decode cX3_add 33 = .ok (.putfield 15, 3) := by decide +kernel
theorem dX3_add_36 : decode cX3_add 36 = .ok (.aload_n 0, 1) := by decide +kernel
theorem dX3_add_37 : decode cX3_add 37 = .ok (.getfield 15, 3) := by decide +kernel
theorem dX3_add_40 : decode cX3_add 40 = .ok (.ireturn, 1) := by decide +kernel
set_option maxRecDepth 20000 in
theorem ggX3_findError_X3_readItem : GoodIn wsX3_findError wsX3_readItem := goodIn_r _ [7, 1, 8, 9, 10, 11, 12, 6, 13, 2, 14, 15, 16, 17, 18, 19, 20, 21, 22, 23, 24, 25, 26, 27, 28, 29, 30, 31] (by decide +kernel) (by decide +kernel)
set_option maxRecDepth 20000 in
theorem gX3_findError_X3_readItem : GoodIn wsX3_findError (wsV RX3 22 RX3 yX3_readItem wsX3_readItem) := goodIn_app (goodIn_of _ (by decide +kernel)) ggX3_findError_X3_readItem
theorem dX3_findError_0 : decode cX3_findError 0 = .ok (.aload_n 0, 1) := by decide +kernel
theorem dX3_findError_1 : decode cX3_findError 1 = .ok (.iconst 0, 1) := by decide +kernel
theorem dX3_findError_2 : decode cX3_findError 2 = .ok (.putfield 19, 3) := by decide +kernel
theorem dX3_findError_5 : decode cX3_findError 5 = .ok (.iconst 0, 1) := by decide +kernel
theorem dX3_findError_6 : decode cX3_findError 6 = .ok (.istore_n 1, 1) := by decide +kernel
theorem dX3_findError_7 : decode cX3_findError 7 = .ok (.iload_n 1, 1) := by decide +kernel
theorem dX3_findError_8 : decode cX3_findError 8 = .ok (.bipush 90, 2) := by decide +kernel
theorem dX3_findError_10 : decode cX3_findError 10 = .ok (.if_icmp .ge 36, 3) := by decide +kernel
theorem dX3_findError_13 : decode cX3_findError 13 = .ok (.aload_n 0, 1) := by decide +kernel
theorem dX3_findError_14 : decode cX3_findError 14 = .ok (.getfield 19, 3) := by decide +kernel
theorem dX3_findError_17 : decode cX3_findError 17 = .ok (.aload_n 0, 1) := by decide +kernel
theorem dX3_findError_18 : decode cX3_findError 18 = .ok (.getfield 15, 3) := by decide +kernel
theorem dX3_findError_21 : decode cX3_findError 21 = .ok (.if_icmp .ge 25, 3) := by decide +kernel
theorem dX3_findError_24 : decode cX3_findError 24 = .ok (.aload_n 0, 1) := by decide +kernel
theorem dX3_findError_25 : decode cX3_findError 25 = .ok (.aload_n 0, 1) := by decide +kernel
theorem dX3_findError_26 : decode cX3_findError 26 = .ok (.getfield 19, 3) := by decide +kernel
theorem dX3_findError_29 : decode cX3_findError 29 = .ok (.invokevirtual 22, 3) := by decide +kernel
theorem dX3_findError_32 : decode cX3_findError 32 = .ok (.ifCond .ne 8, 3) := by decide +kernel
theorem dX3_findError_35 : decode cX3_findError 35 = .ok (.aload_n 0, 1) := by decide +kernel
theorem dX3_findError_36 : decode cX3_findError 36 = .ok (.getfield 19, 3) := by decide +kernel
theorem dX3_findError_39 : decode cX3_findError 39 = .ok (.ireturn, 1) := by decide +kernel
theorem dX3_findError_40 : decode cX3_findError 40 = .ok (.iinc 1 1, 3) := by decide +kernel
theorem dX3_findError_43 : decode cX3_findError 43 = .ok (.goto (-36), 3) := by decide +kernel
theorem dX3_findError_46 : decode cX3_findError 46 = .ok (.iconst (-1), 1) := by decide +kernel
theorem dX3_findError_47 : decode cX3_findError 47 = .ok (.ireturn, 1) := by decide +kernel
set_option maxRecDepth 20000 in
theorem ggX3_readItem_X3_look : GoodIn wsX3_readItem wsX3_look := goodIn_r _ [8, 1, 9, 10, 21, 22, 23, 24, 25, 26, 27] (by decide +kernel) (by decide +kernel)
set_option maxRecDepth 20000 in
theorem gX3_readItem_X3_look : GoodIn wsX3_readItem (wsV RX3 26 RX3 yX3_look wsX3_look) := goodIn_app (goodIn_of _ (by decide +kernel)) ggX3_readItem_X3_look
set_option maxRecDepth 20000 in
theorem ggX3_readItem_X3_skip : GoodIn wsX3_readItem wsX3_skip := goodIn_r _ [14, 1, 4, 5, 6, 7, 8, 9, 10, 21, 22, 23, 24, 25, 26, 27] (by decide +kernel) (by decide +kernel)
set_option maxRecDepth 20000 in
theorem gX3_readItem_X3_skip : GoodIn wsX3_readItem (wsV RX3 36 RX3 yX3_skip wsX3_skip) := goodIn_app (goodIn_of _ (by decide +kernel)) ggX3_readItem_X3_skip
set_option maxRecDepth 20000 in
theorem ggX3_readItem_X3_readCards : GoodIn wsX3_readItem wsX3_readCards := goodIn_r _ [18, 19, 20, 1, 4, 5, 6, 7, 8, 9, 10, 21, 22, 23, 24, 25, 26, 27] (by decide +kernel) (by decide +kernel)
set_option maxRecDepth 20000 in
theorem gX3_readItem_X3_readCards : GoodIn wsX3_readItem (wsV RX3 39 RX3 yX3_readCards wsX3_readCards) := goodIn_app (goodIn_of _ (by decide +kernel)) ggX3_readItem_X3_readCards
theorem dX3_readItem_0 : decode cX3_readItem 0 = .ok (.aload_n 0, 1) := by decide +kernel
theorem dX3_readItem_1 : decode cX3_readItem 1 = .ok (.iload_n 1, 1) := by decide +kernel
theorem dX3_readItem_2 : decode cX3_readItem 2 = .ok (.putfield 19, 3) := by decide +kernel
theorem dX3_readItem_5 : decode cX3_readItem 5 = .ok (.aload_n 0, 1) := by decide +kernel
theorem dX3_readItem_6 : decode cX3_readItem 6 = .ok (.aload_n 0, 1) := by decide +kernel
theorem dX3_readItem_7 : decode cX3_readItem 7 = .ok (.invokevirtual 26, 3) := by decide +kernel
theorem dX3_readItem_10 : decode cX3_readItem 10 = .ok (.putfield 30, 3) := by decide +kernel
theorem dX3_readItem_13 : decode cX3_readItem 13 = .ok (.aload_n 0, 1) := by decide +kernel
theorem dX3_readItem_14 : decode cX3_readItem 14 = .ok (.getfield 30, 3) := by decide +kernel
theorem dX3_readItem_17 : decode cX3_readItem 17 = .ok (.bipush 97, 2) := by decide +kernel
theorem dX3_readItem_19 : decode cX3_readItem 19 = .ok (.if_icmp .eq 32, 3) := by decide +kernel
theorem dX3_readItem_22 : decode cX3_readItem 22 = .ok (.aload_n 0, 1) := by decide +kernel
theorem dX3_readItem_23 : decode cX3_readItem 23 = .ok (.getfield 30, 3) := by decide +kernel
theorem dX3_readItem_26 : decode cX3_readItem 26 = .ok (.bipush 108, 2) := by decide +kernel
theorem dX3_readItem_28 : decode cX3_readItem 28 = .ok (.if_icmp .eq 23, 3) := by decide +kernel
theorem dX3_readItem_31 : decode cX3_readItem 31 = .ok (.aload_n 0, 1) := by decide +kernel
theorem dX3_readItem_32 : decode cX3_readItem 32 = .ok (.getfield 30, 3) := by decide +kernel
theorem dX3_readItem_35 : decode cX3_readItem 35 = .ok (.bipush 112, 2) := by decide +kernel
theorem dX3_readItem_37 : decode cX3_readItem 37 = .ok (.if_icmp .eq 14, 3) := by decide +kernel
theorem dX3_readItem_40 : decode cX3_readItem 40 = .ok (.aload_n 0, 1) := by decide +kernel
theorem dX3_readItem_41 : decode cX3_readItem 41 = .ok (.getfield 30, 3) := by decide +kernel
theorem dX3_readItem_44 : decode cX3_readItem 44 = .ok (.bipush 103, 2) := by decide +kernel
theorem dX3_readItem_46 : decode cX3_readItem 46 = .ok (.if_icmp .eq 5, 3) := by decide +kernel
theorem dX3_readItem_49 : decode cX3_readItem 49 = .ok (.iconst 0, 1) := by decide +kernel
theorem dX3_readItem_50 : decode cX3_readItem 50 = .ok (.ireturn, 1) := by decide +kernel
theorem dX3_readItem_51 : decode cX3_readItem 51 = .ok (.aload_n 0, 1) := by decide +kernel
theorem dX3_readItem_52 : decode cX3_readItem 52 = .ok (.dup, 1) := by decide +kernel
theorem dX3_readItem_53 : decode cX3_readItem 53 = .ok (.getfield 19, 3) := by decide +kernel
theorem dX3_readItem_56 : decode cX3_readItem 56 = .ok (.iconst 1, 1) := by decide +kernel
theorem dX3_readItem_57 : decode cX3_readItem 57 = .ok (.iadd, 1) := by decide +kernel
theorem dX3_readItem_58 : decode cX3_readItem 58 = .ok (.putfield 19, 3) := by decide +kernel
theorem dX3_readItem_61 : decode cX3_readItem 61 = .ok (.aload_n 0, 1) := by decide +kernel
theorem dX3_readItem_62 : decode cX3_readItem 62 = .ok (.aload_n 0, 1) := by decide +kernel
theorem dX3_readItem_63 : decode cX3_readItem 63 = .ok (.invokevirtual 26, 3) := by decide +kernel
theorem dX3_readItem_66 : decode cX3_readItem 66 = .ok (.bipush 48, 2) := by decide +kernel
theorem dX3_readItem_68 : decode cX3_readItem 68 = .ok (.isub, 1) := by decide +kernel
theorem dX3_readItem_69 : decode cX3_readItem 69 = .ok (.putfield 33, 3) := by decide +kernel
theorem dX3_readItem_72 : decode cX3_readItem 72 = .ok (.aload_n 0, 1) := by decide +kernel
theorem dX3_readItem_73 : decode cX3_readItem 73 = .ok (.getfield 33, 3) := by decide +kernel
theorem dX3_readItem_76 : decode cX3_readItem 76 = .ok (.ifCond .lt 11, 3) := by decide +kernel
theorem dX3_readItem_79 : decode cX3_readItem 79 = .ok (.aload_n 0, 1) := by decide +kernel
theorem dX3_readItem_80 : decode cX3_readItem 80 = .ok (.getfield 33, 3) := by decide +kernel
theorem dX3_readItem_83 : decode cX3_readItem 83 = .ok (.iconst 3, 1) := by decide +kernel
theorem dX3_readItem_84 : decode cX3_readItem 84 = .ok (.if_icmp .le 5, 3) := by decide +kernel
theorem dX3_readItem_87 : decode cX3_readItem 87 = .ok (.iconst 0, 1) := by decide +kernel
theorem dX3_readItem_88 : decode cX3_readItem 88 = .ok (.ireturn, 1) := by decide +kernel
theorem dX3_readItem_89 : decode cX3_readItem 89 = .ok (.aload_n 0, 1) := by decide +kernel
theorem dX3_readItem_90 : decode cX3_readItem 90 = .ok (.dup, 1) := by decide +kernel
theorem dX3_readItem_91 : decode cX3_readItem 91 = .ok (.getfield 19, 3) := by decide +kernel
theorem dX3_readItem_94 : decode cX3_readItem 94 = .ok (.iconst 1, 1) := by decide +kernel
theorem dX3_readItem_95 : decode cX3_readItem 95 = .ok (.iadd, 1) := by decide +kernel
theorem dX3_readItem_96 : decode cX3_readItem 96 = .ok (.putfield 19, 3) := by decide +kernel
theorem dX3_readItem_99 : decode cX3_readItem 99 = .ok (.aload_n 0, 1) := by decide +kernel
theorem dX3_readItem_100 : decode cX3_readItem 100 = .ok (.getfield 30, 3) := by decide +kernel
theorem dX3_readItem_103 : decode cX3_readItem 103 = .ok (.bipush 103, 2) := by decide +kernel
theorem dX3_readItem_105 : decode cX3_readItem 105 = .ok (.if_icmp .eq 36, 3) := by decide +kernel
theorem dX3_readItem_108 : decode cX3_readItem 108 = .ok (.aload_n 0, 1) := by decide +kernel
theorem dX3_readItem_109 : decode cX3_readItem 109 = .ok (.bipush 58, 2) := by decide +kernel
theorem dX3_readItem_111 : decode cX3_readItem 111 = .ok (.invokevirtual 36, 3) := by decide +kernel
theorem dX3_readItem_114 : decode cX3_readItem 114 = .ok (.ifCond .eq 25, 3) := by decide +kernel
theorem dX3_readItem_117 : decode cX3_readItem 117 = .ok (.aload_n 0, 1) := by decide +kernel
theorem dX3_readItem_118 : decode cX3_readItem 118 = .ok (.aload_n 0, 1) := by decide +kernel
theorem dX3_readItem_119 : decode cX3_readItem 119 = .ok (.getfield 30, 3) := by decide +kernel
theorem dX3_readItem_122 : decode cX3_readItem 122 = .ok (.bipush 112, 2) := by decide +kernel
theorem dX3_readItem_124 : decode cX3_readItem 124 = .ok (.if_icmp .ne 7, 3) := by decide +kernel
theorem dX3_readItem_127 : decode cX3_readItem 127 = .ok (.iconst 1, 1) := by decide +kernel
theorem dX3_readItem_128 : decode cX3_readItem 128 = .ok (.goto 5, 3) := by decide +kernel
theorem dX3_readItem_131 : decode cX3_readItem 131 = .ok (.bipush 8, 2) := by decide +kernel
theorem dX3_readItem_133 : decode cX3_readItem 133 = .ok (.invokevirtual 39, 3) := by decide +kernel
theorem dX3_readItem_136 : decode cX3_readItem 136 = .ok (.ifCond .ne 5, 3) := by decide +kernel
theorem dX3_readItem_139 : decode cX3_readItem 139 = .ok (.iconst 0, 1) := by decide +kernel
theorem dX3_readItem_140 : decode cX3_readItem 140 = .ok (.ireturn, 1) := by decide +kernel
theorem dX3_readItem_141 : decode cX3_readItem 141 = .ok (.aload_n 0, 1) := by decide +kernel
theorem dX3_readItem_142 : decode cX3_readItem 142 = .ok (.bipush 59, 2) := by decide +kernel
theorem dX3_readItem_144 : decode cX3_readItem 144 = .ok (.invokevirtual 36, 3) := by decide +kernel
theorem dX3_readItem_147 : decode cX3_readItem 147 = .ok (.ireturn, 1) := by decide +kernel
set_option maxRecDepth 20000 in
theorem ggX3_readCards_X3_look : GoodIn wsX3_readCards wsX3_look := goodIn_r _ [8, 3, 9, 10, 11, 12, 13, 14, 15, 16, 17] (by decide +kernel) (by decide +kernel)
set_option maxRecDepth 20000 in
theorem gX3_readCards_X3_look : GoodIn wsX3_readCards (wsV RX3 26 RX3 yX3_look wsX3_look) := goodIn_app (goodIn_of _ (by decide +kernel)) ggX3_readCards_X3_look
theorem dX3_readCards_0 : decode cX3_readCards 0 = .ok (.aload_n 0, 1) := by decide +kernel
theorem dX3_readCards_1 : decode cX3_readCards 1 = .ok (.iconst 0, 1) := by decide +kernel
theorem dX3_readCards_2 : decode cX3_readCards 2 = .ok (.putfield 42, 3) := by decide +kernel
theorem dX3_readCards_5 : decode cX3_readCards 5 = .ok (.aload_n 0, 1) := by decide +kernel
theorem dX3_readCards_6 : decode cX3_readCards 6 = .ok (.iconst (-1), 1) := by decide +kernel
theorem dX3_readCards_7 : decode cX3_readCards 7 = .ok (.putfield 45, 3) := by decide +kernel
theorem dX3_readCards_10 : decode cX3_readCards 10 = .ok (.iconst 0, 1) := by decide +kernel
theorem dX3_readCards_11 : decode cX3_readCards 11 = .ok (.istore_n 2, 1) := by decide +kernel
theorem dX3_readCards_12 : decode cX3_readCards 12 = .ok (.iload_n 2, 1) := by decide +kernel
theorem dX3_readCards_13 : decode cX3_readCards 13 = .ok (.iload_n 1, 1) := by decide +kernel
theorem dX3_readCards_14 : decode cX3_readCards 14 = .ok (.if_icmp .ge 71, 3) := by decide +kernel
theorem dX3_readCards_17 : decode cX3_readCards 17 = .ok (.aload_n 0, 1) := by decide +kernel
theorem dX3_readCards_18 : decode cX3_readCards 18 = .ok (.invokevirtual 26, 3) := by decide +kernel
theorem dX3_readCards_21 : decode cX3_readCards 21 = .ok (.bipush 48, 2) := by decide +kernel
theorem dX3_readCards_23 : decode cX3_readCards 23 = .ok (.isub, 1) := by decide +kernel
theorem dX3_readCards_24 : decode cX3_readCards 24 = .ok (.istore_n 3, 1) := by decide +kernel
theorem dX3_readCards_25 : decode cX3_readCards 25 = .ok (.iload_n 3, 1) := by decide +kernel
theorem dX3_readCards_26 : decode cX3_readCards 26 = .ok (.aload_n 0, 1) := by decide +kernel
theorem dX3_readCards_27 : decode cX3_readCards 27 = .ok (.getfield 45, 3) := by decide +kernel
theorem dX3_readCards_30 : decode cX3_readCards 30 = .ok (.if_icmp .le 9, 3) := by decide +kernel
theorem dX3_readCards_33 : decode cX3_readCards 33 = .ok (.iload_n 3, 1) := by decide +kernel
theorem dX3_readCards_34 : decode cX3_readCards 34 = .ok (.bipush 8, 2) := by decide +kernel
theorem dX3_readCards_36 : decode cX3_readCards 36 = .ok (.if_icmp .lt 13, 3) := by decide +kernel
theorem dX3_readCards_39 : decode cX3_readCards 39 = .ok (.iload_n 2, 1) := by decide +kernel
theorem dX3_readCards_40 : decode cX3_readCards 40 = .ok (.ifCond .le 7, 3) := by decide +kernel
theorem dX3_readCards_43 : decode cX3_readCards 43 = .ok (.iconst 1, 1) := by decide +kernel
theorem dX3_readCards_44 : decode cX3_readCards 44 = .ok (.goto 4, 3) := by decide +kernel
theorem dX3_readCards_47 : decode cX3_readCards 47 = .ok (.iconst 0, 1) := by decide +kernel
theorem dX3_readCards_48 : decode cX3_readCards 48 = .ok (.ireturn, 1) := by decide +kernel
theorem dX3_readCards_49 : decode cX3_readCards 49 = .ok (.aload_n 0, 1) := by decide +kernel
theorem dX3_readCards_50 : decode cX3_readCards 50 = .ok (.iload_n 3, 1) := by decide +kernel
theorem dX3_readCards_51 : decode cX3_readCards 51 = .ok (.putfield 45, 3) := by decide +kernel
theorem dX3_readCards_54 : decode cX3_readCards 54 = .ok (.aload_n 0, 1) := by decide +kernel
theorem dX3_readCards_55 : decode cX3_readCards 55 = .ok (.dup, 1) := by decide +kernel
theorem dX3_readCards_56 : decode cX3_readCards 56 = .ok (.getfield 42, 3) := by decide +kernel
theorem dX3_readCards_59 : decode cX3_readCards 59 = .ok (.iconst 1, 1) := by decide +kernel
theorem dX3_readCards_60 : decode cX3_readCards 60 = .ok (.aload_n 0, 1) := by decide +kernel
theorem dX3_readCards_61 : decode cX3_readCards 61 = .ok (.getfield 45, 3) := by decide +kernel
theorem dX3_readCards_64 : decode cX3_readCards 64 = .ok (.ishl, 1) := by decide +kernel
theorem dX3_readCards_65 : decode cX3_readCards 65 = .ok (.ior, 1) := by decide +kernel
theorem dX3_readCards_66 : decode cX3_readCards 66 = .ok (.putfield 42, 3) := by decide +kernel
theorem dX3_readCards_69 : decode cX3_readCards 69 = .ok (.aload_n 0, 1) := by decide +kernel
theorem dX3_readCards_70 : decode cX3_readCards 70 = .ok (.dup, 1) := by decide +kernel
theorem dX3_readCards_71 : decode cX3_readCards 71 = .ok (.getfield 19, 3) := by decide +kernel
theorem dX3_readCards_74 : decode cX3_readCards 74 = .ok (.iconst 1, 1) := by decide +kernel
theorem dX3_readCards_75 : decode cX3_readCards 75 = .ok (.iadd, 1) := by decide +kernel
theorem dX3_readCards_76 : decode cX3_readCards 76 = .ok (.putfield 19, 3) := by decide +kernel
theorem dX3_readCards_79 : decode cX3_readCards 79 = .ok (.iinc 2 1, 3) := by decide +kernel
theorem dX3_readCards_82 : decode cX3_readCards 82 = .ok (.goto (-70), 3) := by decide +kernel
theorem dX3_readCards_85 : decode cX3_readCards 85 = .ok (.iconst 1, 1) := by decide +kernel
theorem dX3_readCards_86 : decode cX3_readCards 86 = .ok (.ireturn, 1) := by decide +kernel
set_option maxRecDepth 20000 in
theorem ggX3_skip_X3_look : GoodIn wsX3_skip wsX3_look := goodIn_r _ [6, 1, 7, 8, 9, 10, 11, 12, 13, 14, 15] (by decide +kernel) (by decide +kernel)
set_option maxRecDepth 20000 in
theorem gX3_skip_X3_look : GoodIn wsX3_skip (wsV RX3 26 RX3 yX3_look wsX3_look) := goodIn_app (goodIn_of _ (by decide +kernel)) ggX3_skip_X3_look
theorem dX3_skip_0 : decode cX3_skip 0 = .ok (.aload_n 0, 1) := by decide +kernel
theorem dX3_skip_1 : decode cX3_skip 1 = .ok (.invokevirtual 26, 3) := by decide +kernel
theorem dX3_skip_4 : decode cX3_skip 4 = .ok (.iload_n 1, 1) := by decide +kernel
theorem dX3_skip_5 : decode cX3_skip 5 = .ok (.if_icmp .eq 5, 3) := by decide +kernel
theorem dX3_skip_8 : decode cX3_skip 8 = .ok (.iconst 0, 1) := by decide +kernel
theorem dX3_skip_9 : decode cX3_skip 9 = .ok (.ireturn, 1) := by decide +kernel
theorem dX3_skip_10 : decode cX3_skip 10 = .ok (.aload_n 0, 1) := by decide +kernel
theorem dX3_skip_11 : decode cX3_skip 11 = .ok (.dup, 1) := by decide +kernel
theorem dX3_skip_12 : decode cX3_skip 12 = .ok (.getfield 19, 3) := by decide +kernel
theorem dX3_skip_15 : decode cX3_skip 15 = .ok (.iconst 1, 1) := by decide +kernel
theorem dX3_skip_16 : decode cX3_skip 16 = .ok (.iadd, 1) := by decide +kernel
theorem dX3_skip_17 : decode cX3_skip 17 = .ok (.putfield 19, 3) := by decide +kernel
theorem dX3_skip_20 : decode cX3_skip 20 = .ok (.iconst 1, 1) := by decide +kernel
theorem dX3_skip_21 : decode cX3_skip 21 = .ok (.ireturn, 1) := by decide +kernel
theorem dX3_look_0 : decode cX3_look 0 = .ok (.aload_n 0, 1) := by decide +kernel
theorem dX3_look_1 : decode cX3_look 1 = .ok (.getfield 19, 3) := by decide +kernel
theorem dX3_look_4 : decode cX3_look 4 = .ok (.ifCond .lt 35, 3) := by decide +kernel
theorem dX3_look_7 : decode cX3_look 7 = .ok (.aload_n 0, 1) := by decide +kernel
theorem dX3_look_8 : decode cX3_look 8 = .ok (.getfield 19, 3) := by decide +kernel
theorem dX3_look_11 : decode cX3_look 11 = .ok (.aload_n 0, 1) := by decide +kernel
theorem dX3_look_12 : decode cX3_look 12 = .ok (.getfield 15, 3) := by decide +kernel
theorem dX3_look_15 : decode cX3_look 15 = .ok (.if_icmp .ge 24, 3) := by decide +kernel
theorem dX3_look_18 : decode cX3_look 18 = .ok (.aload_n 0, 1) := by decide +kernel
theorem dX3_look_19 : decode cX3_look 19 = .ok (.getfield 19, 3) := by decide +kernel
theorem dX3_look_22 : decode cX3_look 22 = .ok (.bipush 90, 2) := by decide +kernel
theorem dX3_look_24 : decode cX3_look 24 = .ok (.if_icmp .ge 15, 3) := by decide +kernel
theorem dX3_look_27 : decode cX3_look 27 = .ok (.aload_n 0, 1) := by decide +kernel
theorem dX3_look_28 : decode cX3_look 28 = .ok (.getfield 9, 3) := by decide +kernel
theorem dX3_look_31 : decode cX3_look 31 = .ok (.aload_n 0, 1) := by decide +kernel
theorem dX3_look_32 : decode cX3_look 32 = .ok (.getfield 19, 3) := by decide +kernel
theorem dX3_look_35 : decode cX3_look 35 = .ok (.iaload, 1) := by decide +kernel
theorem dX3_look_36 : decode cX3_look 36 = .ok (.goto 4, 3) := by decide +kernel
theorem dX3_look_39 : decode cX3_look 39 = .ok (.iconst (-1), 1) := by decide +kernel
theorem dX3_look_40 : decode cX3_look 40 = .ok (.ireturn, 1) := by decide +kernel
set_option maxRecDepth 20000 in
theorem ggX4_init_X1_init : GoodIn wsX4_init wsX1_init := goodIn_r _ [23, 24, 2, 3, 25, 26, 27, 28, 29, 30, 31, 32, 10, 11, 33, 34, 35, 36, 37, 38, 39, 40, 50, 51, 52, 53, 54, 55, 56, 57, 58, 59, 60, 61, 62, 63, 64, 65, 66, 74, 75, 76, 77] (by decide +kernel) (by decide +kernel)
set_option maxRecDepth 20000 in
theorem gX4_init_X1_init_n9 : GoodIn wsX4_init (wsX1_init) := ggX4_init_X1_init
set_option maxRecDepth 20000 in
theorem ggX4_init_X0_init : GoodIn wsX4_init wsX0_init := goodIn_r _ [35, 36, 2, 3, 37, 38, 39, 40, 74, 75, 76, 77] (by decide +kernel) (by decide +kernel)
set_option maxRecDepth 20000 in
theorem gX4_init_X0_init_n22 : GoodIn wsX4_init (wsX0_init) := ggX4_init_X0_init
set_option maxRecDepth 20000 in
theorem ggX4_init_X2_init : GoodIn wsX4_init wsX2_init := goodIn_r _ [42, 43, 2, 3, 26, 44, 45, 78, 79, 80] (by decide +kernel) (by decide +kernel)
set_option maxRecDepth 20000 in
theorem gX4_init_X2_init_n32 : GoodIn wsX4_init (wsX2_init) := ggX4_init_X2_init
set_option maxRecDepth 20000 in
theorem ggX4_init_X3_init : GoodIn wsX4_init wsX3_init := goodIn_r _ [47, 48, 2, 3, 26, 49, 81, 82, 83, 84, 85, 86, 87] (by decide +kernel) (by decide +kernel)
set_option maxRecDepth 20000 in
theorem gX4_init_X3_init_n39 : GoodIn wsX4_init (wsX3_init) := ggX4_init_X3_init
theorem dX4_init_0 : decode cX4_init 0 = .ok (.aload_n 0, 1) := by decide +kernel
theorem dX4_init_1 : decode cX4_init 1 = .ok (.invokespecial 1, 3) := by decide +kernel
theorem dX4_init_4 : decode cX4_init 4 = .ok (.aload_n 0, 1) := by decide +kernel
theorem dX4_init_5 : decode cX4_init 5 = .ok (.new 7, 3) := by decide +kernel
theorem dX4_init_8 : decode cX4_init 8 = .ok (.dup, 1) := by decide +kernel
theorem dX4_init_9 : decode cX4_init 9 = .ok (.invokespecial 9, 3) := by decide +kernel
theorem dX4_init_12 : decode cX4_init 12 = .ok (.putfield 10, 3) := by decide +kernel
theorem dX4_init_15 : decode cX4_init 15 = .ok (.aload_n 0, 1) := by decide +kernel
theorem dX4_init_16 : decode cX4_init 16 = .ok (.iconst 4, 1) := by decide +kernel
theorem dX4_init_17 : decode cX4_init 17 = .ok (.anewarray 7, 3) := by decide +kernel
theorem dX4_init_20 : decode cX4_init 20 = .ok (.putfield 16, 3) := by decide +kernel
theorem dX4_init_23 : decode cX4_init 23 = .ok (.aload_n 0, 1) := by decide +kernel
theorem dX4_init_24 : decode cX4_init 24 = .ok (.new 20, 3) := by decide +kernel
theorem dX4_init_27 : decode cX4_init 27 = .ok (.dup, 1) := by decide +kernel
theorem dX4_init_28 : decode cX4_init 28 = .ok (.invokespecial 22, 3) := by decide +kernel
theorem dX4_init_31 : decode cX4_init 31 = .ok (.putfield 23, 3) := by decide +kernel
theorem dX4_init_34 : decode cX4_init 34 = .ok (.aload_n 0, 1) := by decide +kernel
theorem dX4_init_35 : decode cX4_init 35 = .ok (.new 20, 3) := by decide +kernel
theorem dX4_init_38 : decode cX4_init 38 = .ok (.dup, 1) := by decide +kernel
theorem dX4_init_39 : decode cX4_init 39 = .ok (.invokespecial 22, 3) := by decide +kernel
theorem dX4_init_42 : decode cX4_init 42 = .ok (.putfield 27, 3) := by decide +kernel
theorem dX4_init_45 : decode cX4_init 45 = .ok (.aload_n 0, 1) := by decide +kernel
theorem dX4_init_46 : decode cX4_init 46 = .ok (.new 30, 3) := by decide +kernel
theorem dX4_init_49 : decode cX4_init 49 = .ok (.dup, 1) := by decide +kernel
theorem dX4_init_50 : decode cX4_init 50 = .ok (.invokespecial 32, 3) := by decide +kernel
theorem dX4_init_53 : decode cX4_init 53 = .ok (.putfield 33, 3) := by decide +kernel
theorem dX4_init_56 : decode cX4_init 56 = .ok (.aload_n 0, 1) := by decide +kernel
theorem dX4_init_57 : decode cX4_init 57 = .ok (.new 37, 3) := by decide +kernel
theorem dX4_init_60 : decode cX4_init 60 = .ok (.dup, 1) := by decide +kernel
theorem dX4_init_61 : decode cX4_init 61 = .ok (.invokespecial 39, 3) := by decide +kernel
theorem dX4_init_64 : decode cX4_init 64 = .ok (.putfield 40, 3) := by decide +kernel
theorem dX4_init_67 : decode cX4_init 67 = .ok (.iconst 0, 1) := by decide +kernel
theorem dX4_init_68 : decode cX4_init 68 = .ok (.istore_n 1, 1) := by decide +kernel
theorem dX4_init_69 : decode cX4_init 69 = .ok (.iload_n 1, 1) := by decide +kernel
theorem dX4_init_70 : decode cX4_init 70 = .ok (.iconst 4, 1) := by decide +kernel
theorem dX4_init_71 : decode cX4_init 71 = .ok (.if_icmp .ge 22, 3) := by decide +kernel
theorem dX4_init_74 : decode cX4_init 74 = .ok (.aload_n 0, 1) := by decide +kernel
theorem dX4_init_75 : decode cX4_init 75 = .ok (.getfield 16, 3) := by decide +kernel
theorem dX4_init_78 : decode cX4_init 78 = .ok (.iload_n 1, 1) := by decide +kernel
theorem dX4_init_79 : decode cX4_init 79 = .ok (.new 7, 3) := by decide +kernel
theorem dX4_init_82 : decode cX4_init 82 = .ok (.dup, 1) := by decide +kernel
theorem dX4_init_83 : decode cX4_init 83 = .ok (.invokespecial 9, 3) := by decide +kernel
theorem dX4_init_86 : decode cX4_init 86 = .ok (.aastore, 1) := by decide +kernel
theorem dX4_init_87 : decode cX4_init 87 = .ok (.iinc 1 1, 3) := by decide +kernel
theorem dX4_init_90 : decode cX4_init 90 = .ok (.goto (-21), 3) := by decide +kernel
theorem dX4_init_93 : decode cX4_init 93 = .ok (.return_, 1) := by decide +kernel
set_option maxRecDepth 20000 in
theorem ggX4_begin_X4_saveForUndo : GoodIn wsX4_begin wsX4_saveForUndo := goodIn_r _ [13, 14, 15, 6, 16, 17, 18, 12, 19, 20, 21, 22, 23, 24, 25, 26, 27, 28, 29, 30, 31, 32, 33, 34, 35, 36, 37, 38, 39, 40, 41, 42, 43, 44, 45, 46, 47, 48, 49, 50, 51, 52, 53, 54, 55, 56, 57, 58, 59, 60, 61, 62, 63, 64, 65, 66, 117, 118, 119, 120, 121, 122, 123, 124, 125, 126, 127, 128, 129, 130, 131, 132, 133, 134, 135, 136, 137, 138, 139, 140, 141, 142, 143, 144] (by decide +kernel) (by decide +kernel)
set_option maxRecDepth 20000 in
theorem gX4_begin_X4_saveForUndo : GoodIn wsX4_begin (wsV RX4 63 RX4 yX4_saveForUndo wsX4_saveForUndo) := goodIn_app (goodIn_of _ (by decide +kernel)) ggX4_begin_X4_saveForUndo
set_option maxRecDepth 20000 in
theorem ggX4_begin_X0_fillOnce : GoodIn wsX4_begin wsX0_fillOnce := goodIn_r _ [70, 59, 71, 72, 55, 73, 74, 75, 76, 77, 57, 60, 61, 78, 79, 80, 81, 82, 83, 84, 85, 86, 87, 88, 12, 89, 90, 91, 92, 93, 94, 141, 142, 143, 144] (by decide +kernel) (by decide +kernel)
set_option maxRecDepth 20000 in
theorem gX4_begin_X0_fillOnce : GoodIn wsX4_begin (wsV RX4 66 RX0 yX0_fillOnce wsX0_fillOnce) := goodIn_app (goodIn_of _ (by decide +kernel)) ggX4_begin_X0_fillOnce
set_option maxRecDepth 20000 in
theorem ggX4_begin_X1_open : GoodIn wsX4_begin wsX1_open := goodIn_r _ [98, 25, 26, 27, 32, 33, 35, 37, 34, 36, 41, 99, 100, 101, 23, 102, 28, 103, 104, 105, 106, 107, 108, 109, 110, 111, 112, 113, 114, 88, 12, 89, 90, 91, 115, 82, 83, 84, 85, 86, 87, 52, 53, 54, 55, 56, 57, 58, 49, 50, 51, 59, 60, 61, 62, 63, 64, 65, 66, 45, 46, 47, 124, 125, 126, 127, 128, 129, 130, 131, 132, 133, 134, 135, 136, 137, 138, 139, 140, 141, 142, 143, 144] (by decide +kernel) (by decide +kernel)
set_option maxRecDepth 20000 in
theorem gX4_begin_X1_open : GoodIn wsX4_begin (wsV RX4 70 RX1 yX1_open wsX1_open) := goodIn_app (goodIn_of _ (by decide +kernel)) ggX4_begin_X1_open
set_option maxRecDepth 20000 in
theorem ggX4_begin_X4_sizeOfHand : GoodIn wsX4_begin wsX4_sizeOfHand := goodIn_r _ [89, 90, 91] (by decide +kernel) (by decide +kernel)
set_option maxRecDepth 20000 in
theorem gX4_begin_X4_sizeOfHand : GoodIn wsX4_begin (va_wsS RX4 74 yX4_sizeOfHand wsX4_sizeOfHand) := goodIn_app (goodIn_of _ (by decide +kernel)) ggX4_begin_X4_sizeOfHand
theorem dX4_begin_0 : decode cX4_begin 0 = .ok (.iload_n 1, 1) := by decide +kernel
theorem dX4_begin_1 : decode cX4_begin 1 = .ok (.iconst 3, 1) := by decide +kernel
theorem dX4_begin_2 : decode cX4_begin 2 = .ok (.if_icmp .lt 8, 3) := by decide +kernel
theorem dX4_begin_5 : decode cX4_begin 5 = .ok (.iload_n 1, 1) := by decide +kernel
theorem dX4_begin_6 : decode cX4_begin 6 = .ok (.iconst 4, 1) := by decide +kernel
theorem dX4_begin_7 : decode cX4_begin 7 = .ok (.if_icmp .le 13, 3) := by decide +kernel
theorem dX4_begin_10 : decode cX4_begin 10 = .ok (.new 44, 3) := by decide +kernel
theorem dX4_begin_13 : decode cX4_begin 13 = .ok (.dup, 1) := by decide +kernel
theorem dX4_begin_14 : decode cX4_begin 14 = .ok (.ldc 46, 2) := by decide +kernel
theorem dX4_begin_16 : decode cX4_begin 16 = .ok (.invokespecial 48, 3) := by decide +kernel
theorem dX4_begin_19 : decode cX4_begin 19 = .ok (.athrow, 1) := by decide +kernel
theorem dX4_begin_20 : decode cX4_begin 20 = .ok (.iload_n 2, 1) := by decide +kernel
theorem dX4_begin_21 : decode cX4_begin 21 = .ok (.iconst (-1), 1) := by decide +kernel
theorem dX4_begin_22 : decode cX4_begin 22 = .ok (.if_icmp .lt 9, 3) := by decide +kernel
theorem dX4_begin_25 : decode cX4_begin 25 = .ok (.iload_n 2, 1) := by decide +kernel
theorem dX4_begin_26 : decode cX4_begin 26 = .ok (.ldc 51, 2) := by decide +kernel
theorem dX4_begin_28 : decode cX4_begin 28 = .ok (.if_icmp .le 13, 3) := by decide +kernel
theorem dX4_begin_31 : decode cX4_begin 31 = .ok (.new 44, 3) := by decide +kernel
theorem dX4_begin_34 : decode cX4_begin 34 = .ok (.dup, 1) := by decide +kernel
theorem dX4_begin_35 : decode cX4_begin 35 = .ok (.ldc 52, 2) := by decide +kernel
theorem dX4_begin_37 : decode cX4_begin 37 = .ok (.invokespecial 48, 3) := by decide +kernel
theorem dX4_begin_40 : decode cX4_begin 40 = .ok (.athrow, 1) := by decide +kernel
theorem dX4_begin_41 : decode cX4_begin 41 = .ok (.aload_n 0, 1) := by decide +kernel
theorem dX4_begin_42 : decode cX4_begin 42 = .ok (.getfield 10, 3) := by decide +kernel
theorem dX4_begin_45 : decode cX4_begin 45 = .ok (.getfield 54, 3) := by decide +kernel
theorem dX4_begin_48 : decode cX4_begin 48 = .ok (.ifCond .eq 13, 3) := by decide +kernel
theorem dX4_begin_51 : decode cX4_begin 51 = .ok (.new 58, 3) := by decide +kernel
theorem dX4_begin_54 : decode cX4_begin 54 = .ok (.dup, 1) := by decide +kernel
theorem dX4_begin_55 : decode cX4_begin 55 = .ok (.ldc 60, 2) := by decide +kernel
theorem dX4_begin_57 : decode cX4_begin 57 = .ok (.invokespecial 62, 3) := by decide +kernel
theorem dX4_begin_60 : decode cX4_begin 60 = .ok (.athrow, 1) := by decide +kernel
theorem dX4_begin_61 : decode cX4_begin 61 = .ok (.aload_n 0, 1) := by decide +kernel
theorem dX4_begin_62 : decode cX4_begin 62 = .ok (.invokevirtual 63, 3) := by decide +kernel
theorem dX4_begin_65 : decode cX4_begin 65 = .ok (.iload_n 1, 1) := by decide +kernel
theorem dX4_begin_66 : decode cX4_begin 66 = .ok (.iconst 3, 1) := by decide +kernel
theorem dX4_begin_67 : decode cX4_begin 67 = .ok (.if_icmp .ne 10, 3) := by decide +kernel
theorem dX4_begin_70 : decode cX4_begin 70 = .ok (.aload_n 0, 1) := by decide +kernel
theorem dX4_begin_71 : decode cX4_begin 71 = .ok (.getfield 23, 3) := by decide +kernel
theorem dX4_begin_74 : decode cX4_begin 74 = .ok (.goto 7, 3) := by decide +kernel
theorem dX4_begin_77 : decode cX4_begin 77 = .ok (.aload_n 0, 1) := by decide +kernel
theorem dX4_begin_78 : decode cX4_begin 78 = .ok (.getfield 27, 3) := by decide +kernel
theorem dX4_begin_81 : decode cX4_begin 81 = .ok (.astore_n 3, 1) := by decide +kernel
theorem dX4_begin_82 : decode cX4_begin 82 = .ok (.aload_n 3, 1) := by decide +kernel
theorem dX4_begin_83 : decode cX4_begin 83 = .ok (.iload_n 1, 1) := by decide +kernel
theorem dX4_begin_84 : decode cX4_begin 84 = .ok (.invokevirtual 66, 3) := by decide +kernel
theorem dX4_begin_87 : decode cX4_begin 87 = .ok (.aload_n 0, 1) := by decide +kernel
theorem dX4_begin_88 : decode cX4_begin 88 = .ok (.getfield 10, 3) := by decide +kernel
theorem dX4_begin_91 : decode cX4_begin 91 = .ok (.iload_n 1, 1) := by decide +kernel
theorem dX4_begin_92 : decode cX4_begin 92 = .ok (.iload_n 2, 1) := by decide +kernel
theorem dX4_begin_93 : decode cX4_begin 93 = .ok (.aload_n 3, 1) := by decide +kernel
theorem dX4_begin_94 : decode cX4_begin 94 = .ok (.invokevirtual 70, 3) := by decide +kernel
theorem dX4_begin_97 : decode cX4_begin 97 = .ok (.iload_n 1, 1) := by decide +kernel
theorem dX4_begin_98 : decode cX4_begin 98 = .ok (.iconst 0, 1) := by decide +kernel
theorem dX4_begin_99 : decode cX4_begin 99 = .ok (.invokestatic 74, 3) := by decide +kernel
theorem dX4_begin_102 : decode cX4_begin 102 = .ok (.ireturn, 1) := by decide +kernel
set_option maxRecDepth 20000 in
theorem ggX4_ask_X1_hasGuest : GoodIn wsX4_ask wsX1_hasGuest := goodIn_r _ [12, 13, 128, 129, 130, 131, 132, 133, 134, 135, 136, 137, 138, 139, 140, 141, 142, 143, 144] (by decide +kernel) (by decide +kernel)
set_option maxRecDepth 20000 in
theorem gX4_ask_X1_hasGuest : GoodIn wsX4_ask (wsV RX4 78 RX1 yX1_hasGuest wsX1_hasGuest) := goodIn_app (goodIn_of _ (by decide +kernel)) ggX4_ask_X1_hasGuest
set_option maxRecDepth 20000 in
theorem ggX4_ask_X4_isQuestion : GoodIn wsX4_ask wsX4_isQuestion := goodIn_r _ [17] (by decide +kernel) (by decide +kernel)
set_option maxRecDepth 20000 in
theorem gX4_ask_X4_isQuestion : GoodIn wsX4_ask (va_wsS RX4 87 yX4_isQuestion wsX4_isQuestion) := goodIn_app (goodIn_of _ (by decide +kernel)) ggX4_ask_X4_isQuestion
set_option maxRecDepth 20000 in
theorem ggX4_ask_X1_canAnswer : GoodIn wsX4_ask wsX1_canAnswer := goodIn_r _ [21, 22, 23, 24, 25, 26, 11, 27, 28, 29, 30, 9, 10, 12, 13, 128, 129, 130, 131, 132, 133, 134, 135, 136, 137, 138, 139, 140, 141, 142, 143, 144] (by decide +kernel) (by decide +kernel)
set_option maxRecDepth 20000 in
theorem gX4_ask_X1_canAnswer : GoodIn wsX4_ask (wsV RX4 92 RX1 yX1_canAnswer wsX1_canAnswer) := goodIn_app (goodIn_of _ (by decide +kernel)) ggX4_ask_X1_canAnswer
set_option maxRecDepth 20000 in
theorem ggX4_ask_X4_saveForUndo : GoodIn wsX4_ask wsX4_saveForUndo := goodIn_r _ [34, 35, 36, 7, 37, 38, 39, 16, 40, 41, 42, 43, 11, 44, 45, 13, 28, 46, 47, 48, 49, 29, 23, 50, 51, 52, 22, 53, 54, 55, 56, 57, 58, 59, 60, 61, 62, 63, 64, 65, 66, 67, 68, 69, 70, 71, 72, 73, 74, 75, 76, 77, 78, 79, 80, 81, 121, 122, 123, 124, 125, 126, 127, 128, 129, 130, 131, 132, 133, 134, 135, 136, 137, 138, 139, 140, 141, 142, 143, 144, 145, 146, 147, 148] (by decide +kernel) (by decide +kernel)
set_option maxRecDepth 20000 in
theorem gX4_ask_X4_saveForUndo : GoodIn wsX4_ask (wsV RX4 63 RX4 yX4_saveForUndo wsX4_saveForUndo) := goodIn_app (goodIn_of _ (by decide +kernel)) ggX4_ask_X4_saveForUndo
set_option maxRecDepth 20000 in
theorem ggX4_ask_X1_answerOf : GoodIn wsX4_ask wsX1_answerOf := goodIn_r _ [85, 23, 13, 22, 53, 54, 55, 56, 86, 87, 88, 11, 89, 50, 90, 91, 92, 93, 94, 95, 96, 97, 16, 98, 99, 100, 101, 102, 103, 70, 104, 72, 105, 106, 107, 108, 109, 110, 111, 74, 112, 75, 76, 77, 78, 79, 80, 81, 60, 61, 62, 113, 114, 115, 116, 117, 118, 119, 120, 128, 129, 130, 131, 132, 133, 134, 135, 136, 137, 138, 139, 140, 141, 142, 143, 144, 145, 146, 147, 148] (by decide +kernel) (by decide +kernel)
set_option maxRecDepth 20000 in
theorem gX4_ask_X1_answerOf : GoodIn wsX4_ask (wsV RX4 98 RX1 yX1_answerOf wsX1_answerOf) := goodIn_app (goodIn_of _ (by decide +kernel)) ggX4_ask_X1_answerOf
theorem dX4_ask_0 : decode cX4_ask 0 = .ok (.aload_n 0, 1) := by decide +kernel
theorem dX4_ask_1 : decode cX4_ask 1 = .ok (.getfield 10, 3) := by decide +kernel
theorem dX4_ask_4 : decode cX4_ask 4 = .ok (.iload_n 1, 1) := by decide +kernel
theorem dX4_ask_5 : decode cX4_ask 5 = .ok (.invokevirtual 78, 3) := by decide +kernel
theorem dX4_ask_8 : decode cX4_ask 8 = .ok (.ifCond .ne 13, 3) := by decide +kernel
theorem dX4_ask_11 : decode cX4_ask 11 = .ok (.new 82, 3) := by decide +kernel
theorem dX4_ask_14 : decode cX4_ask 14 = .ok (.dup, 1) := by decide +kernel
theorem dX4_ask_15 : decode cX4_ask 15 = .ok (.ldc 84, 2) := by decide +kernel
theorem dX4_ask_17 : decode cX4_ask 17 = .ok (.invokespecial 86, 3) := by decide +kernel
theorem dX4_ask_20 : decode cX4_ask 20 = .ok (.athrow, 1) := by decide +kernel
theorem dX4_ask_21 : decode cX4_ask 21 = .ok (.iload_n 2, 1) := by decide +kernel
theorem dX4_ask_22 : decode cX4_ask 22 = .ok (.invokestatic 87, 3) := by decide +kernel
theorem dX4_ask_25 : decode cX4_ask 25 = .ok (.ifCond .ne 13, 3) := by decide +kernel
theorem dX4_ask_28 : decode cX4_ask 28 = .ok (.new 44, 3) := by decide +kernel
theorem dX4_ask_31 : decode cX4_ask 31 = .ok (.dup, 1) := by decide +kernel
theorem dX4_ask_32 : decode cX4_ask 32 = .ok (.ldc 90, 2) := by decide +kernel
theorem dX4_ask_34 : decode cX4_ask 34 = .ok (.invokespecial 48, 3) := by decide +kernel
theorem dX4_ask_37 : decode cX4_ask 37 = .ok (.athrow, 1) := by decide +kernel
theorem dX4_ask_38 : decode cX4_ask 38 = .ok (.aload_n 0, 1) := by decide +kernel
theorem dX4_ask_39 : decode cX4_ask 39 = .ok (.getfield 10, 3) := by decide +kernel
theorem dX4_ask_42 : decode cX4_ask 42 = .ok (.iload_n 1, 1) := by decide +kernel
theorem dX4_ask_43 : decode cX4_ask 43 = .ok (.iload_n 3, 1) := by decide +kernel
theorem dX4_ask_44 : decode cX4_ask 44 = .ok (.invokevirtual 92, 3) := by decide +kernel
theorem dX4_ask_47 : decode cX4_ask 47 = .ok (.ifCond .ne 13, 3) := by decide +kernel
theorem dX4_ask_50 : decode cX4_ask 50 = .ok (.new 58, 3) := by decide +kernel
theorem dX4_ask_53 : decode cX4_ask 53 = .ok (.dup, 1) := by decide +kernel
theorem dX4_ask_54 : decode cX4_ask 54 = .ok (.ldc 96, 2) := by decide +kernel
theorem dX4_ask_56 : decode cX4_ask 56 = .ok (.invokespecial 62, 3) := by decide +kernel
theorem dX4_ask_59 : decode cX4_ask 59 = .ok (.athrow, 1) := by decide +kernel
theorem dX4_ask_60 : decode cX4_ask 60 = .ok (.aload_n 0, 1) := by decide +kernel
theorem dX4_ask_61 : decode cX4_ask 61 = .ok (.invokevirtual 63, 3) := by decide +kernel
theorem dX4_ask_64 : decode cX4_ask 64 = .ok (.aload_n 0, 1) := by decide +kernel
theorem dX4_ask_65 : decode cX4_ask 65 = .ok (.getfield 10, 3) := by decide +kernel
theorem dX4_ask_68 : decode cX4_ask 68 = .ok (.iload_n 1, 1) := by decide +kernel
theorem dX4_ask_69 : decode cX4_ask 69 = .ok (.iload_n 2, 1) := by decide +kernel
theorem dX4_ask_70 : decode cX4_ask 70 = .ok (.iload_n 3, 1) := by decide +kernel
theorem dX4_ask_71 : decode cX4_ask 71 = .ok (.invokevirtual 98, 3) := by decide +kernel
theorem dX4_ask_74 : decode cX4_ask 74 = .ok (.ireturn, 1) := by decide +kernel
set_option maxRecDepth 20000 in
theorem ggX4_prove_X1_hasGuest : GoodIn wsX4_prove wsX1_hasGuest := goodIn_r _ [10, 11, 107, 108, 109, 110, 111, 112, 113, 114, 115, 116, 117, 118, 119, 120, 121, 122, 123] (by decide +kernel) (by decide +kernel)
set_option maxRecDepth 20000 in
theorem gX4_prove_X1_hasGuest : GoodIn wsX4_prove (wsV RX4 78 RX1 yX1_hasGuest wsX1_hasGuest) := goodIn_app (goodIn_of _ (by decide +kernel)) ggX4_prove_X1_hasGuest
set_option maxRecDepth 20000 in
theorem ggX4_prove_X4_isCard : GoodIn wsX4_prove wsX4_isCard := goodIn_r _ [15] (by decide +kernel) (by decide +kernel)
set_option maxRecDepth 20000 in
theorem gX4_prove_X4_isCard : GoodIn wsX4_prove (va_wsS RX4 102 yX4_isCard wsX4_isCard) := goodIn_app (goodIn_of _ (by decide +kernel)) ggX4_prove_X4_isCard
set_option maxRecDepth 20000 in
theorem ggX4_prove_X1_isThere : GoodIn wsX4_prove wsX1_isThere := goodIn_r _ [19, 20, 21, 22, 7, 8, 9, 10, 11, 107, 108, 109, 110, 111, 112, 113, 114, 115, 116, 117, 118, 119, 120, 121, 122, 123] (by decide +kernel) (by decide +kernel)
set_option maxRecDepth 20000 in
theorem gX4_prove_X1_isThere : GoodIn wsX4_prove (wsV RX4 107 RX1 yX1_isThere wsX1_isThere) := goodIn_app (goodIn_of _ (by decide +kernel)) ggX4_prove_X1_isThere
set_option maxRecDepth 20000 in
theorem ggX4_prove_X4_saveForUndo : GoodIn wsX4_prove wsX4_saveForUndo := goodIn_r _ [26, 27, 28, 5, 29, 30, 31, 14, 32, 33, 34, 35, 9, 36, 37, 11, 20, 38, 39, 40, 41, 21, 42, 43, 44, 45, 46, 47, 48, 49, 50, 51, 52, 53, 54, 55, 56, 57, 58, 59, 60, 61, 62, 63, 64, 65, 66, 67, 68, 69, 70, 71, 72, 73, 74, 75, 100, 101, 102, 103, 104, 105, 106, 107, 108, 109, 110, 111, 112, 113, 114, 115, 116, 117, 118, 119, 120, 121, 122, 123, 124, 125, 126, 127] (by decide +kernel) (by decide +kernel)
set_option maxRecDepth 20000 in
theorem gX4_prove_X4_saveForUndo : GoodIn wsX4_prove (wsV RX4 63 RX4 yX4_saveForUndo wsX4_saveForUndo) := goodIn_app (goodIn_of _ (by decide +kernel)) ggX4_prove_X4_saveForUndo
set_option maxRecDepth 20000 in
theorem ggX4_prove_X1_proofOf : GoodIn wsX4_prove wsX1_proofOf := goodIn_r _ [79, 44, 45, 50, 80, 81, 82, 9, 83, 43, 84, 85, 86, 64, 87, 66, 88, 89, 90, 91, 92, 93, 94, 68, 95, 69, 70, 71, 72, 73, 74, 75, 54, 55, 56, 96, 97, 98, 99, 107, 108, 109, 110, 111, 112, 113, 114, 115, 116, 117, 118, 119, 120, 121, 122, 123, 124, 125, 126, 127] (by decide +kernel) (by decide +kernel)
set_option maxRecDepth 20000 in
theorem gX4_prove_X1_proofOf : GoodIn wsX4_prove (wsV RX4 112 RX1 yX1_proofOf wsX1_proofOf) := goodIn_app (goodIn_of _ (by decide +kernel)) ggX4_prove_X1_proofOf
theorem dX4_prove_0 : decode cX4_prove 0 = .ok (.aload_n 0, 1) := by decide +kernel
theorem dX4_prove_1 : decode cX4_prove 1 = .ok (.getfield 10, 3) := by decide +kernel
theorem dX4_prove_4 : decode cX4_prove 4 = .ok (.iload_n 1, 1) := by decide +kernel
theorem dX4_prove_5 : decode cX4_prove 5 = .ok (.invokevirtual 78, 3) := by decide +kernel
theorem dX4_prove_8 : decode cX4_prove 8 = .ok (.ifCond .eq 10, 3) := by decide +kernel
theorem dX4_prove_11 : decode cX4_prove 11 = .ok (.iload_n 2, 1) := by decide +kernel
theorem dX4_prove_12 : decode cX4_prove 12 = .ok (.invokestatic 102, 3) := by decide +kernel
theorem dX4_prove_15 : decode cX4_prove 15 = .ok (.ifCond .ne 13, 3) := by decide +kernel
theorem dX4_prove_18 : decode cX4_prove 18 = .ok (.new 82, 3) := by decide +kernel
theorem dX4_prove_21 : decode cX4_prove 21 = .ok (.dup, 1) := by decide +kernel
theorem dX4_prove_22 : decode cX4_prove 22 = .ok (.ldc 105, 2) := by decide +kernel
theorem dX4_prove_24 : decode cX4_prove 24 = .ok (.invokespecial 86, 3) := by decide +kernel
theorem dX4_prove_27 : decode cX4_prove 27 = .ok (.athrow, 1) := by decide +kernel
theorem dX4_prove_28 : decode cX4_prove 28 = .ok (.aload_n 0, 1) := by decide +kernel
theorem dX4_prove_29 : decode cX4_prove 29 = .ok (.getfield 10, 3) := by decide +kernel
theorem dX4_prove_32 : decode cX4_prove 32 = .ok (.iload_n 1, 1) := by decide +kernel
theorem dX4_prove_33 : decode cX4_prove 33 = .ok (.invokevirtual 107, 3) := by decide +kernel
theorem dX4_prove_36 : decode cX4_prove 36 = .ok (.ifCond .ne 13, 3) := by decide +kernel
theorem dX4_prove_39 : decode cX4_prove 39 = .ok (.new 58, 3) := by decide +kernel
theorem dX4_prove_42 : decode cX4_prove 42 = .ok (.dup, 1) := by decide +kernel
theorem dX4_prove_43 : decode cX4_prove 43 = .ok (.ldc 110, 2) := by decide +kernel
theorem dX4_prove_45 : decode cX4_prove 45 = .ok (.invokespecial 62, 3) := by decide +kernel
theorem dX4_prove_48 : decode cX4_prove 48 = .ok (.athrow, 1) := by decide +kernel
theorem dX4_prove_49 : decode cX4_prove 49 = .ok (.aload_n 0, 1) := by decide +kernel
theorem dX4_prove_50 : decode cX4_prove 50 = .ok (.invokevirtual 63, 3) := by decide +kernel
theorem dX4_prove_53 : decode cX4_prove 53 = .ok (.aload_n 0, 1) := by decide +kernel
theorem dX4_prove_54 : decode cX4_prove 54 = .ok (.getfield 10, 3) := by decide +kernel
theorem dX4_prove_57 : decode cX4_prove 57 = .ok (.iload_n 1, 1) := by decide +kernel
theorem dX4_prove_58 : decode cX4_prove 58 = .ok (.iload_n 2, 1) := by decide +kernel
theorem dX4_prove_59 : decode cX4_prove 59 = .ok (.invokevirtual 112, 3) := by decide +kernel
theorem dX4_prove_62 : decode cX4_prove 62 = .ok (.ireturn, 1) := by decide +kernel
set_option maxRecDepth 20000 in
theorem ggX4_leave_X1_hasGuest : GoodIn wsX4_leave wsX1_hasGuest := goodIn_r _ [10, 11, 91, 92, 93, 94, 95, 96, 97, 98, 99, 100, 101, 102, 103, 104, 105, 106, 107] (by decide +kernel) (by decide +kernel)
set_option maxRecDepth 20000 in
theorem gX4_leave_X1_hasGuest : GoodIn wsX4_leave (wsV RX4 78 RX1 yX1_hasGuest wsX1_hasGuest) := goodIn_app (goodIn_of _ (by decide +kernel)) ggX4_leave_X1_hasGuest
set_option maxRecDepth 20000 in
theorem ggX4_leave_X1_isThere : GoodIn wsX4_leave wsX1_isThere := goodIn_r _ [15, 16, 17, 18, 7, 8, 9, 10, 11, 91, 92, 93, 94, 95, 96, 97, 98, 99, 100, 101, 102, 103, 104, 105, 106, 107] (by decide +kernel) (by decide +kernel)
set_option maxRecDepth 20000 in
theorem gX4_leave_X1_isThere : GoodIn wsX4_leave (wsV RX4 107 RX1 yX1_isThere wsX1_isThere) := goodIn_app (goodIn_of _ (by decide +kernel)) ggX4_leave_X1_isThere
set_option maxRecDepth 20000 in
theorem ggX4_leave_X4_saveForUndo : GoodIn wsX4_leave wsX4_saveForUndo := goodIn_r _ [23, 24, 25, 5, 26, 27, 28, 22, 29, 30, 31, 32, 9, 33, 34, 11, 16, 35, 36, 37, 38, 17, 39, 40, 41, 42, 43, 44, 45, 46, 47, 48, 49, 50, 51, 52, 53, 54, 55, 56, 57, 58, 59, 60, 61, 62, 63, 64, 65, 66, 67, 68, 69, 70, 71, 72, 84, 85, 86, 87, 88, 89, 90, 91, 92, 93, 94, 95, 96, 97, 98, 99, 100, 101, 102, 103, 104, 105, 106, 107, 108, 109, 110, 111] (by decide +kernel) (by decide +kernel)
set_option maxRecDepth 20000 in
theorem gX4_leave_X4_saveForUndo : GoodIn wsX4_leave (wsV RX4 63 RX4 yX4_saveForUndo wsX4_saveForUndo) := goodIn_app (goodIn_of _ (by decide +kernel)) ggX4_leave_X4_saveForUndo
set_option maxRecDepth 20000 in
theorem ggX4_leave_X1_sendHome : GoodIn wsX4_leave wsX1_sendHome := goodIn_r _ [76, 17, 77, 78, 79, 80, 81, 82, 83, 91, 92, 93, 94, 95, 96, 97, 98, 99, 100, 101, 102, 103, 104, 105, 106, 107] (by decide +kernel) (by decide +kernel)
set_option maxRecDepth 20000 in
theorem gX4_leave_X1_sendHome : GoodIn wsX4_leave (wsV RX4 118 RX1 yX1_sendHome wsX1_sendHome) := goodIn_app (goodIn_of _ (by decide +kernel)) ggX4_leave_X1_sendHome
theorem dX4_leave_0 : decode cX4_leave 0 = .ok (.aload_n 0, 1) := by decide +kernel
theorem dX4_leave_1 : decode cX4_leave 1 = .ok (.getfield 10, 3) := by decide +kernel
theorem dX4_leave_4 : decode cX4_leave 4 = .ok (.iload_n 1, 1) := by decide +kernel
theorem dX4_leave_5 : decode cX4_leave 5 = .ok (.invokevirtual 78, 3) := by decide +kernel
theorem dX4_leave_8 : decode cX4_leave 8 = .ok (.ifCond .ne 13, 3) := by decide +kernel
theorem dX4_leave_11 : decode cX4_leave 11 = .ok (.new 82, 3) := by decide +kernel
theorem dX4_leave_14 : decode cX4_leave 14 = .ok (.dup, 1) := by decide +kernel
theorem dX4_leave_15 : decode cX4_leave 15 = .ok (.ldc 84, 2) := by decide +kernel
theorem dX4_leave_17 : decode cX4_leave 17 = .ok (.invokespecial 86, 3) := by decide +kernel
theorem dX4_leave_20 : decode cX4_leave 20 = .ok (.athrow, 1) := by decide +kernel
theorem dX4_leave_21 : decode cX4_leave 21 = .ok (.aload_n 0, 1) := by decide +kernel
theorem dX4_leave_22 : decode cX4_leave 22 = .ok (.getfield 10, 3) := by decide +kernel
theorem dX4_leave_25 : decode cX4_leave 25 = .ok (.iload_n 1, 1) := by decide +kernel
theorem dX4_leave_26 : decode cX4_leave 26 = .ok (.invokevirtual 107, 3) := by decide +kernel
theorem dX4_leave_29 : decode cX4_leave 29 = .ok (.ifCond .ne 13, 3) := by decide +kernel
theorem dX4_leave_32 : decode cX4_leave 32 = .ok (.new 58, 3) := by decide +kernel
theorem dX4_leave_35 : decode cX4_leave 35 = .ok (.dup, 1) := by decide +kernel
theorem dX4_leave_36 : decode cX4_leave 36 = .ok (.ldc 116, 2) := by decide +kernel
theorem dX4_leave_38 : decode cX4_leave 38 = .ok (.invokespecial 62, 3) := by decide +kernel
theorem dX4_leave_41 : decode cX4_leave 41 = .ok (.athrow, 1) := by decide +kernel
theorem dX4_leave_42 : decode cX4_leave 42 = .ok (.aload_n 0, 1) := by decide +kernel
theorem dX4_leave_43 : decode cX4_leave 43 = .ok (.invokevirtual 63, 3) := by decide +kernel
theorem dX4_leave_46 : decode cX4_leave 46 = .ok (.aload_n 0, 1) := by decide +kernel
theorem dX4_leave_47 : decode cX4_leave 47 = .ok (.getfield 10, 3) := by decide +kernel
theorem dX4_leave_50 : decode cX4_leave 50 = .ok (.iload_n 1, 1) := by decide +kernel
theorem dX4_leave_51 : decode cX4_leave 51 = .ok (.invokevirtual 118, 3) := by decide +kernel
theorem dX4_leave_54 : decode cX4_leave 54 = .ok (.ireturn, 1) := by decide +kernel
set_option maxRecDepth 20000 in
theorem ggX4_accuse_X4_isCard : GoodIn wsX4_accuse wsX4_isCard := goodIn_r _ [9] (by decide +kernel) (by decide +kernel)
set_option maxRecDepth 20000 in
theorem gX4_accuse_X4_isCard : GoodIn wsX4_accuse (va_wsS RX4 102 yX4_isCard wsX4_isCard) := goodIn_app (goodIn_of _ (by decide +kernel)) ggX4_accuse_X4_isCard
set_option maxRecDepth 20000 in
theorem ggX4_accuse_X4_saveForUndo : GoodIn wsX4_accuse wsX4_saveForUndo := goodIn_r _ [13, 14, 15, 5, 16, 17, 18, 8, 19, 20, 21, 22, 23, 24, 25, 26, 27, 28, 29, 30, 31, 32, 33, 34, 35, 36, 37, 38, 39, 40, 41, 42, 43, 44, 45, 46, 47, 48, 49, 50, 51, 52, 53, 54, 55, 56, 57, 58, 59, 60, 61, 62, 63, 64, 65, 66, 71, 72, 73, 74, 75, 76, 77, 78, 79, 80, 81, 82, 83, 84, 85, 86, 87, 88, 89, 90, 91, 92, 93, 94, 95, 96, 97, 98] (by decide +kernel) (by decide +kernel)
set_option maxRecDepth 20000 in
theorem gX4_accuse_X4_saveForUndo : GoodIn wsX4_accuse (wsV RX4 63 RX4 yX4_saveForUndo wsX4_saveForUndo) := goodIn_app (goodIn_of _ (by decide +kernel)) ggX4_accuse_X4_saveForUndo
set_option maxRecDepth 20000 in
theorem ggX4_accuse_X1_close : GoodIn wsX4_accuse wsX1_close := goodIn_r _ [70, 27, 29, 28, 30, 31, 37, 78, 79, 80, 81, 82, 83, 84, 85, 86, 87, 88, 89, 90, 91, 92, 93, 94] (by decide +kernel) (by decide +kernel)
set_option maxRecDepth 20000 in
theorem gX4_accuse_X1_close : GoodIn wsX4_accuse (wsV RX4 126 RX1 yX1_close wsX1_close) := goodIn_app (goodIn_of _ (by decide +kernel)) ggX4_accuse_X1_close
