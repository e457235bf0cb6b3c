theorem dX4_likeliest_26 : decode cX4_likeliest 26 = .ok (.iload 4, 2) := by decide +kernel
theorem dX4_likeliest_28 : decode cX4_likeliest 28 = .ok (.iload_n 2, 1) := by decide +kernel
theorem dX4_likeliest_29 : decode cX4_likeliest 29 = .ok (.if_icmp .le 8, 3) := by decide +kernel
theorem dX4_likeliest_32 : decode cX4_likeliest 32 = .ok (.iload 4, 2) := by decide +kernel
theorem dX4_likeliest_34 : decode cX4_likeliest 34 = .ok (.istore_n 2, 1) := by decide +kernel
theorem dX4_likeliest_35 : decode cX4_likeliest 35 = .ok (.iload_n 3, 1) := by decide +kernel
theorem dX4_likeliest_36 : decode cX4_likeliest 36 = .ok (.istore_n 1, 1) := by decide +kernel
theorem dX4_likeliest_37 : decode cX4_likeliest 37 = .ok (.iinc 3 1, 3) := by decide +kernel
theorem dX4_likeliest_40 : decode cX4_likeliest 40 = .ok (.goto (-34), 3) := by decide +kernel
theorem dX4_likeliest_43 : decode cX4_likeliest 43 = .ok (.iload_n 1, 1) := by decide +kernel
theorem dX4_likeliest_44 : decode cX4_likeliest 44 = .ok (.ireturn, 1) := by decide +kernel
set_option maxRecDepth 20000 in
theorem ggX4_chance_X4_isCard : GoodIn wsX4_chance wsX4_isCard := goodIn_r _ [7] (by decide +kernel) (by decide +kernel)
set_option maxRecDepth 20000 in
theorem gX4_chance_X4_isCard : GoodIn wsX4_chance (va_wsS RX4 102 yX4_isCard wsX4_isCard) := goodIn_app (goodIn_of _ (by decide +kernel)) ggX4_chance_X4_isCard
set_option maxRecDepth 20000 in
theorem ggX4_chance_X0_countWith : GoodIn wsX4_chance wsX0_countWith := goodIn_r _ [12, 13, 14, 15, 11, 16, 17, 18, 19, 20, 21, 22, 23, 24, 25, 53, 54, 55, 56] (by decide +kernel) (by decide +kernel)
set_option maxRecDepth 20000 in
theorem gX4_chance_X0_countWith : GoodIn wsX4_chance (wsV RX4 152 RX0 yX0_countWith wsX0_countWith) := goodIn_app (goodIn_of _ (by decide +kernel)) ggX4_chance_X0_countWith
set_option maxRecDepth 20000 in
theorem ggX4_chance_X4_share : GoodIn wsX4_chance wsX4_share := goodIn_r _ [28] (by decide +kernel) (by decide +kernel)
set_option maxRecDepth 20000 in
theorem gX4_chance_X4_share : GoodIn wsX4_chance (va_wsS RX4 158 yX4_share wsX4_share) := goodIn_app (goodIn_of _ (by decide +kernel)) ggX4_chance_X4_share
theorem dX4_chance_0 : decode cX4_chance 0 = .ok (.iload_n 1, 1) := by decide +kernel
theorem dX4_chance_1 : decode cX4_chance 1 = .ok (.invokestatic 102, 3) := by decide +kernel
theorem dX4_chance_4 : decode cX4_chance 4 = .ok (.ifCond .ne 13, 3) := by decide +kernel
theorem dX4_chance_7 : decode cX4_chance 7 = .ok (.new 82, 3) := by decide +kernel
theorem dX4_chance_10 : decode cX4_chance 10 = .ok (.dup, 1) := by decide +kernel
theorem dX4_chance_11 : decode cX4_chance 11 = .ok (.ldc 122, 2) := by decide +kernel
theorem dX4_chance_13 : decode cX4_chance 13 = .ok (.invokespecial 86, 3) := by decide +kernel
theorem dX4_chance_16 : decode cX4_chance 16 = .ok (.athrow, 1) := by decide +kernel
theorem dX4_chance_17 : decode cX4_chance 17 = .ok (.aload_n 0, 1) := by decide +kernel
theorem dX4_chance_18 : decode cX4_chance 18 = .ok (.getfield 10, 3) := by decide +kernel
theorem dX4_chance_21 : decode cX4_chance 21 = .ok (.getfield 146, 3) := by decide +kernel
theorem dX4_chance_24 : decode cX4_chance 24 = .ok (.iconst 4, 1) := by decide +kernel
theorem dX4_chance_25 : decode cX4_chance 25 = .ok (.iload_n 1, 1) := by decide +kernel
theorem dX4_chance_26 : decode cX4_chance 26 = .ok (.invokevirtual 152, 3) := by decide +kernel
theorem dX4_chance_29 : decode cX4_chance 29 = .ok (.aload_n 0, 1) := by decide +kernel
theorem dX4_chance_30 : decode cX4_chance 30 = .ok (.getfield 10, 3) := by decide +kernel
theorem dX4_chance_33 : decode cX4_chance 33 = .ok (.getfield 146, 3) := by decide +kernel
theorem dX4_chance_36 : decode cX4_chance 36 = .ok (.getfield 149, 3) := by decide +kernel
theorem dX4_chance_39 : decode cX4_chance 39 = .ok (.invokestatic 158, 3) := by decide +kernel
theorem dX4_chance_42 : decode cX4_chance 42 = .ok (.dreturn, 1) := by decide +kernel
set_option maxRecDepth 20000 in
theorem ggX4_dealsIf_X1_hasGuest : GoodIn wsX4_dealsIf wsX1_hasGuest := goodIn_r _ [11, 12, 58, 59, 60, 61, 62, 63, 64, 65, 66, 67, 68, 69, 70, 71, 72, 73, 74] (by decide +kernel) (by decide +kernel)
set_option maxRecDepth 20000 in
theorem gX4_dealsIf_X1_hasGuest : GoodIn wsX4_dealsIf (wsV RX4 78 RX1 yX1_hasGuest wsX1_hasGuest) := goodIn_app (goodIn_of _ (by decide +kernel)) ggX4_dealsIf_X1_hasGuest
set_option maxRecDepth 20000 in
theorem ggX4_dealsIf_X4_isQuestion : GoodIn wsX4_dealsIf wsX4_isQuestion := goodIn_r _ [16] (by decide +kernel) (by decide +kernel)
set_option maxRecDepth 20000 in
theorem gX4_dealsIf_X4_isQuestion : GoodIn wsX4_dealsIf (va_wsS RX4 87 yX4_isQuestion wsX4_isQuestion) := goodIn_app (goodIn_of _ (by decide +kernel)) ggX4_dealsIf_X4_isQuestion
set_option maxRecDepth 20000 in
theorem ggX4_dealsIf_X2_lookAt : GoodIn wsX4_dealsIf wsX2_lookAt := goodIn_r _ [21, 22, 23, 24, 25, 26, 27, 28, 29, 30, 31, 32, 33, 34, 35, 36, 37, 38, 39, 75, 76, 77, 78, 79, 80, 81] (by decide +kernel) (by decide +kernel)
set_option maxRecDepth 20000 in
theorem gX4_dealsIf_X2_lookAt : GoodIn wsX4_dealsIf (wsV RX4 164 RX2 yX2_lookAt wsX2_lookAt) := goodIn_app (goodIn_of _ (by decide +kernel)) ggX4_dealsIf_X2_lookAt
set_option maxRecDepth 20000 in
theorem ggX4_dealsIf_X2_leftBehind : GoodIn wsX4_dealsIf wsX2_leftBehind := goodIn_r _ [43, 22, 23, 44, 45, 46, 47, 48, 49, 50, 75, 76, 77] (by decide +kernel) (by decide +kernel)
set_option maxRecDepth 20000 in
theorem gX4_dealsIf_X2_leftBehind : GoodIn wsX4_dealsIf (wsV RX4 168 RX2 yX2_leftBehind wsX2_leftBehind) := goodIn_app (goodIn_of _ (by decide +kernel)) ggX4_dealsIf_X2_leftBehind
theorem dX4_dealsIf_0 : decode cX4_dealsIf 0 = .ok (.aload_n 0, 1) := by decide +kernel
theorem dX4_dealsIf_1 : decode cX4_dealsIf 1 = .ok (.getfield 10, 3) := by decide +kernel
theorem dX4_dealsIf_4 : decode cX4_dealsIf 4 = .ok (.iload_n 1, 1) := by decide +kernel
theorem dX4_dealsIf_5 : decode cX4_dealsIf 5 = .ok (.invokevirtual 78, 3) := by decide +kernel
theorem dX4_dealsIf_8 : decode cX4_dealsIf 8 = .ok (.ifCond .ne 13, 3) := by decide +kernel
theorem dX4_dealsIf_11 : decode cX4_dealsIf 11 = .ok (.new 82, 3) := by decide +kernel
theorem dX4_dealsIf_14 : decode cX4_dealsIf 14 = .ok (.dup, 1) := by decide +kernel
theorem dX4_dealsIf_15 : decode cX4_dealsIf 15 = .ok (.ldc 84, 2) := by decide +kernel
theorem dX4_dealsIf_17 : decode cX4_dealsIf 17 = .ok (.invokespecial 86, 3) := by decide +kernel
theorem dX4_dealsIf_20 : decode cX4_dealsIf 20 = .ok (.athrow, 1) := by decide +kernel
theorem dX4_dealsIf_21 : decode cX4_dealsIf 21 = .ok (.iload_n 2, 1) := by decide +kernel
theorem dX4_dealsIf_22 : decode cX4_dealsIf 22 = .ok (.invokestatic 87, 3) := by decide +kernel
theorem dX4_dealsIf_25 : decode cX4_dealsIf 25 = .ok (.ifCond .ne 13, 3) := by decide +kernel
theorem dX4_dealsIf_28 : decode cX4_dealsIf 28 = .ok (.new 44, 3) := by decide +kernel
theorem dX4_dealsIf_31 : decode cX4_dealsIf 31 = .ok (.dup, 1) := by decide +kernel
theorem dX4_dealsIf_32 : decode cX4_dealsIf 32 = .ok (.ldc 90, 2) := by decide +kernel
theorem dX4_dealsIf_34 : decode cX4_dealsIf 34 = .ok (.invokespecial 48, 3) := by decide +kernel
theorem dX4_dealsIf_37 : decode cX4_dealsIf 37 = .ok (.athrow, 1) := by decide +kernel
theorem dX4_dealsIf_38 : decode cX4_dealsIf 38 = .ok (.iload_n 3, 1) := by decide +kernel
theorem dX4_dealsIf_39 : decode cX4_dealsIf 39 = .ok (.ifCond .lt 9, 3) := by decide +kernel
theorem dX4_dealsIf_42 : decode cX4_dealsIf 42 = .ok (.iload_n 3, 1) := by decide +kernel
theorem dX4_dealsIf_43 : decode cX4_dealsIf 43 = .ok (.bipush 8, 2) := by decide +kernel
theorem dX4_dealsIf_45 : decode cX4_dealsIf 45 = .ok (.if_icmp .le 13, 3) := by decide +kernel
theorem dX4_dealsIf_48 : decode cX4_dealsIf 48 = .ok (.new 44, 3) := by decide +kernel
theorem dX4_dealsIf_51 : decode cX4_dealsIf 51 = .ok (.dup, 1) := by decide +kernel
theorem dX4_dealsIf_52 : decode cX4_dealsIf 52 = .ok (.ldc 162, 2) := by decide +kernel
theorem dX4_dealsIf_54 : decode cX4_dealsIf 54 = .ok (.invokespecial 48, 3) := by decide +kernel
theorem dX4_dealsIf_57 : decode cX4_dealsIf 57 = .ok (.athrow, 1) := by decide +kernel
theorem dX4_dealsIf_58 : decode cX4_dealsIf 58 = .ok (.aload_n 0, 1) := by decide +kernel
theorem dX4_dealsIf_59 : decode cX4_dealsIf 59 = .ok (.getfield 33, 3) := by decide +kernel
theorem dX4_dealsIf_62 : decode cX4_dealsIf 62 = .ok (.aload_n 0, 1) := by decide +kernel
theorem dX4_dealsIf_63 : decode cX4_dealsIf 63 = .ok (.getfield 10, 3) := by decide +kernel
theorem dX4_dealsIf_66 : decode cX4_dealsIf 66 = .ok (.getfield 146, 3) := by decide +kernel
theorem dX4_dealsIf_69 : decode cX4_dealsIf 69 = .ok (.iload_n 1, 1) := by decide +kernel
theorem dX4_dealsIf_70 : decode cX4_dealsIf 70 = .ok (.invokevirtual 164, 3) := by decide +kernel
theorem dX4_dealsIf_73 : decode cX4_dealsIf 73 = .ok (.aload_n 0, 1) := by decide +kernel
theorem dX4_dealsIf_74 : decode cX4_dealsIf 74 = .ok (.getfield 33, 3) := by decide +kernel
theorem dX4_dealsIf_77 : decode cX4_dealsIf 77 = .ok (.iload_n 2, 1) := by decide +kernel
theorem dX4_dealsIf_78 : decode cX4_dealsIf 78 = .ok (.iload_n 3, 1) := by decide +kernel
theorem dX4_dealsIf_79 : decode cX4_dealsIf 79 = .ok (.invokevirtual 168, 3) := by decide +kernel
theorem dX4_dealsIf_82 : decode cX4_dealsIf 82 = .ok (.ireturn, 1) := by decide +kernel
set_option maxRecDepth 20000 in
theorem ggX4_worst_X1_hasGuest : GoodIn wsX4_worst wsX1_hasGuest := goodIn_r _ [11, 12, 62, 63, 64, 65, 66, 67, 68, 69, 70, 71, 72, 73, 74, 75, 76, 77, 78] (by decide +kernel) (by decide +kernel)
set_option maxRecDepth 20000 in
theorem gX4_worst_X1_hasGuest : GoodIn wsX4_worst (wsV RX4 78 RX1 yX1_hasGuest wsX1_hasGuest) := goodIn_app (goodIn_of _ (by decide +kernel)) ggX4_worst_X1_hasGuest
set_option maxRecDepth 20000 in
theorem ggX4_worst_X4_isQuestion : GoodIn wsX4_worst wsX4_isQuestion := goodIn_r _ [16] (by decide +kernel) (by decide +kernel)
set_option maxRecDepth 20000 in
theorem gX4_worst_X4_isQuestion : GoodIn wsX4_worst (va_wsS RX4 87 yX4_isQuestion wsX4_isQuestion) := goodIn_app (goodIn_of _ (by decide +kernel)) ggX4_worst_X4_isQuestion
set_option maxRecDepth 20000 in
theorem ggX4_worst_X2_lookAt : GoodIn wsX4_worst wsX2_lookAt := goodIn_r _ [21, 22, 23, 24, 25, 26, 27, 28, 29, 30, 31, 32, 33, 34, 35, 36, 37, 38, 39, 79, 80, 81, 82, 83, 84, 85] (by decide +kernel) (by decide +kernel)
set_option maxRecDepth 20000 in
theorem gX4_worst_X2_lookAt : GoodIn wsX4_worst (wsV RX4 164 RX2 yX2_lookAt wsX2_lookAt) := goodIn_app (goodIn_of _ (by decide +kernel)) ggX4_worst_X2_lookAt
set_option maxRecDepth 20000 in
theorem ggX4_worst_X2_mostLeft : GoodIn wsX4_worst wsX2_mostLeft := goodIn_r _ [43, 44, 23, 45, 46, 35, 47, 22, 48, 49, 50, 51, 52, 53, 54, 79, 80, 81] (by decide +kernel) (by decide +kernel)
set_option maxRecDepth 20000 in
theorem gX4_worst_X2_mostLeft : GoodIn wsX4_worst (wsV RX4 171 RX2 yX2_mostLeft wsX2_mostLeft) := goodIn_app (goodIn_of _ (by decide +kernel)) ggX4_worst_X2_mostLeft
theorem dX4_worst_0 : decode cX4_worst 0 = .ok (.aload_n 0, 1) := by decide +kernel
theorem dX4_worst_1 : decode cX4_worst 1 = .ok (.getfield 10, 3) := by decide +kernel
theorem dX4_worst_4 : decode cX4_worst 4 = .ok (.iload_n 1, 1) := by decide +kernel
theorem dX4_worst_5 : decode cX4_worst 5 = .ok (.invokevirtual 78, 3) := by decide +kernel
theorem dX4_worst_8 : decode cX4_worst 8 = .ok (.ifCond .ne 13, 3) := by decide +kernel
theorem dX4_worst_11 : decode cX4_worst 11 = .ok (.new 82, 3) := by decide +kernel
theorem dX4_worst_14 : decode cX4_worst 14 = .ok (.dup, 1) := by decide +kernel
theorem dX4_worst_15 : decode cX4_worst 15 = .ok (.ldc 84, 2) := by decide +kernel
theorem dX4_worst_17 : decode cX4_worst 17 = .ok (.invokespecial 86, 3) := by decide +kernel
theorem dX4_worst_20 : decode cX4_worst 20 = .ok (.athrow, 1) := by decide +kernel
theorem dX4_worst_21 : decode cX4_worst 21 = .ok (.iload_n 2, 1) := by decide +kernel
theorem dX4_worst_22 : decode cX4_worst 22 = .ok (.invokestatic 87, 3) := by decide +kernel
theorem dX4_worst_25 : decode cX4_worst 25 = .ok (.ifCond .ne 13, 3) := by decide +kernel
theorem dX4_worst_28 : decode cX4_worst 28 = .ok (.new 44, 3) := by decide +kernel
theorem dX4_worst_31 : decode cX4_worst 31 = .ok (.dup, 1) := by decide +kernel
theorem dX4_worst_32 : decode cX4_worst 32 = .ok (.ldc 90, 2) := by decide +kernel
theorem dX4_worst_34 : decode cX4_worst 34 = .ok (.invokespecial 48, 3) := by decide +kernel
theorem dX4_worst_37 : decode cX4_worst 37 = .ok (.athrow, 1) := by decide +kernel
theorem dX4_worst_38 : decode cX4_worst 38 = .ok (.aload_n 0, 1) := by decide +kernel
theorem dX4_worst_39 : decode cX4_worst 39 = .ok (.getfield 33, 3) := by decide +kernel
theorem dX4_worst_42 : decode cX4_worst 42 = .ok (.aload_n 0, 1) := by decide +kernel
theorem dX4_worst_43 : decode cX4_worst 43 = .ok (.getfield 10, 3) := by decide +kernel
theorem dX4_worst_46 : decode cX4_worst 46 = .ok (.getfield 146, 3) := by decide +kernel
theorem dX4_worst_49 : decode cX4_worst 49 = .ok (.iload_n 1, 1) := by decide +kernel
theorem dX4_worst_50 : decode cX4_worst 50 = .ok (.invokevirtual 164, 3) := by decide +kernel
theorem dX4_worst_53 : decode cX4_worst 53 = .ok (.aload_n 0, 1) := by decide +kernel
theorem dX4_worst_54 : decode cX4_worst 54 = .ok (.getfield 33, 3) := by decide +kernel
theorem dX4_worst_57 : decode cX4_worst 57 = .ok (.iload_n 2, 1) := by decide +kernel
theorem dX4_worst_58 : decode cX4_worst 58 = .ok (.invokevirtual 171, 3) := by decide +kernel
theorem dX4_worst_61 : decode cX4_worst 61 = .ok (.ireturn, 1) := by decide +kernel
set_option maxRecDepth 20000 in
theorem ggX4_bestCards_X1_hasGuest : GoodIn wsX4_bestCards wsX1_hasGuest := goodIn_r _ [9, 10, 60, 61, 62, 63, 64, 65, 66, 67, 68, 69, 70, 71, 72, 73, 74, 75, 76] (by decide +kernel) (by decide +kernel)
set_option maxRecDepth 20000 in
theorem gX4_bestCards_X1_hasGuest : GoodIn wsX4_bestCards (wsV RX4 78 RX1 yX1_hasGuest wsX1_hasGuest) := goodIn_app (goodIn_of _ (by decide +kernel)) ggX4_bestCards_X1_hasGuest
set_option maxRecDepth 20000 in
theorem ggX4_bestCards_X2_lookAt : GoodIn wsX4_bestCards wsX2_lookAt := goodIn_r _ [15, 16, 17, 18, 19, 20, 21, 22, 23, 24, 25, 26, 27, 28, 29, 30, 31, 32, 33, 77, 78, 79, 80, 81, 82, 83] (by decide +kernel) (by decide +kernel)
set_option maxRecDepth 20000 in
theorem gX4_bestCards_X2_lookAt : GoodIn wsX4_bestCards (wsV RX4 164 RX2 yX2_lookAt wsX2_lookAt) := goodIn_app (goodIn_of _ (by decide +kernel)) ggX4_bestCards_X2_lookAt
set_option maxRecDepth 20000 in
theorem ggX4_bestCards_X2_bestQuestion : GoodIn wsX4_bestCards wsX2_bestQuestion := goodIn_r _ [37, 38, 39, 40, 14, 41, 42, 17, 43, 44, 29, 45, 16, 46, 47, 48, 49, 50, 51, 52, 77, 78, 79] (by decide +kernel) (by decide +kernel)
set_option maxRecDepth 20000 in
theorem gX4_bestCards_X2_bestQuestion : GoodIn wsX4_bestCards (wsV RX4 174 RX2 yX2_bestQuestion wsX2_bestQuestion) := goodIn_app (goodIn_of _ (by decide +kernel)) ggX4_bestCards_X2_bestQuestion
theorem dX4_bestCards_0 : decode cX4_bestCards 0 = .ok (.aload_n 0, 1) := by decide +kernel
theorem dX4_bestCards_1 : decode cX4_bestCards 1 = .ok (.getfield 10, 3) := by decide +kernel
theorem dX4_bestCards_4 : decode cX4_bestCards 4 = .ok (.iload_n 1, 1) := by decide +kernel
theorem dX4_bestCards_5 : decode cX4_bestCards 5 = .ok (.invokevirtual 78, 3) := by decide +kernel
theorem dX4_bestCards_8 : decode cX4_bestCards 8 = .ok (.ifCond .ne 13, 3) := by decide +kernel
theorem dX4_bestCards_11 : decode cX4_bestCards 11 = .ok (.new 82, 3) := by decide +kernel
theorem dX4_bestCards_14 : decode cX4_bestCards 14 = .ok (.dup, 1) := by decide +kernel
theorem dX4_bestCards_15 : decode cX4_bestCards 15 = .ok (.ldc 84, 2) := by decide +kernel
theorem dX4_bestCards_17 : decode cX4_bestCards 17 = .ok (.invokespecial 86, 3) := by decide +kernel
theorem dX4_bestCards_20 : decode cX4_bestCards 20 = .ok (.athrow, 1) := by decide +kernel
theorem dX4_bestCards_21 : decode cX4_bestCards 21 = .ok (.aload_n 0, 1) := by decide +kernel
theorem dX4_bestCards_22 : decode cX4_bestCards 22 = .ok (.getfield 33, 3) := by decide +kernel
theorem dX4_bestCards_25 : decode cX4_bestCards 25 = .ok (.aload_n 0, 1) := by decide +kernel
theorem dX4_bestCards_26 : decode cX4_bestCards 26 = .ok (.getfield 10, 3) := by decide +kernel
theorem dX4_bestCards_29 : decode cX4_bestCards 29 = .ok (.getfield 146, 3) := by decide +kernel
theorem dX4_bestCards_32 : decode cX4_bestCards 32 = .ok (.iload_n 1, 1) := by decide +kernel
theorem dX4_bestCards_33 : decode cX4_bestCards 33 = .ok (.invokevirtual 164, 3) := by decide +kernel
theorem dX4_bestCards_36 : decode cX4_bestCards 36 = .ok (.aload_n 0, 1) := by decide +kernel
theorem dX4_bestCards_37 : decode cX4_bestCards 37 = .ok (.getfield 33, 3) := by decide +kernel
theorem dX4_bestCards_40 : decode cX4_bestCards 40 = .ok (.invokevirtual 174, 3) := by decide +kernel
theorem dX4_bestCards_43 : decode cX4_bestCards 43 = .ok (.ireturn, 1) := by decide +kernel
set_option maxRecDepth 20000 in
theorem ggX4_leftByProof_X1_hasGuest : GoodIn wsX4_leftByProof wsX1_hasGuest := goodIn_r _ [8, 9, 42, 43, 44, 45, 46, 47, 48, 49, 50, 51, 52, 53, 54, 55, 56, 57, 58] (by decide +kernel) (by decide +kernel)
set_option maxRecDepth 20000 in
theorem gX4_leftByProof_X1_hasGuest : GoodIn wsX4_leftByProof (wsV RX4 78 RX1 yX1_hasGuest wsX1_hasGuest) := goodIn_app (goodIn_of _ (by decide +kernel)) ggX4_leftByProof_X1_hasGuest
set_option maxRecDepth 20000 in
theorem ggX4_leftByProof_X4_isCard : GoodIn wsX4_leftByProof wsX4_isCard := goodIn_r _ [13] (by decide +kernel) (by decide +kernel)
set_option maxRecDepth 20000 in
theorem gX4_leftByProof_X4_isCard : GoodIn wsX4_leftByProof (va_wsS RX4 102 yX4_isCard wsX4_isCard) := goodIn_app (goodIn_of _ (by decide +kernel)) ggX4_leftByProof_X4_isCard
set_option maxRecDepth 20000 in
theorem ggX4_leftByProof_X0_countWith : GoodIn wsX4_leftByProof wsX0_countWith := goodIn_r _ [18, 19, 20, 21, 17, 22, 23, 24, 25, 26, 27, 28, 29, 30, 31, 59, 60, 61, 62] (by decide +kernel) (by decide +kernel)
set_option maxRecDepth 20000 in
theorem gX4_leftByProof_X0_countWith : GoodIn wsX4_leftByProof (wsV RX4 152 RX0 yX0_countWith wsX0_countWith) := goodIn_app (goodIn_of _ (by decide +kernel)) ggX4_leftByProof_X0_countWith
set_option maxRecDepth 20000 in
theorem ggX4_leftByProof_X4_share : GoodIn wsX4_leftByProof wsX4_share := goodIn_r _ [34] (by decide +kernel) (by decide +kernel)
set_option maxRecDepth 20000 in
theorem gX4_leftByProof_X4_share : GoodIn wsX4_leftByProof (va_wsS RX4 158 yX4_share wsX4_share) := goodIn_app (goodIn_of _ (by decide +kernel)) ggX4_leftByProof_X4_share
theorem dX4_leftByProof_0 : decode cX4_leftByProof 0 = .ok (.aload_n 0, 1) := by decide +kernel
theorem dX4_leftByProof_1 : decode cX4_leftByProof 1 = .ok (.getfield 10, 3) := by decide +kernel
theorem dX4_leftByProof_4 : decode cX4_leftByProof 4 = .ok (.iload_n 1, 1) := by decide +kernel
theorem dX4_leftByProof_5 : decode cX4_leftByProof 5 = .ok (.invokevirtual 78, 3) := by decide +kernel
theorem dX4_leftByProof_8 : decode cX4_leftByProof 8 = .ok (.ifCond .eq 10, 3) := by decide +kernel
theorem dX4_leftByProof_11 : decode cX4_leftByProof 11 = .ok (.iload_n 2, 1) := by decide +kernel
theorem dX4_leftByProof_12 : decode cX4_leftByProof 12 = .ok (.invokestatic 102, 3) := by decide +kernel
theorem dX4_leftByProof_15 : decode cX4_leftByProof 15 = .ok (.ifCond .ne 13, 3) := by decide +kernel
theorem dX4_leftByProof_18 : decode cX4_leftByProof 18 = .ok (.new 82, 3) := by decide +kernel
theorem dX4_leftByProof_21 : decode cX4_leftByProof 21 = .ok (.dup, 1) := by decide +kernel
theorem dX4_leftByProof_22 : decode cX4_leftByProof 22 = .ok (.ldc 105, 2) := by decide +kernel
theorem dX4_leftByProof_24 : decode cX4_leftByProof 24 = .ok (.invokespecial 86, 3) := by decide +kernel
theorem dX4_leftByProof_27 : decode cX4_leftByProof 27 = .ok (.athrow, 1) := by decide +kernel
theorem dX4_leftByProof_28 : decode cX4_leftByProof 28 = .ok (.aload_n 0, 1) := by decide +kernel
theorem dX4_leftByProof_29 : decode cX4_leftByProof 29 = .ok (.getfield 10, 3) := by decide +kernel
theorem dX4_leftByProof_32 : decode cX4_leftByProof 32 = .ok (.getfield 146, 3) := by decide +kernel
theorem dX4_leftByProof_35 : decode cX4_leftByProof 35 = .ok (.iload_n 1, 1) := by decide +kernel
theorem dX4_leftByProof_36 : decode cX4_leftByProof 36 = .ok (.iload_n 2, 1) := by decide +kernel
theorem dX4_leftByProof_37 : decode cX4_leftByProof 37 = .ok (.invokevirtual 152, 3) := by decide +kernel
theorem dX4_leftByProof_40 : decode cX4_leftByProof 40 = .ok (.istore_n 3, 1) := by decide +kernel
theorem dX4_leftByProof_41 : decode cX4_leftByProof 41 = .ok (.aload_n 0, 1) := by decide +kernel
theorem dX4_leftByProof_42 : decode cX4_leftByProof 42 = .ok (.getfield 10, 3) := by decide +kernel
theorem dX4_leftByProof_45 : decode cX4_leftByProof 45 = .ok (.getfield 146, 3) := by decide +kernel
theorem dX4_leftByProof_48 : decode cX4_leftByProof 48 = .ok (.getfield 149, 3) := by decide +kernel
theorem dX4_leftByProof_51 : decode cX4_leftByProof 51 = .ok (.iload_n 3, 1) := by decide +kernel
theorem dX4_leftByProof_52 : decode cX4_leftByProof 52 = .ok (.isub, 1) := by decide +kernel
theorem dX4_leftByProof_53 : decode cX4_leftByProof 53 = .ok (.istore 4, 2) := by decide +kernel
theorem dX4_leftByProof_55 : decode cX4_leftByProof 55 = .ok (.iload_n 3, 1) := by decide +kernel
theorem dX4_leftByProof_56 : decode cX4_leftByProof 56 = .ok (.iload_n 3, 1) := by decide +kernel
theorem dX4_leftByProof_57 : decode cX4_leftByProof 57 = .ok (.imul, 1) := by decide +kernel
theorem dX4_leftByProof_58 : decode cX4_leftByProof 58 = .ok (.iload 4, 2) := by decide +kernel
theorem dX4_leftByProof_60 : decode cX4_leftByProof 60 = .ok (.iload 4, 2) := by decide +kernel
theorem dX4_leftByProof_62 : decode cX4_leftByProof 62 = .ok (.imul, 1) := by decide +kernel
theorem dX4_leftByProof_63 : decode cX4_leftByProof 63 = .ok (.iadd, 1) := by decide +kernel
theorem dX4_leftByProof_64 : decode cX4_leftByProof 64 = .ok (.aload_n 0, 1) := by decide +kernel
theorem dX4_leftByProof_65 : decode cX4_leftByProof 65 = .ok (.getfield 10, 3) := by decide +kernel
theorem dX4_leftByProof_68 : decode cX4_leftByProof 68 = .ok (.getfield 146, 3) := by decide +kernel
theorem dX4_leftByProof_71 : decode cX4_leftByProof 71 = .ok (.getfield 149, 3) := by decide +kernel
theorem dX4_leftByProof_74 : decode cX4_leftByProof 74 = .ok (.invokestatic 158, 3) := by decide +kernel
theorem dX4_leftByProof_77 : decode cX4_leftByProof 77 = .ok (.dreturn, 1) := by decide +kernel
set_option maxRecDepth 20000 in
theorem ggX4_append_X3_add : GoodIn wsX4_append wsX3_add := goodIn_r _ [10, 11, 12, 20, 21, 22, 23, 24, 25, 26] (by decide +kernel) (by decide +kernel)
set_option maxRecDepth 20000 in
theorem gX4_append_X3_add : GoodIn wsX4_append (wsV RX4 185 RX3 yX3_add wsX3_add) := goodIn_app (goodIn_of _ (by decide +kernel)) ggX4_append_X3_add
theorem dX4_append_0 : decode cX4_append 0 = .ok (.iload_n 1, 1) := by decide +kernel
theorem dX4_append_1 : decode cX4_append 1 = .ok (.ifCond .lt 9, 3) := by decide +kernel
theorem dX4_append_4 : decode cX4_append 4 = .ok (.iload_n 1, 1) := by decide +kernel
theorem dX4_append_5 : decode cX4_append 5 = .ok (.bipush 127, 2) := by decide +kernel
theorem dX4_append_7 : decode cX4_append 7 = .ok (.if_icmp .le 13, 3) := by decide +kernel
theorem dX4_append_10 : decode cX4_append 10 = .ok (.new 44, 3) := by decide +kernel
theorem dX4_append_13 : decode cX4_append 13 = .ok (.dup, 1) := by decide +kernel
theorem dX4_append_14 : decode cX4_append 14 = .ok (.ldc 178, 2) := by decide +kernel
theorem dX4_append_16 : decode cX4_append 16 = .ok (.invokespecial 48, 3) := by decide +kernel
theorem dX4_append_19 : decode cX4_append 19 = .ok (.athrow, 1) := by decide +kernel
theorem dX4_append_20 : decode cX4_append 20 = .ok (.aload_n 0, 1) := by decide +kernel
theorem dX4_append_21 : decode cX4_append 21 = .ok (.getfield 40, 3) := by decide +kernel
theorem dX4_append_24 : decode cX4_append 24 = .ok (.getfield 180, 3) := by decide +kernel
theorem dX4_append_27 : decode cX4_append 27 = .ok (.bipush 90, 2) := by decide +kernel
theorem dX4_append_29 : decode cX4_append 29 = .ok (.if_icmp .lt 13, 3) := by decide +kernel
theorem dX4_append_32 : decode cX4_append 32 = .ok (.new 58, 3) := by decide +kernel
theorem dX4_append_35 : decode cX4_append 35 = .ok (.dup, 1) := by decide +kernel
theorem dX4_append_36 : decode cX4_append 36 = .ok (.ldc 183, 2) := by decide +kernel
theorem dX4_append_38 : decode cX4_append 38 = .ok (.invokespecial 62, 3) := by decide +kernel
theorem dX4_append_41 : decode cX4_append 41 = .ok (.athrow, 1) := by decide +kernel
theorem dX4_append_42 : decode cX4_append 42 = .ok (.aload_n 0, 1) := by decide +kernel
theorem dX4_append_43 : decode cX4_append 43 = .ok (.getfield 40, 3) := by decide +kernel
theorem dX4_append_46 : decode cX4_append 46 = .ok (.iload_n 1, 1) := by decide +kernel
theorem dX4_append_47 : decode cX4_append 47 = .ok (.invokevirtual 185, 3) := by decide +kernel
theorem dX4_append_50 : decode cX4_append 50 = .ok (.ireturn, 1) := by decide +kernel
set_option maxRecDepth 20000 in
theorem ggX4_undo_X4_restore : GoodIn wsX4_undo wsX4_restore := goodIn_r _ [8, 3, 9, 10, 11, 12, 7, 13, 14, 15, 16, 17, 18, 19, 20, 21, 22, 23, 24, 25, 26, 27, 28, 29, 30, 31, 32, 33, 34, 35, 36, 37, 38, 39, 40, 41, 42, 43, 44, 45, 46, 47, 48, 49, 50, 51, 52, 53, 54, 55, 56, 57, 58, 59, 60, 61, 62, 63, 64, 65, 66, 67, 68, 69, 70, 71, 72, 73, 74, 75, 76, 77, 78, 79, 80, 81, 82, 83, 84, 85, 86, 87, 88, 89] (by decide +kernel) (by decide +kernel)
set_option maxRecDepth 20000 in
theorem gX4_undo_X4_restore : GoodIn wsX4_undo (wsV RX4 199 RX4 yX4_restore wsX4_restore) := goodIn_app (goodIn_of _ (by decide +kernel)) ggX4_undo_X4_restore
theorem dX4_undo_0 : decode cX4_undo 0 = .ok (.aload_n 0, 1) := by decide +kernel
theorem dX4_undo_1 : decode cX4_undo 1 = .ok (.getfield 194, 3) := by decide +kernel
theorem dX4_undo_4 : decode cX4_undo 4 = .ok (.ifCond .gt 13, 3) := by decide +kernel
theorem dX4_undo_7 : decode cX4_undo 7 = .ok (.new 58, 3) := by decide +kernel
theorem dX4_undo_10 : decode cX4_undo 10 = .ok (.dup, 1) := by decide +kernel
theorem dX4_undo_11 : decode cX4_undo 11 = .ok (.ldc 197, 2) := by decide +kernel
theorem dX4_undo_13 : decode cX4_undo 13 = .ok (.invokespecial 62, 3) := by decide +kernel
theorem dX4_undo_16 : decode cX4_undo 16 = .ok (.athrow, 1) := by decide +kernel
theorem dX4_undo_17 : decode cX4_undo 17 = .ok (.aload_n 0, 1) := by decide +kernel
theorem dX4_undo_18 : decode cX4_undo 18 = .ok (.dup, 1) := by decide +kernel
theorem dX4_undo_19 : decode cX4_undo 19 = .ok (.getfield 194, 3) := by decide +kernel
theorem dX4_undo_22 : decode cX4_undo 22 = .ok (.iconst 1, 1) := by decide +kernel
theorem dX4_undo_23 : decode cX4_undo 23 = .ok (.isub, 1) := by decide +kernel
theorem dX4_undo_24 : decode cX4_undo 24 = .ok (.putfield 194, 3) := by decide +kernel
theorem dX4_undo_27 : decode cX4_undo 27 = .ok (.aload_n 0, 1) := by decide +kernel
theorem dX4_undo_28 : decode cX4_undo 28 = .ok (.invokevirtual 199, 3) := by decide +kernel
theorem dX4_undo_31 : decode cX4_undo 31 = .ok (.aload_n 0, 1) := by decide +kernel
theorem dX4_undo_32 : decode cX4_undo 32 = .ok (.getfield 194, 3) := by decide +kernel
theorem dX4_undo_35 : decode cX4_undo 35 = .ok (.ireturn, 1) := by decide +kernel
set_option maxRecDepth 20000 in
theorem ggX4_saveForUndo_X4_savedAt : GoodIn wsX4_saveForUndo wsX4_savedAt := goodIn_r _ [8, 2, 56, 57, 58, 59, 60, 61, 62] (by decide +kernel) (by decide +kernel)
set_option maxRecDepth 20000 in
theorem gX4_saveForUndo_X4_savedAt : GoodIn wsX4_saveForUndo (wsV RX4 231 RX4 yX4_savedAt wsX4_savedAt) := goodIn_app (goodIn_of _ (by decide +kernel)) ggX4_saveForUndo_X4_savedAt
set_option maxRecDepth 20000 in
theorem ggX4_saveForUndo_X1_copyFrom : GoodIn wsX4_saveForUndo wsX1_copyFrom := goodIn_r _ [13, 14, 15, 16, 17, 18, 19, 20, 21, 22, 23, 24, 25, 26, 27, 28, 29, 30, 31, 7, 32, 33, 34, 35, 36, 37, 38, 39, 40, 41, 42, 43, 44, 45, 46, 47, 48, 49, 50, 51, 52, 53, 54, 55, 63, 64, 65, 66, 67, 68, 69, 70, 71, 72, 73, 74, 75, 76, 77, 78, 79, 80, 81, 82, 83] (by decide +kernel) (by decide +kernel)
set_option maxRecDepth 20000 in
theorem gX4_saveForUndo_X1_copyFrom : GoodIn wsX4_saveForUndo (wsV RX4 235 RX1 yX1_copyFrom wsX1_copyFrom) := goodIn_app (goodIn_of _ (by decide +kernel)) ggX4_saveForUndo_X1_copyFrom
theorem dX4_saveForUndo_0 : decode cX4_saveForUndo 0 = .ok (.aload_n 0, 1) := by decide +kernel
theorem dX4_saveForUndo_1 : decode cX4_saveForUndo 1 = .ok (.getfield 194, 3) := by decide +kernel
theorem dX4_saveForUndo_4 : decode cX4_saveForUndo 4 = .ok (.iconst 4, 1) := by decide +kernel
theorem dX4_saveForUndo_5 : decode cX4_saveForUndo 5 = .ok (.if_icmp .lt 49, 3) := by decide +kernel
theorem dX4_saveForUndo_8 : decode cX4_saveForUndo 8 = .ok (.aload_n 0, 1) := by decide +kernel
theorem dX4_saveForUndo_9 : decode cX4_saveForUndo 9 = .ok (.getfield 16, 3) := by decide +kernel
theorem dX4_saveForUndo_12 : decode cX4_saveForUndo 12 = .ok (.iconst 0, 1) := by decide +kernel
theorem dX4_saveForUndo_13 : decode cX4_saveForUndo 13 = .ok (.aaload, 1) := by decide +kernel
theorem dX4_saveForUndo_14 : decode cX4_saveForUndo 14 = .ok (.astore_n 1, 1) := by decide +kernel
theorem dX4_saveForUndo_15 : decode cX4_saveForUndo 15 = .ok (.iconst 1, 1) := by decide +kernel
theorem dX4_saveForUndo_16 : decode cX4_saveForUndo 16 = .ok (.istore_n 2, 1) := by decide +kernel
theorem dX4_saveForUndo_17 : decode cX4_saveForUndo 17 = .ok (.iload_n 2, 1) := by decide +kernel
theorem dX4_saveForUndo_18 : decode cX4_saveForUndo 18 = .ok (.iconst 4, 1) := by decide +kernel
theorem dX4_saveForUndo_19 : decode cX4_saveForUndo 19 = .ok (.if_icmp .ge 23, 3) := by decide +kernel
theorem dX4_saveForUndo_22 : decode cX4_saveForUndo 22 = .ok (.aload_n 0, 1) := by decide +kernel
theorem dX4_saveForUndo_23 : decode cX4_saveForUndo 23 = .ok (.getfield 16, 3) := by decide +kernel
theorem dX4_saveForUndo_26 : decode cX4_saveForUndo 26 = .ok (.iload_n 2, 1) := by decide +kernel
theorem dX4_saveForUndo_27 : decode cX4_saveForUndo 27 = .ok (.iconst 1, 1) := by decide +kernel
theorem dX4_saveForUndo_28 : decode cX4_saveForUndo 28 = .ok (.isub, 1) := by decide +kernel
theorem dX4_saveForUndo_29 : decode cX4_saveForUndo 29 = .ok (.aload_n 0, 1) := by decide +kernel
theorem dX4_saveForUndo_30 : decode cX4_saveForUndo 30 = .ok (.getfield 16, 3) := by decide +kernel
theorem dX4_saveForUndo_33 : decode cX4_saveForUndo 33 = .ok (.iload_n 2, 1) := by decide +kernel
theorem dX4_saveForUndo_34 : decode cX4_saveForUndo 34 = .ok (.aaload, 1) := by decide +kernel
theorem dX4_saveForUndo_35 : decode cX4_saveForUndo 35 = .ok (.aastore, 1) := by decide +kernel
theorem dX4_saveForUndo_36 : decode cX4_saveForUndo 36 = .ok (.iinc 2 1, 3) := by decide +kernel
theorem dX4_saveForUndo_39 : decode cX4_saveForUndo 39 = .ok (.goto (-22), 3) := by decide +kernel
theorem dX4_saveForUndo_42 : decode cX4_saveForUndo 42 = .ok (.aload_n 0, 1) := by decide +kernel
theorem dX4_saveForUndo_43 : decode cX4_saveForUndo 43 = .ok (.getfield 16, 3) := by decide +kernel
theorem dX4_saveForUndo_46 : decode cX4_saveForUndo 46 = .ok (.iconst 3, 1) := by decide +kernel
theorem dX4_saveForUndo_47 : decode cX4_saveForUndo 47 = .ok (.aload_n 1, 1) := by decide +kernel
theorem dX4_saveForUndo_48 : decode cX4_saveForUndo 48 = .ok (.aastore, 1) := by decide +kernel
theorem dX4_saveForUndo_49 : decode cX4_saveForUndo 49 = .ok (.aload_n 0, 1) := by decide +kernel
theorem dX4_saveForUndo_50 : decode cX4_saveForUndo 50 = .ok (.iconst 3, 1) := by decide +kernel
theorem dX4_saveForUndo_51 : decode cX4_saveForUndo 51 = .ok (.putfield 194, 3) := by decide +kernel
theorem dX4_saveForUndo_54 : decode cX4_saveForUndo 54 = .ok (.aload_n 0, 1) := by decide +kernel
theorem dX4_saveForUndo_55 : decode cX4_saveForUndo 55 = .ok (.aload_n 0, 1) := by decide +kernel
theorem dX4_saveForUndo_56 : decode cX4_saveForUndo 56 = .ok (.getfield 194, 3) := by decide +kernel
theorem dX4_saveForUndo_59 : decode cX4_saveForUndo 59 = .ok (.invokevirtual 231, 3) := by decide +kernel
theorem dX4_saveForUndo_62 : decode cX4_saveForUndo 62 = .ok (.astore_n 1, 1) := by decide +kernel
theorem dX4_saveForUndo_63 : decode cX4_saveForUndo 63 = .ok (.aload_n 1, 1) := by decide +kernel
theorem dX4_saveForUndo_64 : decode cX4_saveForUndo 64 = .ok (.ifnull 11, 3) := by decide +kernel
theorem dX4_saveForUndo_67 : decode cX4_saveForUndo 67 = .ok (.aload_n 1, 1) := by decide +kernel
theorem dX4_saveForUndo_68 : decode cX4_saveForUndo 68 = .ok (.aload_n 0, 1) := by decide +kernel
theorem dX4_saveForUndo_69 : decode cX4_saveForUndo 69 = .ok (.getfield 10, 3) := by decide +kernel
theorem dX4_saveForUndo_72 : decode cX4_saveForUndo 72 = .ok (.invokevirtual 235, 3) := by decide +kernel
theorem dX4_saveForUndo_75 : decode cX4_saveForUndo 75 = .ok (.aload_n 0, 1) := by decide +kernel
theorem dX4_saveForUndo_76 : decode cX4_saveForUndo 76 = .ok (.dup, 1) := by decide +kernel
theorem dX4_saveForUndo_77 : decode cX4_saveForUndo 77 = .ok (.getfield 194, 3) := by decide +kernel
theorem dX4_saveForUndo_80 : decode cX4_saveForUndo 80 = .ok (.iconst 1, 1) := by decide +kernel
theorem dX4_saveForUndo_81 : decode cX4_saveForUndo 81 = .ok (.iadd, 1) := by decide +kernel
theorem dX4_saveForUndo_82 : decode cX4_saveForUndo 82 = .ok (.putfield 194, 3) := by decide +kernel
theorem dX4_saveForUndo_85 : decode cX4_saveForUndo 85 = .ok (.return_, 1) := by decide +kernel
set_option maxRecDepth 20000 in
theorem ggX4_restore_X4_savedAt : GoodIn wsX4_restore wsX4_savedAt := goodIn_r _ [7, 8, 56, 57, 58, 59, 60, 61, 62] (by decide +kernel) (by decide +kernel)
set_option maxRecDepth 20000 in
theorem gX4_restore_X4_savedAt : GoodIn wsX4_restore (wsV RX4 231 RX4 yX4_savedAt wsX4_savedAt) := goodIn_app (goodIn_of _ (by decide +kernel)) ggX4_restore_X4_savedAt
set_option maxRecDepth 20000 in
theorem ggX4_restore_X1_copyFrom : GoodIn wsX4_restore wsX1_copyFrom := goodIn_r _ [13, 14, 15, 16, 17, 18, 19, 20, 21, 22, 23, 24, 25, 26, 27, 28, 29, 30, 31, 6, 32, 33, 34, 35, 36, 37, 38, 39, 40, 41, 42, 43, 44, 45, 46, 47, 48, 49, 50, 51, 52, 53, 54, 55, 63, 64, 65, 66, 67, 68, 69, 70, 71, 72, 73, 74, 75, 76, 77, 78, 79, 80, 81, 82, 83] (by decide +kernel) (by decide +kernel)
set_option maxRecDepth 20000 in
theorem gX4_restore_X1_copyFrom : GoodIn wsX4_restore (wsV RX4 235 RX1 yX1_copyFrom wsX1_copyFrom) := goodIn_app (goodIn_of _ (by decide +kernel)) ggX4_restore_X1_copyFrom
theorem dX4_restore_0 : decode cX4_restore 0 = .ok (.aload_n 0, 1) := by decide +kernel
theorem dX4_restore_1 : decode cX4_restore 1 = .ok (.aload_n 0, 1) := by decide +kernel
theorem dX4_restore_2 : decode cX4_restore 2 = .ok (.getfield 194, 3) := by decide +kernel
theorem dX4_restore_5 : decode cX4_restore 5 = .ok (.invokevirtual 231, 3) := by decide +kernel
theorem dX4_restore_8 : decode cX4_restore 8 = .ok (.astore_n 1, 1) := by decide +kernel
theorem dX4_restore_9 : decode cX4_restore 9 = .ok (.aload_n 1, 1) := by decide +kernel
theorem dX4_restore_10 : decode cX4_restore 10 = .ok (.ifnull 11, 3) := by decide +kernel
theorem dX4_restore_13 : decode cX4_restore 13 = .ok (.aload_n 0, 1) := by decide +kernel
theorem dX4_restore_14 : decode cX4_restore 14 = .ok (.getfield 10, 3) := by decide +kernel
theorem dX4_restore_17 : decode cX4_restore 17 = .ok (.aload_n 1, 1) := by decide +kernel
theorem dX4_restore_18 : decode cX4_restore 18 = .ok (.invokevirtual 235, 3) := by decide +kernel
theorem dX4_restore_21 : decode cX4_restore 21 = .ok (.return_, 1) := by decide +kernel
theorem dX4_savedAt_0 : decode cX4_savedAt 0 = .ok (.iload_n 1, 1) := by decide +kernel
theorem dX4_savedAt_1 : decode cX4_savedAt 1 = .ok (.ifCond .lt 21, 3) := by decide +kernel
theorem dX4_savedAt_4 : decode cX4_savedAt 4 = .ok (.iload_n 1, 1) := by decide +kernel
theorem dX4_savedAt_5 : decode cX4_savedAt 5 = .ok (.aload_n 0, 1) := by decide +kernel
theorem dX4_savedAt_6 : decode cX4_savedAt 6 = .ok (.getfield 16, 3) := by decide +kernel
theorem dX4_savedAt_9 : decode cX4_savedAt 9 = .ok (.arraylength, 1) := by decide +kernel
theorem dX4_savedAt_10 : decode cX4_savedAt 10 = .ok (.if_icmp .ge 12, 3) := by decide +kernel
theorem dX4_savedAt_13 : decode cX4_savedAt 13 = .ok (.aload_n 0, 1) := by decide +kernel
theorem dX4_savedAt_14 : decode cX4_savedAt 14 = .ok (.getfield 16, 3) := by decide +kernel
theorem dX4_savedAt_17 : decode cX4_savedAt 17 = .ok (.iload_n 1, 1) := by decide +kernel
theorem dX4_savedAt_18 : decode cX4_savedAt 18 = .ok (.aaload, 1) := by decide +kernel
theorem dX4_savedAt_19 : decode cX4_savedAt 19 = .ok (.goto 4, 3) := by decide +kernel
theorem dX4_savedAt_22 : decode cX4_savedAt 22 = .ok (.aconst_null, 1) := by decide +kernel
theorem dX4_savedAt_23 : decode cX4_savedAt 23 = .ok (.areturn, 1) := by decide +kernel
theorem dX4_isCard_0 : decode cX4_isCard 0 = .ok (.iload_n 0, 1) := by decide +kernel
theorem dX4_isCard_1 : decode cX4_isCard 1 = .ok (.ifCond .lt 13, 3) := by decide +kernel
theorem dX4_isCard_4 : decode cX4_isCard 4 = .ok (.iload_n 0, 1) := by decide +kernel
theorem dX4_isCard_5 : decode cX4_isCard 5 = .ok (.bipush 8, 2) := by decide +kernel
theorem dX4_isCard_7 : decode cX4_isCard 7 = .ok (.if_icmp .ge 7, 3) := by decide +kernel
theorem dX4_isCard_10 : decode cX4_isCard 10 = .ok (.iconst 1, 1) := by decide +kernel
theorem dX4_isCard_11 : decode cX4_isCard 11 = .ok (.goto 4, 3) := by decide +kernel
theorem dX4_isCard_14 : decode cX4_isCard 14 = .ok (.iconst 0, 1) := by decide +kernel
theorem dX4_isCard_15 : decode cX4_isCard 15 = .ok (.ireturn, 1) := by decide +kernel
theorem dX4_isQuestion_0 : decode cX4_isQuestion 0 = .ok (.iload_n 0, 1) := by decide +kernel
theorem dX4_isQuestion_1 : decode cX4_isQuestion 1 = .ok (.iconst 1, 1) := by decide +kernel
theorem dX4_isQuestion_2 : decode cX4_isQuestion 2 = .ok (.if_icmp .lt 14, 3) := by decide +kernel
theorem dX4_isQuestion_5 : decode cX4_isQuestion 5 = .ok (.iload_n 0, 1) := by decide +kernel
theorem dX4_isQuestion_6 : decode cX4_isQuestion 6 = .ok (.sipush 255, 3) := by decide +kernel
theorem dX4_isQuestion_9 : decode cX4_isQuestion 9 = .ok (.if_icmp .gt 7, 3) := by decide +kernel
theorem dX4_isQuestion_12 : decode cX4_isQuestion 12 = .ok (.iconst 1, 1) := by decide +kernel
theorem dX4_isQuestion_13 : decode cX4_isQuestion 13 = .ok (.goto 4, 3) := by decide +kernel
theorem dX4_isQuestion_16 : decode cX4_isQuestion 16 = .ok (.iconst 0, 1) := by decide +kernel
theorem dX4_isQuestion_17 : decode cX4_isQuestion 17 = .ok (.ireturn, 1) := by decide +kernel
theorem dX4_share_0 : decode cX4_share 0 = .ok (.iload_n 1, 1) := by decide +kernel
theorem dX4_share_1 : decode cX4_share 1 = .ok (.ifCond .ne 5, 3) := by decide +kernel
theorem dX4_share_4 : decode cX4_share 4 = .ok (.dconst 0, 1) := by decide +kernel
theorem dX4_share_5 : decode cX4_share 5 = .ok (.dreturn, 1) := by decide +kernel
theorem dX4_share_6 : decode cX4_share 6 = .ok (.iload_n 0, 1) := by decide +kernel
theorem dX4_share_7 : decode cX4_share 7 = .ok (.i2d, 1) := by decide +kernel
theorem dX4_share_8 : decode cX4_share 8 = .ok (.iload_n 1, 1) := by decide +kernel
theorem dX4_share_9 : decode cX4_share 9 = .ok (.i2d, 1) := by decide +kernel
theorem dX4_share_10 : decode cX4_share 10 = .ok (.ddiv, 1) := by decide +kernel
theorem dX4_share_11 : decode cX4_share 11 = .ok (.dreturn, 1) := by decide +kernel
theorem dX4_sizeOfHand_0 : decode cX4_sizeOfHand 0 = .ok (.iload_n 0, 1) := by decide +kernel
theorem dX4_sizeOfHand_1 : decode cX4_sizeOfHand 1 = .ok (.iconst 3, 1) := by decide +kernel
theorem dX4_sizeOfHand_2 : decode cX4_sizeOfHand 2 = .ok (.if_icmp .ne 9, 3) := by decide +kernel
theorem dX4_sizeOfHand_5 : decode cX4_sizeOfHand 5 = .ok (.getstatic 239, 3) := by decide +kernel
theorem dX4_sizeOfHand_8 : decode cX4_sizeOfHand 8 = .ok (.goto 6, 3) := by decide +kernel
theorem dX4_sizeOfHand_11 : decode cX4_sizeOfHand 11 = .ok (.getstatic 243, 3) := by decide +kernel
theorem dX4_sizeOfHand_14 : decode cX4_sizeOfHand 14 = .ok (.astore_n 2, 1) := by decide +kernel
theorem dX4_sizeOfHand_15 : decode cX4_sizeOfHand 15 = .ok (.iload_n 1, 1) := by decide +kernel
theorem dX4_sizeOfHand_16 : decode cX4_sizeOfHand 16 = .ok (.ifCond .lt 15, 3) := by decide +kernel
theorem dX4_sizeOfHand_19 : decode cX4_sizeOfHand 19 = .ok (.iload_n 1, 1) := by decide +kernel
theorem dX4_sizeOfHand_20 : decode cX4_sizeOfHand 20 = .ok (.aload_n 2, 1) := by decide +kernel
theorem dX4_sizeOfHand_21 : decode cX4_sizeOfHand 21 = .ok (.arraylength, 1) := by decide +kernel
theorem dX4_sizeOfHand_22 : decode cX4_sizeOfHand 22 = .ok (.if_icmp .ge 9, 3) := by decide +kernel
theorem dX4_sizeOfHand_25 : decode cX4_sizeOfHand 25 = .ok (.aload_n 2, 1) := by decide +kernel
theorem dX4_sizeOfHand_26 : decode cX4_sizeOfHand 26 = .ok (.iload_n 1, 1) := by decide +kernel
theorem dX4_sizeOfHand_27 : decode cX4_sizeOfHand 27 = .ok (.iaload, 1) := by decide +kernel
theorem dX4_sizeOfHand_28 : decode cX4_sizeOfHand 28 = .ok (.goto 4, 3) := by decide +kernel
theorem dX4_sizeOfHand_31 : decode cX4_sizeOfHand 31 = .ok (.iconst 0, 1) := by decide +kernel
theorem dX4_sizeOfHand_32 : decode cX4_sizeOfHand 32 = .ok (.ireturn, 1) := by decide +kernel
theorem dX4_copyRow_0 : decode cX4_copyRow 0 = .ok (.aload_n 0, 1) := by decide +kernel
theorem dX4_copyRow_1 : decode cX4_copyRow 1 = .ok (.iconst 0, 1) := by decide +kernel
theorem dX4_copyRow_2 : decode cX4_copyRow 2 = .ok (.aload_n 1, 1) := by decide +kernel
theorem dX4_copyRow_3 : decode cX4_copyRow 3 = .ok (.iconst 0, 1) := by decide +kernel
theorem dX4_copyRow_4 : decode cX4_copyRow 4 = .ok (.aload_n 0, 1) := by decide +kernel
theorem dX4_copyRow_5 : decode cX4_copyRow 5 = .ok (.arraylength, 1) := by decide +kernel
theorem dX4_copyRow_6 : decode cX4_copyRow 6 = .ok (.aload_n 1, 1) := by decide +kernel
theorem dX4_copyRow_7 : decode cX4_copyRow 7 = .ok (.arraylength, 1) := by decide +kernel
theorem dX4_copyRow_8 : decode cX4_copyRow 8 = .ok (.invokestatic 246, 3) := by decide +kernel
theorem dX4_copyRow_11 : decode cX4_copyRow 11 = .ok (.invokestatic 251, 3) := by decide +kernel
theorem dX4_copyRow_14 : decode cX4_copyRow 14 = .ok (.return_, 1) := by decide +kernel
theorem dJ6_bitCount_0f7a4_0 : decode cJ6_bitCount_0f7a4 0 = .ok (.iload_n 0, 1) := by decide +kernel
theorem dJ6_bitCount_0f7a4_1 : decode cJ6_bitCount_0f7a4 1 = .ok (.iload_n 0, 1) := by decide +kernel
theorem dJ6_bitCount_0f7a4_2 : decode cJ6_bitCount_0f7a4 2 = .ok (.iconst 1, 1) := by decide +kernel
theorem dJ6_bitCount_0f7a4_3 : decode cJ6_bitCount_0f7a4 3 = .ok (.iushr, 1) := by decide +kernel
theorem dJ6_bitCount_0f7a4_4 : decode cJ6_bitCount_0f7a4 4 = .ok (.ldc_w 265, 3) := by decide +kernel
theorem dJ6_bitCount_0f7a4_7 : decode cJ6_bitCount_0f7a4 7 = .ok (.iand, 1) := by decide +kernel
theorem dJ6_bitCount_0f7a4_8 : decode cJ6_bitCount_0f7a4 8 = .ok (.isub, 1) := by decide +kernel
theorem dJ6_bitCount_0f7a4_9 : decode cJ6_bitCount_0f7a4 9 = .ok (.istore_n 0, 1) := by decide +kernel
theorem dJ6_bitCount_0f7a4_10 : decode cJ6_bitCount_0f7a4 10 = .ok (.iload_n 0, 1) := by decide +kernel
theorem dJ6_bitCount_0f7a4_11 : decode cJ6_bitCount_0f7a4 11 = .ok (.ldc_w 266, 3) := by decide +kernel
theorem dJ6_bitCount_0f7a4_14 : decode cJ6_bitCount_0f7a4 14 = .ok (.iand, 1) := by decide +kernel
theorem dJ6_bitCount_0f7a4_15 : decode cJ6_bitCount_0f7a4 15 = .ok (.iload_n 0, 1) := by decide +kernel
theorem dJ6_bitCount_0f7a4_16 : decode cJ6_bitCount_0f7a4 16 = .ok (.iconst 2, 1) := by decide +kernel
theorem dJ6_bitCount_0f7a4_17 : decode cJ6_bitCount_0f7a4 17 = .ok (.iushr, 1) := by decide +kernel
theorem dJ6_bitCount_0f7a4_18 : decode cJ6_bitCount_0f7a4 18 = .ok (.ldc_w 266, 3) := by decide +kernel
theorem dJ6_bitCount_0f7a4_21 : decode cJ6_bitCount_0f7a4 21 = .ok (.iand, 1) := by decide +kernel
theorem dJ6_bitCount_0f7a4_22 : decode cJ6_bitCount_0f7a4 22 = .ok (.iadd, 1) := by decide +kernel
theorem dJ6_bitCount_0f7a4_23 : decode cJ6_bitCount_0f7a4 23 = .ok (.istore_n 0, 1) := by decide +kernel
theorem dJ6_bitCount_0f7a4_24 : decode cJ6_bitCount_0f7a4 24 = .ok (.iload_n 0, 1) := by decide +kernel
theorem dJ6_bitCount_0f7a4_25 : decode cJ6_bitCount_0f7a4 25 = .ok (.iload_n 0, 1) := by decide +kernel
theorem dJ6_bitCount_0f7a4_26 : decode cJ6_bitCount_0f7a4 26 = .ok (.iconst 4, 1) := by decide +kernel
theorem dJ6_bitCount_0f7a4_27 : decode cJ6_bitCount_0f7a4 27 = .ok (.iushr, 1) := by decide +kernel
theorem dJ6_bitCount_0f7a4_28 : decode cJ6_bitCount_0f7a4 28 = .ok (.iadd, 1) := by decide +kernel
theorem dJ6_bitCount_0f7a4_29 : decode cJ6_bitCount_0f7a4 29 = .ok (.ldc_w 267, 3) := by decide +kernel
theorem dJ6_bitCount_0f7a4_32 : decode cJ6_bitCount_0f7a4 32 = .ok (.iand, 1) := by decide +kernel
theorem dJ6_bitCount_0f7a4_33 : decode cJ6_bitCount_0f7a4 33 = .ok (.istore_n 0, 1) := by decide +kernel
theorem dJ6_bitCount_0f7a4_34 : decode cJ6_bitCount_0f7a4 34 = .ok (.iload_n 0, 1) := by decide +kernel
theorem dJ6_bitCount_0f7a4_35 : decode cJ6_bitCount_0f7a4 35 = .ok (.iload_n 0, 1) := by decide +kernel
theorem dJ6_bitCount_0f7a4_36 : decode cJ6_bitCount_0f7a4 36 = .ok (.bipush 8, 2) := by decide +kernel
theorem dJ6_bitCount_0f7a4_38 : decode cJ6_bitCount_0f7a4 38 = .ok (.iushr, 1) := by decide +kernel
theorem dJ6_bitCount_0f7a4_39 : decode cJ6_bitCount_0f7a4 39 = .ok (.iadd, 1) := by decide +kernel
theorem dJ6_bitCount_0f7a4_40 : decode cJ6_bitCount_0f7a4 40 = .ok (.istore_n 0, 1) := by decide +kernel
theorem dJ6_bitCount_0f7a4_41 : decode cJ6_bitCount_0f7a4 41 = .ok (.iload_n 0, 1) := by decide +kernel
theorem dJ6_bitCount_0f7a4_42 : decode cJ6_bitCount_0f7a4 42 = .ok (.iload_n 0, 1) := by decide +kernel
theorem dJ6_bitCount_0f7a4_43 : decode cJ6_bitCount_0f7a4 43 = .ok (.bipush 16, 2) := by decide +kernel
theorem dJ6_bitCount_0f7a4_45 : decode cJ6_bitCount_0f7a4 45 = .ok (.iushr, 1) := by decide +kernel
theorem dJ6_bitCount_0f7a4_46 : decode cJ6_bitCount_0f7a4 46 = .ok (.iadd, 1) := by decide +kernel
theorem dJ6_bitCount_0f7a4_47 : decode cJ6_bitCount_0f7a4 47 = .ok (.istore_n 0, 1) := by decide +kernel
theorem dJ6_bitCount_0f7a4_48 : decode cJ6_bitCount_0f7a4 48 = .ok (.iload_n 0, 1) := by decide +kernel
theorem dJ6_bitCount_0f7a4_49 : decode cJ6_bitCount_0f7a4 49 = .ok (.bipush 63, 2) := by decide +kernel
theorem dJ6_bitCount_0f7a4_51 : decode cJ6_bitCount_0f7a4 51 = .ok (.iand, 1) := by decide +kernel
theorem dJ6_bitCount_0f7a4_52 : decode cJ6_bitCount_0f7a4 52 = .ok (.ireturn, 1) := by decide +kernel
theorem dJ9_max_7cf53_0 : decode cJ9_max_7cf53 0 = .ok (.iload_n 0, 1) := by decide +kernel
theorem dJ9_max_7cf53_1 : decode cJ9_max_7cf53 1 = .ok (.iload_n 1, 1) := by decide +kernel
theorem dJ9_max_7cf53_2 : decode cJ9_max_7cf53 2 = .ok (.if_icmp .lt 7, 3) := by decide +kernel
theorem dJ9_max_7cf53_5 : decode cJ9_max_7cf53 5 = .ok (.iload_n 0, 1) := by decide +kernel
theorem dJ9_max_7cf53_6 : decode cJ9_max_7cf53 6 = .ok (.goto 4, 3) := by decide +kernel
theorem dJ9_max_7cf53_9 : decode cJ9_max_7cf53 9 = .ok (.iload_n 1, 1) := by decide +kernel
theorem dJ9_max_7cf53_10 : decode cJ9_max_7cf53 10 = .ok (.ireturn, 1) := by decide +kernel
theorem dJ9_min_7cf53_0 : decode cJ9_min_7cf53 0 = .ok (.iload_n 0, 1) := by decide +kernel
theorem dJ9_min_7cf53_1 : decode cJ9_min_7cf53 1 = .ok (.iload_n 1, 1) := by decide +kernel
theorem dJ9_min_7cf53_2 : decode cJ9_min_7cf53 2 = .ok (.if_icmp .gt 7, 3) := by decide +kernel
theorem dJ9_min_7cf53_5 : decode cJ9_min_7cf53 5 = .ok (.iload_n 0, 1) := by decide +kernel
theorem dJ9_min_7cf53_6 : decode cJ9_min_7cf53 6 = .ok (.goto 4, 3) := by decide +kernel
theorem dJ9_min_7cf53_9 : decode cJ9_min_7cf53 9 = .ok (.iload_n 1, 1) := by decide +kernel
theorem dJ9_min_7cf53_10 : decode cJ9_min_7cf53 10 = .ok (.ireturn, 1) := by decide +kernel
theorem dL_cell_0 : decode cL_cell 0 = .ok (.iload_n 1, 1) := by decide +kernel
theorem dL_cell_1 : decode cL_cell 1 = .ok (.aload_n 0, 1) := by decide +kernel
theorem dL_cell_2 : decode cL_cell 2 = .ok (.arraylength, 1) := by decide +kernel
theorem dL_cell_3 : decode cL_cell 3 = .ok (.if_icmp .ge 9, 3) := by decide +kernel
theorem dL_cell_6 : decode cL_cell 6 = .ok (.aload_n 0, 1) := by decide +kernel
theorem dL_cell_7 : decode cL_cell 7 = .ok (.iload_n 1, 1) := by decide +kernel
theorem dL_cell_8 : decode cL_cell 8 = .ok (.iaload, 1) := by decide +kernel
theorem dL_cell_9 : decode cL_cell 9 = .ok (.goto 9, 3) := by decide +kernel
theorem dL_cell_12 : decode cL_cell 12 = .ok (.ldc 7, 2) := by decide +kernel
theorem dL_cell_14 : decode cL_cell 14 = .ok (.iload_n 1, 1) := by decide +kernel
theorem dL_cell_15 : decode cL_cell 15 = .ok (.iconst 3, 1) := by decide +kernel
theorem dL_cell_16 : decode cL_cell 16 = .ok (.iadd, 1) := by decide +kernel
theorem dL_cell_17 : decode cL_cell 17 = .ok (.imul, 1) := by decide +kernel
theorem dL_cell_18 : decode cL_cell 18 = .ok (.istore_n 2, 1) := by decide +kernel
theorem dL_cell_19 : decode cL_cell 19 = .ok (.iload_n 2, 1) := by decide +kernel
theorem dL_cell_20 : decode cL_cell 20 = .ok (.iload_n 2, 1) := by decide +kernel
theorem dL_cell_21 : decode cL_cell 21 = .ok (.bipush 15, 2) := by decide +kernel
theorem dL_cell_23 : decode cL_cell 23 = .ok (.iushr, 1) := by decide +kernel
theorem dL_cell_24 : decode cL_cell 24 = .ok (.ixor, 1) := by decide +kernel
theorem dL_cell_25 : decode cL_cell 25 = .ok (.ireturn, 1) := by decide +kernel
theorem dL_low_0 : decode cL_low 0 = .ok (.iload_n 0, 1) := by decide +kernel
theorem dL_low_1 : decode cL_low 1 = .ok (.ldc 8, 2) := by decide +kernel
theorem dL_low_3 : decode cL_low 3 = .ok (.iand, 1) := by decide +kernel
theorem dL_low_4 : decode cL_low 4 = .ok (.iload_n 1, 1) := by decide +kernel
theorem dL_low_5 : decode cL_low 5 = .ok (.irem, 1) := by decide +kernel
theorem dL_low_6 : decode cL_low 6 = .ok (.ireturn, 1) := by decide +kernel
set_option maxRecDepth 20000 in
theorem ggL_begin_X4_begin_h : GoodIn wsL_begin [.code yX4_begin cX4_begin 4 (some .int)] := goodIn_r _ [9] (by decide +kernel) (by decide +kernel)
set_option maxRecDepth 20000 in
theorem ggL_begin_X4_begin_r1 : GoodIn wsL_begin wsX4_begin_r1 := goodIn_r _ [10, 11, 12, 13, 14, 15, 16, 17, 18, 19, 20, 8, 21, 22, 23, 24, 25, 26, 27, 28, 29, 30, 31, 32] (by decide +kernel) (by decide +kernel)
set_option maxRecDepth 20000 in
theorem ggL_begin_X4_begin_r2 : GoodIn wsL_begin wsX4_begin_r2 := goodIn_r _ [33, 34, 35, 36, 37, 38, 39, 40, 41, 42, 43, 44, 45, 46, 47, 48, 49, 50, 51, 52, 53, 54, 55, 56] (by decide +kernel) (by decide +kernel)
set_option maxRecDepth 20000 in
theorem ggL_begin_X4_begin_r3 : GoodIn wsL_begin wsX4_begin_r3 := goodIn_r _ [57, 58, 59, 60, 61, 62, 63, 64, 65, 66, 67, 68, 69, 70, 71, 72, 73, 74, 75, 76, 77, 78, 79, 80] (by decide +kernel) (by decide +kernel)
