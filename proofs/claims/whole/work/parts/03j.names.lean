theorem dX5_dealsWith_0 : decode cX5_dealsWith 0 = .ok (.aload_n 0, 1) := by decide +kernel
theorem dX5_dealsWith_1 : decode cX5_dealsWith 1 = .ok (.iload_n 1, 1) := by decide +kernel
theorem dX5_dealsWith_2 : decode cX5_dealsWith 2 = .ok (.invokestatic 98, 3) := by decide +kernel
theorem dX5_dealsWith_5 : decode cX5_dealsWith 5 = .ok (.ifCond .eq 7, 3) := by decide +kernel
theorem dX5_dealsWith_8 : decode cX5_dealsWith 8 = .ok (.iconst 0, 1) := by decide +kernel
theorem dX5_dealsWith_9 : decode cX5_dealsWith 9 = .ok (.goto 4, 3) := by decide +kernel
theorem dX5_dealsWith_12 : decode cX5_dealsWith 12 = .ok (.iconst 1, 1) := by decide +kernel
theorem dX5_dealsWith_13 : decode cX5_dealsWith 13 = .ok (.invokevirtual 50, 3) := by decide +kernel
theorem dX5_dealsWith_16 : decode cX5_dealsWith 16 = .ok (.ifCond .eq 5, 3) := by decide +kernel
theorem dX5_dealsWith_19 : decode cX5_dealsWith 19 = .ok (.iconst 0, 1) := by decide +kernel
theorem dX5_dealsWith_20 : decode cX5_dealsWith 20 = .ok (.ireturn, 1) := by decide +kernel
theorem dX5_dealsWith_21 : decode cX5_dealsWith 21 = .ok (.aload_n 0, 1) := by decide +kernel
theorem dX5_dealsWith_22 : decode cX5_dealsWith 22 = .ok (.iconst (-1), 1) := by decide +kernel
theorem dX5_dealsWith_23 : decode cX5_dealsWith 23 = .ok (.invokevirtual 126, 3) := by decide +kernel
theorem dX5_dealsWith_26 : decode cX5_dealsWith 26 = .ok (.aload_n 0, 1) := by decide +kernel
theorem dX5_dealsWith_27 : decode cX5_dealsWith 27 = .ok (.getfield 19, 3) := by decide +kernel
theorem dX5_dealsWith_30 : decode cX5_dealsWith 30 = .ok (.iload_n 1, 1) := by decide +kernel
theorem dX5_dealsWith_31 : decode cX5_dealsWith 31 = .ok (.iaload, 1) := by decide +kernel
theorem dX5_dealsWith_32 : decode cX5_dealsWith 32 = .ok (.ireturn, 1) := by decide +kernel
set_option maxRecDepth 20000 in
theorem ggX5_dealsHeld_X5_isGuest : GoodIn wsX5_dealsHeld wsX5_isGuest := goodIn_r _ [6, 7, 8, 9, 5, 10, 46, 47, 48, 49, 50, 51, 52, 53, 54, 55, 56, 57, 58, 59, 60, 61, 62, 63, 64, 65] (by decide +kernel) (by decide +kernel)
set_option maxRecDepth 20000 in
theorem gX5_dealsHeld_X5_isGuest : GoodIn wsX5_dealsHeld (wsV RX5 84 RX5 yX5_isGuest wsX5_isGuest) := goodIn_app (goodIn_of _ (by decide +kernel)) ggX5_dealsHeld_X5_isGuest
set_option maxRecDepth 20000 in
theorem ggX5_dealsHeld_X5_isCard : GoodIn wsX5_dealsHeld wsX5_isCard := goodIn_r _ [13, 8, 9, 5, 10] (by decide +kernel) (by decide +kernel)
set_option maxRecDepth 20000 in
theorem gX5_dealsHeld_X5_isCard : GoodIn wsX5_dealsHeld (va_wsS RX5 98 yX5_isCard wsX5_isCard) := goodIn_app (goodIn_of _ (by decide +kernel)) ggX5_dealsHeld_X5_isCard
set_option maxRecDepth 20000 in
theorem ggX5_dealsHeld_X5_refused : GoodIn wsX5_dealsHeld wsX5_refused := goodIn_r _ [17, 18, 46, 47, 48, 49, 50, 51, 52, 53, 54, 55, 56, 57, 58, 59, 60, 61, 62, 63, 64, 65] (by decide +kernel) (by decide +kernel)
set_option maxRecDepth 20000 in
theorem gX5_dealsHeld_X5_refused : GoodIn wsX5_dealsHeld (wsV RX5 50 RX5 yX5_refused wsX5_refused) := goodIn_app (goodIn_of _ (by decide +kernel)) ggX5_dealsHeld_X5_refused
set_option maxRecDepth 20000 in
theorem ggX5_dealsHeld_X5_countsAll : GoodIn wsX5_dealsHeld wsX5_countsAll := goodIn_r _ [22, 23, 24, 1, 25, 26, 27, 28, 7, 29, 30, 31, 5, 32, 33, 34, 35, 36, 37, 38, 39, 40, 41, 42, 43, 44, 45, 46, 47, 48, 49, 50, 51, 52, 53, 54, 55, 56, 57, 58, 59, 60, 61, 62, 63, 64, 65] (by decide +kernel) (by decide +kernel)
set_option maxRecDepth 20000 in
theorem gX5_dealsHeld_X5_countsAll : GoodIn wsX5_dealsHeld (wsV RX5 126 RX5 yX5_countsAll wsX5_countsAll) := goodIn_app (goodIn_of _ (by decide +kernel)) ggX5_dealsHeld_X5_countsAll
theorem dX5_dealsHeld_0 : decode cX5_dealsHeld 0 = .ok (.aload_n 0, 1) := by decide +kernel
theorem dX5_dealsHeld_1 : decode cX5_dealsHeld 1 = .ok (.aload_n 0, 1) := by decide +kernel
theorem dX5_dealsHeld_2 : decode cX5_dealsHeld 2 = .ok (.iload_n 1, 1) := by decide +kernel
theorem dX5_dealsHeld_3 : decode cX5_dealsHeld 3 = .ok (.invokevirtual 84, 3) := by decide +kernel
theorem dX5_dealsHeld_6 : decode cX5_dealsHeld 6 = .ok (.ifCond .eq 14, 3) := by decide +kernel
theorem dX5_dealsHeld_9 : decode cX5_dealsHeld 9 = .ok (.iload_n 2, 1) := by decide +kernel
theorem dX5_dealsHeld_10 : decode cX5_dealsHeld 10 = .ok (.invokestatic 98, 3) := by decide +kernel
theorem dX5_dealsHeld_13 : decode cX5_dealsHeld 13 = .ok (.ifCond .eq 7, 3) := by decide +kernel
theorem dX5_dealsHeld_16 : decode cX5_dealsHeld 16 = .ok (.iconst 0, 1) := by decide +kernel
theorem dX5_dealsHeld_17 : decode cX5_dealsHeld 17 = .ok (.goto 4, 3) := by decide +kernel
theorem dX5_dealsHeld_20 : decode cX5_dealsHeld 20 = .ok (.iconst 1, 1) := by decide +kernel
theorem dX5_dealsHeld_21 : decode cX5_dealsHeld 21 = .ok (.invokevirtual 50, 3) := by decide +kernel
theorem dX5_dealsHeld_24 : decode cX5_dealsHeld 24 = .ok (.ifCond .eq 5, 3) := by decide +kernel
theorem dX5_dealsHeld_27 : decode cX5_dealsHeld 27 = .ok (.iconst 0, 1) := by decide +kernel
theorem dX5_dealsHeld_28 : decode cX5_dealsHeld 28 = .ok (.ireturn, 1) := by decide +kernel
theorem dX5_dealsHeld_29 : decode cX5_dealsHeld 29 = .ok (.aload_n 0, 1) := by decide +kernel
theorem dX5_dealsHeld_30 : decode cX5_dealsHeld 30 = .ok (.iconst (-1), 1) := by decide +kernel
theorem dX5_dealsHeld_31 : decode cX5_dealsHeld 31 = .ok (.invokevirtual 126, 3) := by decide +kernel
theorem dX5_dealsHeld_34 : decode cX5_dealsHeld 34 = .ok (.aload_n 0, 1) := by decide +kernel
theorem dX5_dealsHeld_35 : decode cX5_dealsHeld 35 = .ok (.getfield 22, 3) := by decide +kernel
theorem dX5_dealsHeld_38 : decode cX5_dealsHeld 38 = .ok (.bipush 8, 2) := by decide +kernel
theorem dX5_dealsHeld_40 : decode cX5_dealsHeld 40 = .ok (.iload_n 1, 1) := by decide +kernel
theorem dX5_dealsHeld_41 : decode cX5_dealsHeld 41 = .ok (.imul, 1) := by decide +kernel
theorem dX5_dealsHeld_42 : decode cX5_dealsHeld 42 = .ok (.iload_n 2, 1) := by decide +kernel
theorem dX5_dealsHeld_43 : decode cX5_dealsHeld 43 = .ok (.iadd, 1) := by decide +kernel
theorem dX5_dealsHeld_44 : decode cX5_dealsHeld 44 = .ok (.iaload, 1) := by decide +kernel
theorem dX5_dealsHeld_45 : decode cX5_dealsHeld 45 = .ok (.ireturn, 1) := by decide +kernel
set_option maxRecDepth 20000 in
theorem ggX5_culprits_X5_countsAll : GoodIn wsX5_culprits wsX5_countsAll := goodIn_r _ [7, 8, 2, 9, 10, 11, 12, 13, 14, 15, 16, 17, 6, 18, 19, 20, 21, 22, 23, 24, 25, 26, 27, 28, 29, 30, 31, 32, 33, 34, 35, 36, 37, 38, 39, 40, 41, 42, 43, 44, 45, 46, 47, 48, 49, 50, 51] (by decide +kernel) (by decide +kernel)
set_option maxRecDepth 20000 in
theorem gX5_culprits_X5_countsAll : GoodIn wsX5_culprits (wsV RX5 126 RX5 yX5_countsAll wsX5_countsAll) := goodIn_app (goodIn_of _ (by decide +kernel)) ggX5_culprits_X5_countsAll
theorem dX5_culprits_0 : decode cX5_culprits 0 = .ok (.aload_n 0, 1) := by decide +kernel
theorem dX5_culprits_1 : decode cX5_culprits 1 = .ok (.iconst 0, 1) := by decide +kernel
theorem dX5_culprits_2 : decode cX5_culprits 2 = .ok (.putfield 43, 3) := by decide +kernel
theorem dX5_culprits_5 : decode cX5_culprits 5 = .ok (.aload_n 0, 1) := by decide +kernel
theorem dX5_culprits_6 : decode cX5_culprits 6 = .ok (.iconst (-1), 1) := by decide +kernel
theorem dX5_culprits_7 : decode cX5_culprits 7 = .ok (.invokevirtual 126, 3) := by decide +kernel
theorem dX5_culprits_10 : decode cX5_culprits 10 = .ok (.iconst 0, 1) := by decide +kernel
theorem dX5_culprits_11 : decode cX5_culprits 11 = .ok (.istore_n 1, 1) := by decide +kernel
theorem dX5_culprits_12 : decode cX5_culprits 12 = .ok (.iconst 0, 1) := by decide +kernel
theorem dX5_culprits_13 : decode cX5_culprits 13 = .ok (.istore_n 2, 1) := by decide +kernel
theorem dX5_culprits_14 : decode cX5_culprits 14 = .ok (.iload_n 2, 1) := by decide +kernel
theorem dX5_culprits_15 : decode cX5_culprits 15 = .ok (.bipush 8, 2) := by decide +kernel
theorem dX5_culprits_17 : decode cX5_culprits 17 = .ok (.if_icmp .ge 28, 3) := by decide +kernel
theorem dX5_culprits_20 : decode cX5_culprits 20 = .ok (.iload_n 1, 1) := by decide +kernel
theorem dX5_culprits_21 : decode cX5_culprits 21 = .ok (.aload_n 0, 1) := by decide +kernel
theorem dX5_culprits_22 : decode cX5_culprits 22 = .ok (.getfield 19, 3) := by decide +kernel
theorem dX5_culprits_25 : decode cX5_culprits 25 = .ok (.iload_n 2, 1) := by decide +kernel
theorem dX5_culprits_26 : decode cX5_culprits 26 = .ok (.iaload, 1) := by decide +kernel
theorem dX5_culprits_27 : decode cX5_culprits 27 = .ok (.ifCond .le 9, 3) := by decide +kernel
theorem dX5_culprits_30 : decode cX5_culprits 30 = .ok (.iconst 1, 1) := by decide +kernel
theorem dX5_culprits_31 : decode cX5_culprits 31 = .ok (.iload_n 2, 1) := by decide +kernel
theorem dX5_culprits_32 : decode cX5_culprits 32 = .ok (.ishl, 1) := by decide +kernel
theorem dX5_culprits_33 : decode cX5_culprits 33 = .ok (.goto 4, 3) := by decide +kernel
theorem dX5_culprits_36 : decode cX5_culprits 36 = .ok (.iconst 0, 1) := by decide +kernel
theorem dX5_culprits_37 : decode cX5_culprits 37 = .ok (.ior, 1) := by decide +kernel
theorem dX5_culprits_38 : decode cX5_culprits 38 = .ok (.istore_n 1, 1) := by decide +kernel
theorem dX5_culprits_39 : decode cX5_culprits 39 = .ok (.iinc 2 1, 3) := by decide +kernel
theorem dX5_culprits_42 : decode cX5_culprits 42 = .ok (.goto (-28), 3) := by decide +kernel
theorem dX5_culprits_45 : decode cX5_culprits 45 = .ok (.iload_n 1, 1) := by decide +kernel
theorem dX5_culprits_46 : decode cX5_culprits 46 = .ok (.ireturn, 1) := by decide +kernel
set_option maxRecDepth 20000 in
theorem ggX5_likeliest_X5_countsAll : GoodIn wsX5_likeliest wsX5_countsAll := goodIn_r _ [8, 9, 2, 10, 11, 12, 13, 14, 3, 15, 16, 17, 7, 18, 19, 20, 21, 22, 23, 24, 25, 26, 27, 28, 29, 30, 31, 32, 33, 34, 35, 36, 37, 38, 39, 40, 41, 42, 43, 44, 45, 46, 47, 48, 49, 50, 51] (by decide +kernel) (by decide +kernel)
set_option maxRecDepth 20000 in
theorem gX5_likeliest_X5_countsAll : GoodIn wsX5_likeliest (wsV RX5 126 RX5 yX5_countsAll wsX5_countsAll) := goodIn_app (goodIn_of _ (by decide +kernel)) ggX5_likeliest_X5_countsAll
theorem dX5_likeliest_0 : decode cX5_likeliest 0 = .ok (.aload_n 0, 1) := by decide +kernel
theorem dX5_likeliest_1 : decode cX5_likeliest 1 = .ok (.iconst 0, 1) := by decide +kernel
theorem dX5_likeliest_2 : decode cX5_likeliest 2 = .ok (.putfield 43, 3) := by decide +kernel
theorem dX5_likeliest_5 : decode cX5_likeliest 5 = .ok (.aload_n 0, 1) := by decide +kernel
theorem dX5_likeliest_6 : decode cX5_likeliest 6 = .ok (.iconst (-1), 1) := by decide +kernel
theorem dX5_likeliest_7 : decode cX5_likeliest 7 = .ok (.invokevirtual 126, 3) := by decide +kernel
theorem dX5_likeliest_10 : decode cX5_likeliest 10 = .ok (.iconst 0, 1) := by decide +kernel
theorem dX5_likeliest_11 : decode cX5_likeliest 11 = .ok (.istore_n 1, 1) := by decide +kernel
theorem dX5_likeliest_12 : decode cX5_likeliest 12 = .ok (.iconst 1, 1) := by decide +kernel
theorem dX5_likeliest_13 : decode cX5_likeliest 13 = .ok (.istore_n 2, 1) := by decide +kernel
theorem dX5_likeliest_14 : decode cX5_likeliest 14 = .ok (.iload_n 2, 1) := by decide +kernel
theorem dX5_likeliest_15 : decode cX5_likeliest 15 = .ok (.bipush 8, 2) := by decide +kernel
theorem dX5_likeliest_17 : decode cX5_likeliest 17 = .ok (.if_icmp .ge 30, 3) := by decide +kernel
theorem dX5_likeliest_20 : decode cX5_likeliest 20 = .ok (.aload_n 0, 1) := by decide +kernel
theorem dX5_likeliest_21 : decode cX5_likeliest 21 = .ok (.getfield 19, 3) := by decide +kernel
theorem dX5_likeliest_24 : decode cX5_likeliest 24 = .ok (.iload_n 2, 1) := by decide +kernel
theorem dX5_likeliest_25 : decode cX5_likeliest 25 = .ok (.iaload, 1) := by decide +kernel
theorem dX5_likeliest_26 : decode cX5_likeliest 26 = .ok (.aload_n 0, 1) := by decide +kernel
theorem dX5_likeliest_27 : decode cX5_likeliest 27 = .ok (.getfield 19, 3) := by decide +kernel
theorem dX5_likeliest_30 : decode cX5_likeliest 30 = .ok (.iload_n 1, 1) := by decide +kernel
theorem dX5_likeliest_31 : decode cX5_likeliest 31 = .ok (.iaload, 1) := by decide +kernel
theorem dX5_likeliest_32 : decode cX5_likeliest 32 = .ok (.if_icmp .le 7, 3) := by decide +kernel
theorem dX5_likeliest_35 : decode cX5_likeliest 35 = .ok (.iload_n 2, 1) := by decide +kernel
theorem dX5_likeliest_36 : decode cX5_likeliest 36 = .ok (.goto 4, 3) := by decide +kernel
theorem dX5_likeliest_39 : decode cX5_likeliest 39 = .ok (.iload_n 1, 1) := by decide +kernel
theorem dX5_likeliest_40 : decode cX5_likeliest 40 = .ok (.istore_n 1, 1) := by decide +kernel
theorem dX5_likeliest_41 : decode cX5_likeliest 41 = .ok (.iinc 2 1, 3) := by decide +kernel
theorem dX5_likeliest_44 : decode cX5_likeliest 44 = .ok (.goto (-30), 3) := by decide +kernel
theorem dX5_likeliest_47 : decode cX5_likeliest 47 = .ok (.aload_n 0, 1) := by decide +kernel
theorem dX5_likeliest_48 : decode cX5_likeliest 48 = .ok (.getfield 7, 3) := by decide +kernel
theorem dX5_likeliest_51 : decode cX5_likeliest 51 = .ok (.iconst 0, 1) := by decide +kernel
theorem dX5_likeliest_52 : decode cX5_likeliest 52 = .ok (.iaload, 1) := by decide +kernel
theorem dX5_likeliest_53 : decode cX5_likeliest 53 = .ok (.ifCond .ne 7, 3) := by decide +kernel
theorem dX5_likeliest_56 : decode cX5_likeliest 56 = .ok (.iconst (-1), 1) := by decide +kernel
theorem dX5_likeliest_57 : decode cX5_likeliest 57 = .ok (.goto 4, 3) := by decide +kernel
theorem dX5_likeliest_60 : decode cX5_likeliest 60 = .ok (.iload_n 1, 1) := by decide +kernel
theorem dX5_likeliest_61 : decode cX5_likeliest 61 = .ok (.ireturn, 1) := by decide +kernel
set_option maxRecDepth 20000 in
theorem ggX5_chance_X5_isCard : GoodIn wsX5_chance wsX5_isCard := goodIn_r _ [6, 7, 8, 5, 9] (by decide +kernel) (by decide +kernel)
set_option maxRecDepth 20000 in
theorem gX5_chance_X5_isCard : GoodIn wsX5_chance (va_wsS RX5 98 yX5_isCard wsX5_isCard) := goodIn_app (goodIn_of _ (by decide +kernel)) ggX5_chance_X5_isCard
set_option maxRecDepth 20000 in
theorem ggX5_chance_X5_refused : GoodIn wsX5_chance wsX5_refused := goodIn_r _ [13, 14, 42, 43, 44, 45, 46, 47, 48, 49, 50, 51, 52, 53, 54, 55, 56, 57, 58, 59, 60, 61] (by decide +kernel) (by decide +kernel)
set_option maxRecDepth 20000 in
theorem gX5_chance_X5_refused : GoodIn wsX5_chance (wsV RX5 50 RX5 yX5_refused wsX5_refused) := goodIn_app (goodIn_of _ (by decide +kernel)) ggX5_chance_X5_refused
set_option maxRecDepth 20000 in
theorem ggX5_chance_X5_countsAll : GoodIn wsX5_chance wsX5_countsAll := goodIn_r _ [18, 1, 2, 19, 20, 21, 22, 23, 24, 25, 26, 27, 5, 28, 29, 30, 31, 32, 33, 34, 35, 36, 37, 38, 39, 40, 41, 42, 43, 44, 45, 46, 47, 48, 49, 50, 51, 52, 53, 54, 55, 56, 57, 58, 59, 60, 61] (by decide +kernel) (by decide +kernel)
set_option maxRecDepth 20000 in
theorem gX5_chance_X5_countsAll : GoodIn wsX5_chance (wsV RX5 126 RX5 yX5_countsAll wsX5_countsAll) := goodIn_app (goodIn_of _ (by decide +kernel)) ggX5_chance_X5_countsAll
theorem dX5_chance_0 : decode cX5_chance 0 = .ok (.aload_n 0, 1) := by decide +kernel
theorem dX5_chance_1 : decode cX5_chance 1 = .ok (.iload_n 1, 1) := by decide +kernel
theorem dX5_chance_2 : decode cX5_chance 2 = .ok (.invokestatic 98, 3) := by decide +kernel
theorem dX5_chance_5 : decode cX5_chance 5 = .ok (.ifCond .eq 7, 3) := by decide +kernel
theorem dX5_chance_8 : decode cX5_chance 8 = .ok (.iconst 0, 1) := by decide +kernel
theorem dX5_chance_9 : decode cX5_chance 9 = .ok (.goto 4, 3) := by decide +kernel
theorem dX5_chance_12 : decode cX5_chance 12 = .ok (.iconst 1, 1) := by decide +kernel
theorem dX5_chance_13 : decode cX5_chance 13 = .ok (.invokevirtual 50, 3) := by decide +kernel
theorem dX5_chance_16 : decode cX5_chance 16 = .ok (.ifCond .eq 5, 3) := by decide +kernel
theorem dX5_chance_19 : decode cX5_chance 19 = .ok (.dconst 0, 1) := by decide +kernel
theorem dX5_chance_20 : decode cX5_chance 20 = .ok (.dreturn, 1) := by decide +kernel
theorem dX5_chance_21 : decode cX5_chance 21 = .ok (.aload_n 0, 1) := by decide +kernel
theorem dX5_chance_22 : decode cX5_chance 22 = .ok (.iconst (-1), 1) := by decide +kernel
theorem dX5_chance_23 : decode cX5_chance 23 = .ok (.invokevirtual 126, 3) := by decide +kernel
theorem dX5_chance_26 : decode cX5_chance 26 = .ok (.aload_n 0, 1) := by decide +kernel
theorem dX5_chance_27 : decode cX5_chance 27 = .ok (.getfield 116, 3) := by decide +kernel
theorem dX5_chance_30 : decode cX5_chance 30 = .ok (.ifCond .ne 7, 3) := by decide +kernel
theorem dX5_chance_33 : decode cX5_chance 33 = .ok (.dconst 0, 1) := by decide +kernel
theorem dX5_chance_34 : decode cX5_chance 34 = .ok (.goto 16, 3) := by decide +kernel
theorem dX5_chance_37 : decode cX5_chance 37 = .ok (.aload_n 0, 1) := by decide +kernel
theorem dX5_chance_38 : decode cX5_chance 38 = .ok (.getfield 19, 3) := by decide +kernel
theorem dX5_chance_41 : decode cX5_chance 41 = .ok (.iload_n 1, 1) := by decide +kernel
theorem dX5_chance_42 : decode cX5_chance 42 = .ok (.iaload, 1) := by decide +kernel
theorem dX5_chance_43 : decode cX5_chance 43 = .ok (.i2d, 1) := by decide +kernel
theorem dX5_chance_44 : decode cX5_chance 44 = .ok (.aload_n 0, 1) := by decide +kernel
theorem dX5_chance_45 : decode cX5_chance 45 = .ok (.getfield 116, 3) := by decide +kernel
theorem dX5_chance_48 : decode cX5_chance 48 = .ok (.i2d, 1) := by decide +kernel
theorem dX5_chance_49 : decode cX5_chance 49 = .ok (.ddiv, 1) := by decide +kernel
theorem dX5_chance_50 : decode cX5_chance 50 = .ok (.dreturn, 1) := by decide +kernel
set_option maxRecDepth 20000 in
theorem ggX5_leftBehind_X5_many : GoodIn wsX5_leftBehind wsX5_many := goodIn_r _ [5] (by decide +kernel) (by decide +kernel)
set_option maxRecDepth 20000 in
theorem gX5_leftBehind_X5_many : GoodIn wsX5_leftBehind (va_wsS RX5 65 yX5_many wsX5_many) := goodIn_app (goodIn_of _ (by decide +kernel)) ggX5_leftBehind_X5_many
theorem dX5_leftBehind_0 : decode cX5_leftBehind 0 = .ok (.iconst 0, 1) := by decide +kernel
theorem dX5_leftBehind_1 : decode cX5_leftBehind 1 = .ok (.istore_n 3, 1) := by decide +kernel
theorem dX5_leftBehind_2 : decode cX5_leftBehind 2 = .ok (.iconst 0, 1) := by decide +kernel
theorem dX5_leftBehind_3 : decode cX5_leftBehind 3 = .ok (.istore 4, 2) := by decide +kernel
theorem dX5_leftBehind_5 : decode cX5_leftBehind 5 = .ok (.iload 4, 2) := by decide +kernel
theorem dX5_leftBehind_7 : decode cX5_leftBehind 7 = .ok (.sipush 256, 3) := by decide +kernel
theorem dX5_leftBehind_10 : decode cX5_leftBehind 10 = .ok (.if_icmp .ge 48, 3) := by decide +kernel
theorem dX5_leftBehind_13 : decode cX5_leftBehind 13 = .ok (.iload_n 3, 1) := by decide +kernel
theorem dX5_leftBehind_14 : decode cX5_leftBehind 14 = .ok (.aload_n 0, 1) := by decide +kernel
theorem dX5_leftBehind_15 : decode cX5_leftBehind 15 = .ok (.getfield 34, 3) := by decide +kernel
theorem dX5_leftBehind_18 : decode cX5_leftBehind 18 = .ok (.iconst 2, 1) := by decide +kernel
theorem dX5_leftBehind_19 : decode cX5_leftBehind 19 = .ok (.iload 4, 2) := by decide +kernel
theorem dX5_leftBehind_21 : decode cX5_leftBehind 21 = .ok (.imul, 1) := by decide +kernel
theorem dX5_leftBehind_22 : decode cX5_leftBehind 22 = .ok (.iaload, 1) := by decide +kernel
theorem dX5_leftBehind_23 : decode cX5_leftBehind 23 = .ok (.iload 4, 2) := by decide +kernel
theorem dX5_leftBehind_25 : decode cX5_leftBehind 25 = .ok (.iload_n 1, 1) := by decide +kernel
theorem dX5_leftBehind_26 : decode cX5_leftBehind 26 = .ok (.iand, 1) := by decide +kernel
theorem dX5_leftBehind_27 : decode cX5_leftBehind 27 = .ok (.invokestatic 65, 3) := by decide +kernel
theorem dX5_leftBehind_30 : decode cX5_leftBehind 30 = .ok (.iload_n 2, 1) := by decide +kernel
theorem dX5_leftBehind_31 : decode cX5_leftBehind 31 = .ok (.if_icmp .ne 17, 3) := by decide +kernel
theorem dX5_leftBehind_34 : decode cX5_leftBehind 34 = .ok (.aload_n 0, 1) := by decide +kernel
theorem dX5_leftBehind_35 : decode cX5_leftBehind 35 = .ok (.getfield 34, 3) := by decide +kernel
theorem dX5_leftBehind_38 : decode cX5_leftBehind 38 = .ok (.iconst 2, 1) := by decide +kernel
theorem dX5_leftBehind_39 : decode cX5_leftBehind 39 = .ok (.iload 4, 2) := by decide +kernel
theorem dX5_leftBehind_41 : decode cX5_leftBehind 41 = .ok (.imul, 1) := by decide +kernel
theorem dX5_leftBehind_42 : decode cX5_leftBehind 42 = .ok (.iconst 1, 1) := by decide +kernel
theorem dX5_leftBehind_43 : decode cX5_leftBehind 43 = .ok (.iadd, 1) := by decide +kernel
theorem dX5_leftBehind_44 : decode cX5_leftBehind 44 = .ok (.iaload, 1) := by decide +kernel
theorem dX5_leftBehind_45 : decode cX5_leftBehind 45 = .ok (.goto 4, 3) := by decide +kernel
theorem dX5_leftBehind_48 : decode cX5_leftBehind 48 = .ok (.iconst 0, 1) := by decide +kernel
theorem dX5_leftBehind_49 : decode cX5_leftBehind 49 = .ok (.iadd, 1) := by decide +kernel
theorem dX5_leftBehind_50 : decode cX5_leftBehind 50 = .ok (.iadd, 1) := by decide +kernel
theorem dX5_leftBehind_51 : decode cX5_leftBehind 51 = .ok (.istore_n 3, 1) := by decide +kernel
theorem dX5_leftBehind_52 : decode cX5_leftBehind 52 = .ok (.iinc 4 1, 3) := by decide +kernel
theorem dX5_leftBehind_55 : decode cX5_leftBehind 55 = .ok (.goto (-50), 3) := by decide +kernel
theorem dX5_leftBehind_58 : decode cX5_leftBehind 58 = .ok (.iload_n 3, 1) := by decide +kernel
theorem dX5_leftBehind_59 : decode cX5_leftBehind 59 = .ok (.ireturn, 1) := by decide +kernel
set_option maxRecDepth 20000 in
theorem ggX5_dealsIf_X5_isGuest : GoodIn wsX5_dealsIf wsX5_isGuest := goodIn_r _ [5, 6, 7, 8, 4, 9, 50, 51, 52, 53, 54, 55, 56, 57, 58, 59, 60, 61, 62, 63, 64, 65, 66, 67, 68, 69] (by decide +kernel) (by decide +kernel)
set_option maxRecDepth 20000 in
theorem gX5_dealsIf_X5_isGuest : GoodIn wsX5_dealsIf (wsV RX5 84 RX5 yX5_isGuest wsX5_isGuest) := goodIn_app (goodIn_of _ (by decide +kernel)) ggX5_dealsIf_X5_isGuest
set_option maxRecDepth 20000 in
theorem ggX5_dealsIf_X5_isSet : GoodIn wsX5_dealsIf wsX5_isSet := goodIn_r _ [12, 7, 8, 4, 9] (by decide +kernel) (by decide +kernel)
set_option maxRecDepth 20000 in
theorem gX5_dealsIf_X5_isSet : GoodIn wsX5_dealsIf (va_wsS RX5 87 yX5_isSet wsX5_isSet) := goodIn_app (goodIn_of _ (by decide +kernel)) ggX5_dealsIf_X5_isSet
set_option maxRecDepth 20000 in
theorem ggX5_dealsIf_X5_in : GoodIn wsX5_dealsIf wsX5_in := goodIn_r _ [9] (by decide +kernel) (by decide +kernel)
set_option maxRecDepth 20000 in
theorem gX5_dealsIf_X5_in : GoodIn wsX5_dealsIf (va_wsS RX5 61 yX5_in wsX5_in) := goodIn_app (goodIn_of _ (by decide +kernel)) ggX5_dealsIf_X5_in
set_option maxRecDepth 20000 in
theorem ggX5_dealsIf_X5_refused : GoodIn wsX5_dealsIf wsX5_refused := goodIn_r _ [16, 17, 50, 51, 52, 53, 54, 55, 56, 57, 58, 59, 60, 61, 62, 63, 64, 65, 66, 67, 68, 69] (by decide +kernel) (by decide +kernel)
set_option maxRecDepth 20000 in
theorem gX5_dealsIf_X5_refused : GoodIn wsX5_dealsIf (wsV RX5 50 RX5 yX5_refused wsX5_refused) := goodIn_app (goodIn_of _ (by decide +kernel)) ggX5_dealsIf_X5_refused
set_option maxRecDepth 20000 in
theorem ggX5_dealsIf_X5_countsAll : GoodIn wsX5_dealsIf wsX5_countsAll := goodIn_r _ [21, 22, 23, 24, 25, 26, 27, 28, 6, 29, 30, 31, 4, 32, 33, 34, 35, 36, 37, 38, 39, 40, 41, 42, 43, 44, 45, 50, 51, 52, 53, 54, 55, 56, 57, 58, 59, 60, 61, 62, 63, 64, 65, 66, 67, 68, 69] (by decide +kernel) (by decide +kernel)
set_option maxRecDepth 20000 in
theorem gX5_dealsIf_X5_countsAll : GoodIn wsX5_dealsIf (wsV RX5 126 RX5 yX5_countsAll wsX5_countsAll) := goodIn_app (goodIn_of _ (by decide +kernel)) ggX5_dealsIf_X5_countsAll
set_option maxRecDepth 20000 in
theorem ggX5_dealsIf_X5_leftBehind : GoodIn wsX5_dealsIf wsX5_leftBehind := goodIn_r _ [49, 25, 30, 31, 4, 32, 50, 51, 52, 53, 54, 55, 56, 57, 58, 59, 60, 61, 62, 63, 64, 65, 66, 67, 68, 69] (by decide +kernel) (by decide +kernel)
set_option maxRecDepth 20000 in
theorem gX5_dealsIf_X5_leftBehind : GoodIn wsX5_dealsIf (wsV RX5 136 RX5 yX5_leftBehind wsX5_leftBehind) := goodIn_app (goodIn_of _ (by decide +kernel)) ggX5_dealsIf_X5_leftBehind
theorem dX5_dealsIf_0 : decode cX5_dealsIf 0 = .ok (.aload_n 0, 1) := by decide +kernel
theorem dX5_dealsIf_1 : decode cX5_dealsIf 1 = .ok (.aload_n 0, 1) := by decide +kernel
theorem dX5_dealsIf_2 : decode cX5_dealsIf 2 = .ok (.iload_n 1, 1) := by decide +kernel
theorem dX5_dealsIf_3 : decode cX5_dealsIf 3 = .ok (.invokevirtual 84, 3) := by decide +kernel
theorem dX5_dealsIf_6 : decode cX5_dealsIf 6 = .ok (.ifCond .ne 7, 3) := by decide +kernel
theorem dX5_dealsIf_9 : decode cX5_dealsIf 9 = .ok (.iconst 1, 1) := by decide +kernel
theorem dX5_dealsIf_10 : decode cX5_dealsIf 10 = .ok (.goto 25, 3) := by decide +kernel
theorem dX5_dealsIf_13 : decode cX5_dealsIf 13 = .ok (.iload_n 2, 1) := by decide +kernel
theorem dX5_dealsIf_14 : decode cX5_dealsIf 14 = .ok (.invokestatic 87, 3) := by decide +kernel
theorem dX5_dealsIf_17 : decode cX5_dealsIf 17 = .ok (.ifCond .eq 17, 3) := by decide +kernel
theorem dX5_dealsIf_20 : decode cX5_dealsIf 20 = .ok (.iload_n 3, 1) := by decide +kernel
theorem dX5_dealsIf_21 : decode cX5_dealsIf 21 = .ok (.iconst 0, 1) := by decide +kernel
theorem dX5_dealsIf_22 : decode cX5_dealsIf 22 = .ok (.bipush 8, 2) := by decide +kernel
theorem dX5_dealsIf_24 : decode cX5_dealsIf 24 = .ok (.invokestatic 61, 3) := by decide +kernel
theorem dX5_dealsIf_27 : decode cX5_dealsIf 27 = .ok (.ifCond .eq 7, 3) := by decide +kernel
theorem dX5_dealsIf_30 : decode cX5_dealsIf 30 = .ok (.iconst 0, 1) := by decide +kernel
theorem dX5_dealsIf_31 : decode cX5_dealsIf 31 = .ok (.goto 4, 3) := by decide +kernel
theorem dX5_dealsIf_34 : decode cX5_dealsIf 34 = .ok (.iconst 2, 1) := by decide +kernel
theorem dX5_dealsIf_35 : decode cX5_dealsIf 35 = .ok (.invokevirtual 50, 3) := by decide +kernel
theorem dX5_dealsIf_38 : decode cX5_dealsIf 38 = .ok (.ifCond .eq 5, 3) := by decide +kernel
theorem dX5_dealsIf_41 : decode cX5_dealsIf 41 = .ok (.iconst 0, 1) := by decide +kernel
theorem dX5_dealsIf_42 : decode cX5_dealsIf 42 = .ok (.ireturn, 1) := by decide +kernel
theorem dX5_dealsIf_43 : decode cX5_dealsIf 43 = .ok (.aload_n 0, 1) := by decide +kernel
theorem dX5_dealsIf_44 : decode cX5_dealsIf 44 = .ok (.iload_n 1, 1) := by decide +kernel
theorem dX5_dealsIf_45 : decode cX5_dealsIf 45 = .ok (.invokevirtual 126, 3) := by decide +kernel
theorem dX5_dealsIf_48 : decode cX5_dealsIf 48 = .ok (.aload_n 0, 1) := by decide +kernel
theorem dX5_dealsIf_49 : decode cX5_dealsIf 49 = .ok (.iload_n 2, 1) := by decide +kernel
theorem dX5_dealsIf_50 : decode cX5_dealsIf 50 = .ok (.iload_n 3, 1) := by decide +kernel
theorem dX5_dealsIf_51 : decode cX5_dealsIf 51 = .ok (.invokevirtual 136, 3) := by decide +kernel
theorem dX5_dealsIf_54 : decode cX5_dealsIf 54 = .ok (.ireturn, 1) := by decide +kernel
set_option maxRecDepth 20000 in
theorem ggX5_worstOf_X5_leftBehind : GoodIn wsX5_worstOf wsX5_leftBehind := goodIn_r _ [5, 6, 7, 8, 4, 9, 10, 11, 12, 13, 14, 15, 16, 17, 18, 19, 20, 21, 22, 23, 24, 25, 26, 27, 28, 29] (by decide +kernel) (by decide +kernel)
set_option maxRecDepth 20000 in
theorem gX5_worstOf_X5_leftBehind : GoodIn wsX5_worstOf (wsV RX5 136 RX5 yX5_leftBehind wsX5_leftBehind) := goodIn_app (goodIn_of _ (by decide +kernel)) ggX5_worstOf_X5_leftBehind
theorem dX5_worstOf_0 : decode cX5_worstOf 0 = .ok (.iconst 0, 1) := by decide +kernel
theorem dX5_worstOf_1 : decode cX5_worstOf 1 = .ok (.istore_n 2, 1) := by decide +kernel
theorem dX5_worstOf_2 : decode cX5_worstOf 2 = .ok (.iconst 0, 1) := by decide +kernel
theorem dX5_worstOf_3 : decode cX5_worstOf 3 = .ok (.istore_n 3, 1) := by decide +kernel
theorem dX5_worstOf_4 : decode cX5_worstOf 4 = .ok (.iload_n 3, 1) := by decide +kernel
theorem dX5_worstOf_5 : decode cX5_worstOf 5 = .ok (.bipush 8, 2) := by decide +kernel
theorem dX5_worstOf_7 : decode cX5_worstOf 7 = .ok (.if_icmp .gt 30, 3) := by decide +kernel
theorem dX5_worstOf_10 : decode cX5_worstOf 10 = .ok (.aload_n 0, 1) := by decide +kernel
theorem dX5_worstOf_11 : decode cX5_worstOf 11 = .ok (.iload_n 1, 1) := by decide +kernel
theorem dX5_worstOf_12 : decode cX5_worstOf 12 = .ok (.iload_n 3, 1) := by decide +kernel
theorem dX5_worstOf_13 : decode cX5_worstOf 13 = .ok (.invokevirtual 136, 3) := by decide +kernel
theorem dX5_worstOf_16 : decode cX5_worstOf 16 = .ok (.istore 4, 2) := by decide +kernel
theorem dX5_worstOf_18 : decode cX5_worstOf 18 = .ok (.iload 4, 2) := by decide +kernel
theorem dX5_worstOf_20 : decode cX5_worstOf 20 = .ok (.iload_n 2, 1) := by decide +kernel
theorem dX5_worstOf_21 : decode cX5_worstOf 21 = .ok (.if_icmp .le 8, 3) := by decide +kernel
theorem dX5_worstOf_24 : decode cX5_worstOf 24 = .ok (.iload 4, 2) := by decide +kernel
theorem dX5_worstOf_26 : decode cX5_worstOf 26 = .ok (.goto 4, 3) := by decide +kernel
theorem dX5_worstOf_29 : decode cX5_worstOf 29 = .ok (.iload_n 2, 1) := by decide +kernel
theorem dX5_worstOf_30 : decode cX5_worstOf 30 = .ok (.istore_n 2, 1) := by decide +kernel
theorem dX5_worstOf_31 : decode cX5_worstOf 31 = .ok (.iinc 3 1, 3) := by decide +kernel
theorem dX5_worstOf_34 : decode cX5_worstOf 34 = .ok (.goto (-30), 3) := by decide +kernel
theorem dX5_worstOf_37 : decode cX5_worstOf 37 = .ok (.iload_n 2, 1) := by decide +kernel
theorem dX5_worstOf_38 : decode cX5_worstOf 38 = .ok (.ireturn, 1) := by decide +kernel
set_option maxRecDepth 20000 in
theorem ggX5_worst_X5_isGuest : GoodIn wsX5_worst wsX5_isGuest := goodIn_r _ [5, 6, 7, 8, 4, 9, 54, 55, 56, 57, 58, 59, 60, 61, 62, 63, 64, 65, 66, 67, 68, 69, 70, 71, 72, 73] (by decide +kernel) (by decide +kernel)
set_option maxRecDepth 20000 in
theorem gX5_worst_X5_isGuest : GoodIn wsX5_worst (wsV RX5 84 RX5 yX5_isGuest wsX5_isGuest) := goodIn_app (goodIn_of _ (by decide +kernel)) ggX5_worst_X5_isGuest
set_option maxRecDepth 20000 in
theorem ggX5_worst_X5_isSet : GoodIn wsX5_worst wsX5_isSet := goodIn_r _ [12, 7, 8, 4, 9] (by decide +kernel) (by decide +kernel)
set_option maxRecDepth 20000 in
theorem gX5_worst_X5_isSet : GoodIn wsX5_worst (va_wsS RX5 87 yX5_isSet wsX5_isSet) := goodIn_app (goodIn_of _ (by decide +kernel)) ggX5_worst_X5_isSet
set_option maxRecDepth 20000 in
theorem ggX5_worst_X5_refused : GoodIn wsX5_worst wsX5_refused := goodIn_r _ [16, 17, 54, 55, 56, 57, 58, 59, 60, 61, 62, 63, 64, 65, 66, 67, 68, 69, 70, 71, 72, 73] (by decide +kernel) (by decide +kernel)
set_option maxRecDepth 20000 in
theorem gX5_worst_X5_refused : GoodIn wsX5_worst (wsV RX5 50 RX5 yX5_refused wsX5_refused) := goodIn_app (goodIn_of _ (by decide +kernel)) ggX5_worst_X5_refused
set_option maxRecDepth 20000 in
theorem ggX5_worst_X5_countsAll : GoodIn wsX5_worst wsX5_countsAll := goodIn_r _ [21, 22, 23, 24, 25, 26, 27, 28, 6, 29, 30, 31, 4, 32, 33, 34, 35, 36, 37, 38, 39, 40, 41, 42, 43, 44, 45, 54, 55, 56, 57, 58, 59, 60, 61, 62, 63, 64, 65, 66, 67, 68, 69, 70, 71, 72, 73] (by decide +kernel) (by decide +kernel)
set_option maxRecDepth 20000 in
theorem gX5_worst_X5_countsAll : GoodIn wsX5_worst (wsV RX5 126 RX5 yX5_countsAll wsX5_countsAll) := goodIn_app (goodIn_of _ (by decide +kernel)) ggX5_worst_X5_countsAll
set_option maxRecDepth 20000 in
theorem ggX5_worst_X5_worstOf : GoodIn wsX5_worst wsX5_worstOf := goodIn_r _ [49, 50, 51, 52, 4, 53, 25, 30, 31, 32, 54, 55, 56, 57, 58, 59, 60, 61, 62, 63, 64, 65, 66, 67, 68, 69, 70, 71, 72, 73] (by decide +kernel) (by decide +kernel)
set_option maxRecDepth 20000 in
theorem gX5_worst_X5_worstOf : GoodIn wsX5_worst (wsV RX5 139 RX5 yX5_worstOf wsX5_worstOf) := goodIn_app (goodIn_of _ (by decide +kernel)) ggX5_worst_X5_worstOf
theorem dX5_worst_0 : decode cX5_worst 0 = .ok (.aload_n 0, 1) := by decide +kernel
theorem dX5_worst_1 : decode cX5_worst 1 = .ok (.aload_n 0, 1) := by decide +kernel
theorem dX5_worst_2 : decode cX5_worst 2 = .ok (.iload_n 1, 1) := by decide +kernel
theorem dX5_worst_3 : decode cX5_worst 3 = .ok (.invokevirtual 84, 3) := by decide +kernel
theorem dX5_worst_6 : decode cX5_worst 6 = .ok (.ifCond .ne 7, 3) := by decide +kernel
theorem dX5_worst_9 : decode cX5_worst 9 = .ok (.iconst 1, 1) := by decide +kernel
theorem dX5_worst_10 : decode cX5_worst 10 = .ok (.goto 15, 3) := by decide +kernel
theorem dX5_worst_13 : decode cX5_worst 13 = .ok (.iload_n 2, 1) := by decide +kernel
theorem dX5_worst_14 : decode cX5_worst 14 = .ok (.invokestatic 87, 3) := by decide +kernel
theorem dX5_worst_17 : decode cX5_worst 17 = .ok (.ifCond .eq 7, 3) := by decide +kernel
theorem dX5_worst_20 : decode cX5_worst 20 = .ok (.iconst 0, 1) := by decide +kernel
theorem dX5_worst_21 : decode cX5_worst 21 = .ok (.goto 4, 3) := by decide +kernel
theorem dX5_worst_24 : decode cX5_worst 24 = .ok (.iconst 2, 1) := by decide +kernel
theorem dX5_worst_25 : decode cX5_worst 25 = .ok (.invokevirtual 50, 3) := by decide +kernel
theorem dX5_worst_28 : decode cX5_worst 28 = .ok (.ifCond .eq 5, 3) := by decide +kernel
theorem dX5_worst_31 : decode cX5_worst 31 = .ok (.iconst 0, 1) := by decide +kernel
theorem dX5_worst_32 : decode cX5_worst 32 = .ok (.ireturn, 1) := by decide +kernel
theorem dX5_worst_33 : decode cX5_worst 33 = .ok (.aload_n 0, 1) := by decide +kernel
theorem dX5_worst_34 : decode cX5_worst 34 = .ok (.iload_n 1, 1) := by decide +kernel
theorem dX5_worst_35 : decode cX5_worst 35 = .ok (.invokevirtual 126, 3) := by decide +kernel
theorem dX5_worst_38 : decode cX5_worst 38 = .ok (.aload_n 0, 1) := by decide +kernel
theorem dX5_worst_39 : decode cX5_worst 39 = .ok (.iload_n 2, 1) := by decide +kernel
theorem dX5_worst_40 : decode cX5_worst 40 = .ok (.invokevirtual 139, 3) := by decide +kernel
theorem dX5_worst_43 : decode cX5_worst 43 = .ok (.ireturn, 1) := by decide +kernel
set_option maxRecDepth 20000 in
theorem ggX5_bestCards_X5_isGuest : GoodIn wsX5_bestCards wsX5_isGuest := goodIn_r _ [5, 6, 7, 8, 4, 9, 51, 52, 53, 54, 55, 56, 57, 58, 59, 60, 61, 62, 63, 64, 65, 66, 67, 68, 69, 70] (by decide +kernel) (by decide +kernel)
set_option maxRecDepth 20000 in
theorem gX5_bestCards_X5_isGuest : GoodIn wsX5_bestCards (wsV RX5 84 RX5 yX5_isGuest wsX5_isGuest) := goodIn_app (goodIn_of _ (by decide +kernel)) ggX5_bestCards_X5_isGuest
set_option maxRecDepth 20000 in
theorem ggX5_bestCards_X5_refused : GoodIn wsX5_bestCards wsX5_refused := goodIn_r _ [13, 14, 51, 52, 53, 54, 55, 56, 57, 58, 59, 60, 61, 62, 63, 64, 65, 66, 67, 68, 69, 70] (by decide +kernel) (by decide +kernel)
set_option maxRecDepth 20000 in
theorem gX5_bestCards_X5_refused : GoodIn wsX5_bestCards (wsV RX5 50 RX5 yX5_refused wsX5_refused) := goodIn_app (goodIn_of _ (by decide +kernel)) ggX5_bestCards_X5_refused
set_option maxRecDepth 20000 in
theorem ggX5_bestCards_X5_countsAll : GoodIn wsX5_bestCards wsX5_countsAll := goodIn_r _ [18, 19, 20, 21, 22, 23, 24, 25, 6, 26, 27, 28, 4, 29, 30, 31, 32, 33, 34, 35, 36, 37, 38, 39, 40, 41, 42, 51, 52, 53, 54, 55, 56, 57, 58, 59, 60, 61, 62, 63, 64, 65, 66, 67, 68, 69, 70] (by decide +kernel) (by decide +kernel)
set_option maxRecDepth 20000 in
theorem gX5_bestCards_X5_countsAll : GoodIn wsX5_bestCards (wsV RX5 126 RX5 yX5_countsAll wsX5_countsAll) := goodIn_app (goodIn_of _ (by decide +kernel)) ggX5_bestCards_X5_countsAll
set_option maxRecDepth 20000 in
theorem ggX5_bestCards_X5_many : GoodIn wsX5_bestCards wsX5_many := goodIn_r _ [29] (by decide +kernel) (by decide +kernel)
set_option maxRecDepth 20000 in
theorem gX5_bestCards_X5_many : GoodIn wsX5_bestCards (va_wsS RX5 65 yX5_many wsX5_many) := goodIn_app (goodIn_of _ (by decide +kernel)) ggX5_bestCards_X5_many
set_option maxRecDepth 20000 in
theorem ggX5_bestCards_X5_worstOf : GoodIn wsX5_bestCards wsX5_worstOf := goodIn_r _ [46, 47, 48, 49, 4, 50, 22, 27, 28, 29, 51, 52, 53, 54, 55, 56, 57, 58, 59, 60, 61, 62, 63, 64, 65, 66, 67, 68, 69, 70] (by decide +kernel) (by decide +kernel)
set_option maxRecDepth 20000 in
theorem gX5_bestCards_X5_worstOf : GoodIn wsX5_bestCards (wsV RX5 139 RX5 yX5_worstOf wsX5_worstOf) := goodIn_app (goodIn_of _ (by decide +kernel)) ggX5_bestCards_X5_worstOf
theorem dX5_bestCards_0 : decode cX5_bestCards 0 = .ok (.aload_n 0, 1) := by decide +kernel
theorem dX5_bestCards_1 : decode cX5_bestCards 1 = .ok (.aload_n 0, 1) := by decide +kernel
theorem dX5_bestCards_2 : decode cX5_bestCards 2 = .ok (.iload_n 1, 1) := by decide +kernel
theorem dX5_bestCards_3 : decode cX5_bestCards 3 = .ok (.invokevirtual 84, 3) := by decide +kernel
theorem dX5_bestCards_6 : decode cX5_bestCards 6 = .ok (.ifCond .eq 7, 3) := by decide +kernel
theorem dX5_bestCards_9 : decode cX5_bestCards 9 = .ok (.iconst 0, 1) := by decide +kernel
theorem dX5_bestCards_10 : decode cX5_bestCards 10 = .ok (.goto 4, 3) := by decide +kernel
theorem dX5_bestCards_13 : decode cX5_bestCards 13 = .ok (.iconst 1, 1) := by decide +kernel
theorem dX5_bestCards_14 : decode cX5_bestCards 14 = .ok (.invokevirtual 50, 3) := by decide +kernel
theorem dX5_bestCards_17 : decode cX5_bestCards 17 = .ok (.ifCond .eq 5, 3) := by decide +kernel
theorem dX5_bestCards_20 : decode cX5_bestCards 20 = .ok (.iconst 0, 1) := by decide +kernel
theorem dX5_bestCards_21 : decode cX5_bestCards 21 = .ok (.ireturn, 1) := by decide +kernel
theorem dX5_bestCards_22 : decode cX5_bestCards 22 = .ok (.aload_n 0, 1) := by decide +kernel
theorem dX5_bestCards_23 : decode cX5_bestCards 23 = .ok (.iload_n 1, 1) := by decide +kernel
theorem dX5_bestCards_24 : decode cX5_bestCards 24 = .ok (.invokevirtual 126, 3) := by decide +kernel
theorem dX5_bestCards_27 : decode cX5_bestCards 27 = .ok (.iconst 0, 1) := by decide +kernel
theorem dX5_bestCards_28 : decode cX5_bestCards 28 = .ok (.istore_n 2, 1) := by decide +kernel
theorem dX5_bestCards_29 : decode cX5_bestCards 29 = .ok (.iconst 0, 1) := by decide +kernel
theorem dX5_bestCards_30 : decode cX5_bestCards 30 = .ok (.istore_n 3, 1) := by decide +kernel
theorem dX5_bestCards_31 : decode cX5_bestCards 31 = .ok (.iconst 1, 1) := by decide +kernel
theorem dX5_bestCards_32 : decode cX5_bestCards 32 = .ok (.istore 4, 2) := by decide +kernel
theorem dX5_bestCards_34 : decode cX5_bestCards 34 = .ok (.iload 4, 2) := by decide +kernel
theorem dX5_bestCards_36 : decode cX5_bestCards 36 = .ok (.sipush 256, 3) := by decide +kernel
theorem dX5_bestCards_39 : decode cX5_bestCards 39 = .ok (.if_icmp .ge 67, 3) := by decide +kernel
theorem dX5_bestCards_42 : decode cX5_bestCards 42 = .ok (.iload 4, 2) := by decide +kernel
theorem dX5_bestCards_44 : decode cX5_bestCards 44 = .ok (.invokestatic 65, 3) := by decide +kernel
theorem dX5_bestCards_47 : decode cX5_bestCards 47 = .ok (.iconst 3, 1) := by decide +kernel
theorem dX5_bestCards_48 : decode cX5_bestCards 48 = .ok (.if_icmp .ge 52, 3) := by decide +kernel
theorem dX5_bestCards_51 : decode cX5_bestCards 51 = .ok (.aload_n 0, 1) := by decide +kernel
theorem dX5_bestCards_52 : decode cX5_bestCards 52 = .ok (.iload 4, 2) := by decide +kernel
theorem dX5_bestCards_54 : decode cX5_bestCards 54 = .ok (.invokevirtual 139, 3) := by decide +kernel
theorem dX5_bestCards_57 : decode cX5_bestCards 57 = .ok (.istore 5, 2) := by decide +kernel
theorem dX5_bestCards_59 : decode cX5_bestCards 59 = .ok (.iload_n 2, 1) := by decide +kernel
theorem dX5_bestCards_60 : decode cX5_bestCards 60 = .ok (.ifCond .eq 9, 3) := by decide +kernel
theorem dX5_bestCards_63 : decode cX5_bestCards 63 = .ok (.iload 5, 2) := by decide +kernel
theorem dX5_bestCards_65 : decode cX5_bestCards 65 = .ok (.iload_n 3, 1) := by decide +kernel
theorem dX5_bestCards_66 : decode cX5_bestCards 66 = .ok (.if_icmp .ge 7, 3) := by decide +kernel
theorem dX5_bestCards_69 : decode cX5_bestCards 69 = .ok (.iconst 1, 1) := by decide +kernel
theorem dX5_bestCards_70 : decode cX5_bestCards 70 = .ok (.goto 4, 3) := by decide +kernel
theorem dX5_bestCards_73 : decode cX5_bestCards 73 = .ok (.iconst 0, 1) := by decide +kernel
theorem dX5_bestCards_74 : decode cX5_bestCards 74 = .ok (.istore 6, 2) := by decide +kernel
theorem dX5_bestCards_76 : decode cX5_bestCards 76 = .ok (.iload 6, 2) := by decide +kernel
theorem dX5_bestCards_78 : decode cX5_bestCards 78 = .ok (.ifCond .eq 8, 3) := by decide +kernel
theorem dX5_bestCards_81 : decode cX5_bestCards 81 = .ok (.iload 4, 2) := by decide +kernel
theorem dX5_bestCards_83 : decode cX5_bestCards 83 = .ok (.goto 4, 3) := by decide +kernel
theorem dX5_bestCards_86 : decode cX5_bestCards 86 = .ok (.iload_n 2, 1) := by decide +kernel
theorem dX5_bestCards_87 : decode cX5_bestCards 87 = .ok (.istore_n 2, 1) := by decide +kernel
theorem dX5_bestCards_88 : decode cX5_bestCards 88 = .ok (.iload 6, 2) := by decide +kernel
theorem dX5_bestCards_90 : decode cX5_bestCards 90 = .ok (.ifCond .eq 8, 3) := by decide +kernel
theorem dX5_bestCards_93 : decode cX5_bestCards 93 = .ok (.iload 5, 2) := by decide +kernel
theorem dX5_bestCards_95 : decode cX5_bestCards 95 = .ok (.goto 4, 3) := by decide +kernel
theorem dX5_bestCards_98 : decode cX5_bestCards 98 = .ok (.iload_n 3, 1) := by decide +kernel
theorem dX5_bestCards_99 : decode cX5_bestCards 99 = .ok (.istore_n 3, 1) := by decide +kernel
theorem dX5_bestCards_100 : decode cX5_bestCards 100 = .ok (.iinc 4 1, 3) := by decide +kernel
theorem dX5_bestCards_103 : decode cX5_bestCards 103 = .ok (.goto (-69), 3) := by decide +kernel
theorem dX5_bestCards_106 : decode cX5_bestCards 106 = .ok (.iload_n 2, 1) := by decide +kernel
theorem dX5_bestCards_107 : decode cX5_bestCards 107 = .ok (.ireturn, 1) := by decide +kernel
set_option maxRecDepth 20000 in
theorem ggX5_leftByProof_X5_isGuest : GoodIn wsX5_leftByProof wsX5_isGuest := goodIn_r _ [7, 8, 9, 10, 6, 11, 46, 47, 48, 49, 50, 51, 52, 53, 54, 55, 56, 57, 58, 59, 60, 61, 62, 63, 64, 65] (by decide +kernel) (by decide +kernel)
set_option maxRecDepth 20000 in
theorem gX5_leftByProof_X5_isGuest : GoodIn wsX5_leftByProof (wsV RX5 84 RX5 yX5_isGuest wsX5_isGuest) := goodIn_app (goodIn_of _ (by decide +kernel)) ggX5_leftByProof_X5_isGuest
set_option maxRecDepth 20000 in
theorem ggX5_leftByProof_X5_isCard : GoodIn wsX5_leftByProof wsX5_isCard := goodIn_r _ [14, 9, 10, 6, 11] (by decide +kernel) (by decide +kernel)
set_option maxRecDepth 20000 in
theorem gX5_leftByProof_X5_isCard : GoodIn wsX5_leftByProof (va_wsS RX5 98 yX5_isCard wsX5_isCard) := goodIn_app (goodIn_of _ (by decide +kernel)) ggX5_leftByProof_X5_isCard
set_option maxRecDepth 20000 in
theorem ggX5_leftByProof_X5_refused : GoodIn wsX5_leftByProof wsX5_refused := goodIn_r _ [18, 19, 46, 47, 48, 49, 50, 51, 52, 53, 54, 55, 56, 57, 58, 59, 60, 61, 62, 63, 64, 65] (by decide +kernel) (by decide +kernel)
set_option maxRecDepth 20000 in
theorem gX5_leftByProof_X5_refused : GoodIn wsX5_leftByProof (wsV RX5 50 RX5 yX5_refused wsX5_refused) := goodIn_app (goodIn_of _ (by decide +kernel)) ggX5_leftByProof_X5_refused
set_option maxRecDepth 20000 in
theorem ggX5_leftByProof_X5_countsAll : GoodIn wsX5_leftByProof wsX5_countsAll := goodIn_r _ [23, 2, 24, 1, 25, 26, 27, 28, 8, 29, 30, 31, 6, 32, 33, 34, 35, 36, 37, 38, 39, 40, 41, 42, 43, 44, 45, 46, 47, 48, 49, 50, 51, 52, 53, 54, 55, 56, 57, 58, 59, 60, 61, 62, 63, 64, 65] (by decide +kernel) (by decide +kernel)
set_option maxRecDepth 20000 in
theorem gX5_leftByProof_X5_countsAll : GoodIn wsX5_leftByProof (wsV RX5 126 RX5 yX5_countsAll wsX5_countsAll) := goodIn_app (goodIn_of _ (by decide +kernel)) ggX5_leftByProof_X5_countsAll
theorem dX5_leftByProof_0 : decode cX5_leftByProof 0 = .ok (.aload_n 0, 1) := by decide +kernel
theorem dX5_leftByProof_1 : decode cX5_leftByProof 1 = .ok (.aload_n 0, 1) := by decide +kernel
theorem dX5_leftByProof_2 : decode cX5_leftByProof 2 = .ok (.iload_n 1, 1) := by decide +kernel
theorem dX5_leftByProof_3 : decode cX5_leftByProof 3 = .ok (.invokevirtual 84, 3) := by decide +kernel
theorem dX5_leftByProof_6 : decode cX5_leftByProof 6 = .ok (.ifCond .eq 14, 3) := by decide +kernel
theorem dX5_leftByProof_9 : decode cX5_leftByProof 9 = .ok (.iload_n 2, 1) := by decide +kernel
theorem dX5_leftByProof_10 : decode cX5_leftByProof 10 = .ok (.invokestatic 98, 3) := by decide +kernel
theorem dX5_leftByProof_13 : decode cX5_leftByProof 13 = .ok (.ifCond .eq 7, 3) := by decide +kernel
theorem dX5_leftByProof_16 : decode cX5_leftByProof 16 = .ok (.iconst 0, 1) := by decide +kernel
theorem dX5_leftByProof_17 : decode cX5_leftByProof 17 = .ok (.goto 4, 3) := by decide +kernel
theorem dX5_leftByProof_20 : decode cX5_leftByProof 20 = .ok (.iconst 1, 1) := by decide +kernel
theorem dX5_leftByProof_21 : decode cX5_leftByProof 21 = .ok (.invokevirtual 50, 3) := by decide +kernel
theorem dX5_leftByProof_24 : decode cX5_leftByProof 24 = .ok (.ifCond .eq 5, 3) := by decide +kernel
theorem dX5_leftByProof_27 : decode cX5_leftByProof 27 = .ok (.dconst 0, 1) := by decide +kernel
theorem dX5_leftByProof_28 : decode cX5_leftByProof 28 = .ok (.dreturn, 1) := by decide +kernel
theorem dX5_leftByProof_29 : decode cX5_leftByProof 29 = .ok (.aload_n 0, 1) := by decide +kernel
theorem dX5_leftByProof_30 : decode cX5_leftByProof 30 = .ok (.iconst (-1), 1) := by decide +kernel
theorem dX5_leftByProof_31 : decode cX5_leftByProof 31 = .ok (.invokevirtual 126, 3) := by decide +kernel
theorem dX5_leftByProof_34 : decode cX5_leftByProof 34 = .ok (.aload_n 0, 1) := by decide +kernel
theorem dX5_leftByProof_35 : decode cX5_leftByProof 35 = .ok (.getfield 22, 3) := by decide +kernel
theorem dX5_leftByProof_38 : decode cX5_leftByProof 38 = .ok (.bipush 8, 2) := by decide +kernel
theorem dX5_leftByProof_40 : decode cX5_leftByProof 40 = .ok (.iload_n 1, 1) := by decide +kernel
theorem dX5_leftByProof_41 : decode cX5_leftByProof 41 = .ok (.imul, 1) := by decide +kernel
theorem dX5_leftByProof_42 : decode cX5_leftByProof 42 = .ok (.iload_n 2, 1) := by decide +kernel
theorem dX5_leftByProof_43 : decode cX5_leftByProof 43 = .ok (.iadd, 1) := by decide +kernel
theorem dX5_leftByProof_44 : decode cX5_leftByProof 44 = .ok (.iaload, 1) := by decide +kernel
theorem dX5_leftByProof_45 : decode cX5_leftByProof 45 = .ok (.istore_n 3, 1) := by decide +kernel
theorem dX5_leftByProof_46 : decode cX5_leftByProof 46 = .ok (.aload_n 0, 1) := by decide +kernel
theorem dX5_leftByProof_47 : decode cX5_leftByProof 47 = .ok (.getfield 116, 3) := by decide +kernel
theorem dX5_leftByProof_50 : decode cX5_leftByProof 50 = .ok (.iload_n 3, 1) := by decide +kernel
theorem dX5_leftByProof_51 : decode cX5_leftByProof 51 = .ok (.isub, 1) := by decide +kernel
theorem dX5_leftByProof_52 : decode cX5_leftByProof 52 = .ok (.istore 4, 2) := by decide +kernel
theorem dX5_leftByProof_54 : decode cX5_leftByProof 54 = .ok (.aload_n 0, 1) := by decide +kernel
theorem dX5_leftByProof_55 : decode cX5_leftByProof 55 = .ok (.getfield 116, 3) := by decide +kernel
theorem dX5_leftByProof_58 : decode cX5_leftByProof 58 = .ok (.ifCond .ne 7, 3) := by decide +kernel
theorem dX5_leftByProof_61 : decode cX5_leftByProof 61 = .ok (.dconst 0, 1) := by decide +kernel
theorem dX5_leftByProof_62 : decode cX5_leftByProof 62 = .ok (.goto 19, 3) := by decide +kernel
theorem dX5_leftByProof_65 : decode cX5_leftByProof 65 = .ok (.iload_n 3, 1) := by decide +kernel
theorem dX5_leftByProof_66 : decode cX5_leftByProof 66 = .ok (.iload_n 3, 1) := by decide +kernel
theorem dX5_leftByProof_67 : decode cX5_leftByProof 67 = .ok (.imul, 1) := by decide +kernel
theorem dX5_leftByProof_68 : decode cX5_leftByProof 68 = .ok (.iload 4, 2) := by decide +kernel
theorem dX5_leftByProof_70 : decode cX5_leftByProof 70 = .ok (.iload 4, 2) := by decide +kernel
theorem dX5_leftByProof_72 : decode cX5_leftByProof 72 = .ok (.imul, 1) := by decide +kernel
theorem dX5_leftByProof_73 : decode cX5_leftByProof 73 = .ok (.iadd, 1) := by decide +kernel
theorem dX5_leftByProof_74 : decode cX5_leftByProof 74 = .ok (.i2d, 1) := by decide +kernel
theorem dX5_leftByProof_75 : decode cX5_leftByProof 75 = .ok (.aload_n 0, 1) := by decide +kernel
theorem dX5_leftByProof_76 : decode cX5_leftByProof 76 = .ok (.getfield 116, 3) := by decide +kernel
theorem dX5_leftByProof_79 : decode cX5_leftByProof 79 = .ok (.i2d, 1) := by decide +kernel
theorem dX5_leftByProof_80 : decode cX5_leftByProof 80 = .ok (.ddiv, 1) := by decide +kernel
theorem dX5_leftByProof_81 : decode cX5_leftByProof 81 = .ok (.dreturn, 1) := by decide +kernel
set_option maxRecDepth 20000 in
theorem ggX5_append_X5_in : GoodIn wsX5_append wsX5_in := goodIn_r _ [6] (by decide +kernel) (by decide +kernel)
set_option maxRecDepth 20000 in
theorem gX5_append_X5_in : GoodIn wsX5_append (va_wsS RX5 61 yX5_in wsX5_in) := goodIn_app (goodIn_of _ (by decide +kernel)) ggX5_append_X5_in
set_option maxRecDepth 20000 in
theorem ggX5_append_X5_refused : GoodIn wsX5_append wsX5_refused := goodIn_r _ [10, 11, 12, 13, 14, 15, 16, 17, 18, 19, 20, 21, 22, 23, 24, 25, 26, 27, 28, 29, 30, 31] (by decide +kernel) (by decide +kernel)
set_option maxRecDepth 20000 in
theorem gX5_append_X5_refused : GoodIn wsX5_append (wsV RX5 50 RX5 yX5_refused wsX5_refused) := goodIn_app (goodIn_of _ (by decide +kernel)) ggX5_append_X5_refused
theorem dX5_append_0 : decode cX5_append 0 = .ok (.aload_n 0, 1) := by decide +kernel
theorem dX5_append_1 : decode cX5_append 1 = .ok (.iload_n 1, 1) := by decide +kernel
theorem dX5_append_2 : decode cX5_append 2 = .ok (.iconst 0, 1) := by decide +kernel
theorem dX5_append_3 : decode cX5_append 3 = .ok (.bipush 127, 2) := by decide +kernel
theorem dX5_append_5 : decode cX5_append 5 = .ok (.invokestatic 61, 3) := by decide +kernel
theorem dX5_append_8 : decode cX5_append 8 = .ok (.ifCond .ne 7, 3) := by decide +kernel
theorem dX5_append_11 : decode cX5_append 11 = .ok (.iconst 1, 1) := by decide +kernel
theorem dX5_append_12 : decode cX5_append 12 = .ok (.goto 17, 3) := by decide +kernel
theorem dX5_append_15 : decode cX5_append 15 = .ok (.aload_n 0, 1) := by decide +kernel
theorem dX5_append_16 : decode cX5_append 16 = .ok (.getfield 142, 3) := by decide +kernel
theorem dX5_append_19 : decode cX5_append 19 = .ok (.bipush 90, 2) := by decide +kernel
theorem dX5_append_21 : decode cX5_append 21 = .ok (.if_icmp .ne 7, 3) := by decide +kernel
theorem dX5_append_24 : decode cX5_append 24 = .ok (.iconst 2, 1) := by decide +kernel
theorem dX5_append_25 : decode cX5_append 25 = .ok (.goto 4, 3) := by decide +kernel
theorem dX5_append_28 : decode cX5_append 28 = .ok (.iconst 0, 1) := by decide +kernel
theorem dX5_append_29 : decode cX5_append 29 = .ok (.invokevirtual 50, 3) := by decide +kernel
theorem dX5_append_32 : decode cX5_append 32 = .ok (.ifCond .eq 5, 3) := by decide +kernel
theorem dX5_append_35 : decode cX5_append 35 = .ok (.iconst 0, 1) := by decide +kernel
theorem dX5_append_36 : decode cX5_append 36 = .ok (.ireturn, 1) := by decide +kernel
theorem dX5_append_37 : decode cX5_append 37 = .ok (.aload_n 0, 1) := by decide +kernel
theorem dX5_append_38 : decode cX5_append 38 = .ok (.getfield 16, 3) := by decide +kernel
theorem dX5_append_41 : decode cX5_append 41 = .ok (.aload_n 0, 1) := by decide +kernel
theorem dX5_append_42 : decode cX5_append 42 = .ok (.getfield 142, 3) := by decide +kernel
theorem dX5_append_45 : decode cX5_append 45 = .ok (.iload_n 1, 1) := by decide +kernel
theorem dX5_append_46 : decode cX5_append 46 = .ok (.iastore, 1) := by decide +kernel
theorem dX5_append_47 : decode cX5_append 47 = .ok (.aload_n 0, 1) := by decide +kernel
theorem dX5_append_48 : decode cX5_append 48 = .ok (.dup, 1) := by decide +kernel
theorem dX5_append_49 : decode cX5_append 49 = .ok (.getfield 142, 3) := by decide +kernel
theorem dX5_append_52 : decode cX5_append 52 = .ok (.iconst 1, 1) := by decide +kernel
theorem dX5_append_53 : decode cX5_append 53 = .ok (.iadd, 1) := by decide +kernel
theorem dX5_append_54 : decode cX5_append 54 = .ok (.putfield 142, 3) := by decide +kernel
theorem dX5_append_57 : decode cX5_append 57 = .ok (.aload_n 0, 1) := by decide +kernel
theorem dX5_append_58 : decode cX5_append 58 = .ok (.getfield 142, 3) := by decide +kernel
theorem dX5_append_61 : decode cX5_append 61 = .ok (.ireturn, 1) := by decide +kernel
theorem dX5_clearText_0 : decode cX5_clearText 0 = .ok (.aload_n 0, 1) := by decide +kernel
theorem dX5_clearText_1 : decode cX5_clearText 1 = .ok (.iconst 0, 1) := by decide +kernel
theorem dX5_clearText_2 : decode cX5_clearText 2 = .ok (.putfield 43, 3) := by decide +kernel
theorem dX5_clearText_5 : decode cX5_clearText 5 = .ok (.aload_n 0, 1) := by decide +kernel
theorem dX5_clearText_6 : decode cX5_clearText 6 = .ok (.getfield 142, 3) := by decide +kernel
theorem dX5_clearText_9 : decode cX5_clearText 9 = .ok (.istore_n 1, 1) := by decide +kernel
theorem dX5_clearText_10 : decode cX5_clearText 10 = .ok (.aload_n 0, 1) := by decide +kernel
theorem dX5_clearText_11 : decode cX5_clearText 11 = .ok (.iconst 0, 1) := by decide +kernel
theorem dX5_clearText_12 : decode cX5_clearText 12 = .ok (.putfield 142, 3) := by decide +kernel
theorem dX5_clearText_15 : decode cX5_clearText 15 = .ok (.iload_n 1, 1) := by decide +kernel
theorem dX5_clearText_16 : decode cX5_clearText 16 = .ok (.ireturn, 1) := by decide +kernel
set_option maxRecDepth 20000 in
theorem ggX5_isAt_X5_in : GoodIn wsX5_isAt wsX5_in := goodIn_r _ [7] (by decide +kernel) (by decide +kernel)
set_option maxRecDepth 20000 in
theorem gX5_isAt_X5_in : GoodIn wsX5_isAt (va_wsS RX5 61 yX5_in wsX5_in) := goodIn_app (goodIn_of _ (by decide +kernel)) ggX5_isAt_X5_in
theorem dX5_isAt_0 : decode cX5_isAt 0 = .ok (.aload_n 0, 1) := by decide +kernel
theorem dX5_isAt_1 : decode cX5_isAt 1 = .ok (.getfield 145, 3) := by decide +kernel
theorem dX5_isAt_4 : decode cX5_isAt 4 = .ok (.aload_n 0, 1) := by decide +kernel
theorem dX5_isAt_5 : decode cX5_isAt 5 = .ok (.getfield 142, 3) := by decide +kernel
theorem dX5_isAt_8 : decode cX5_isAt 8 = .ok (.if_icmp .ge 24, 3) := by decide +kernel
theorem dX5_isAt_11 : decode cX5_isAt 11 = .ok (.aload_n 0, 1) := by decide +kernel
theorem dX5_isAt_12 : decode cX5_isAt 12 = .ok (.getfield 16, 3) := by decide +kernel
theorem dX5_isAt_15 : decode cX5_isAt 15 = .ok (.aload_n 0, 1) := by decide +kernel
theorem dX5_isAt_16 : decode cX5_isAt 16 = .ok (.getfield 145, 3) := by decide +kernel
theorem dX5_isAt_19 : decode cX5_isAt 19 = .ok (.iaload, 1) := by decide +kernel
theorem dX5_isAt_20 : decode cX5_isAt 20 = .ok (.iload_n 1, 1) := by decide +kernel
theorem dX5_isAt_21 : decode cX5_isAt 21 = .ok (.iload_n 2, 1) := by decide +kernel
theorem dX5_isAt_22 : decode cX5_isAt 22 = .ok (.invokestatic 61, 3) := by decide +kernel
theorem dX5_isAt_25 : decode cX5_isAt 25 = .ok (.ifCond .eq 7, 3) := by decide +kernel
theorem dX5_isAt_28 : decode cX5_isAt 28 = .ok (.iconst 1, 1) := by decide +kernel
theorem dX5_isAt_29 : decode cX5_isAt 29 = .ok (.goto 4, 3) := by decide +kernel
theorem dX5_isAt_32 : decode cX5_isAt 32 = .ok (.iconst 0, 1) := by decide +kernel
theorem dX5_isAt_33 : decode cX5_isAt 33 = .ok (.ireturn, 1) := by decide +kernel
set_option maxRecDepth 20000 in
theorem ggX5_takes_X5_isAt : GoodIn wsX5_takes wsX5_isAt := goodIn_r _ [6, 1, 7, 8, 9, 10, 5, 11, 12, 13, 14, 15, 16, 17, 18, 19, 20, 21, 22, 23, 24, 25, 26, 27, 28, 29, 30, 31] (by decide +kernel) (by decide +kernel)
set_option maxRecDepth 20000 in
theorem gX5_takes_X5_isAt : GoodIn wsX5_takes (wsV RX5 148 RX5 yX5_isAt wsX5_isAt) := goodIn_app (goodIn_of _ (by decide +kernel)) ggX5_takes_X5_isAt
theorem dX5_takes_0 : decode cX5_takes 0 = .ok (.aload_n 0, 1) := by decide +kernel
theorem dX5_takes_1 : decode cX5_takes 1 = .ok (.iload_n 1, 1) := by decide +kernel
theorem dX5_takes_2 : decode cX5_takes 2 = .ok (.iload_n 2, 1) := by decide +kernel
theorem dX5_takes_3 : decode cX5_takes 3 = .ok (.invokevirtual 148, 3) := by decide +kernel
theorem dX5_takes_6 : decode cX5_takes 6 = .ok (.istore_n 3, 1) := by decide +kernel
theorem dX5_takes_7 : decode cX5_takes 7 = .ok (.aload_n 0, 1) := by decide +kernel
theorem dX5_takes_8 : decode cX5_takes 8 = .ok (.dup, 1) := by decide +kernel
theorem dX5_takes_9 : decode cX5_takes 9 = .ok (.getfield 145, 3) := by decide +kernel
theorem dX5_takes_12 : decode cX5_takes 12 = .ok (.iload_n 3, 1) := by decide +kernel
theorem dX5_takes_13 : decode cX5_takes 13 = .ok (.ifCond .eq 7, 3) := by decide +kernel
theorem dX5_takes_16 : decode cX5_takes 16 = .ok (.iconst 1, 1) := by decide +kernel
theorem dX5_takes_17 : decode cX5_takes 17 = .ok (.goto 4, 3) := by decide +kernel
theorem dX5_takes_20 : decode cX5_takes 20 = .ok (.iconst 0, 1) := by decide +kernel
theorem dX5_takes_21 : decode cX5_takes 21 = .ok (.iadd, 1) := by decide +kernel
theorem dX5_takes_22 : decode cX5_takes 22 = .ok (.putfield 145, 3) := by decide +kernel
theorem dX5_takes_25 : decode cX5_takes 25 = .ok (.iload_n 3, 1) := by decide +kernel
theorem dX5_takes_26 : decode cX5_takes 26 = .ok (.ireturn, 1) := by decide +kernel
set_option maxRecDepth 20000 in
theorem ggX5_reads_X5_isAt : GoodIn wsX5_reads wsX5_isAt := goodIn_r _ [10, 2, 11, 1, 12, 13, 9, 14, 19, 20, 21, 22, 23, 24, 25, 26, 27, 28, 29, 30, 31, 32, 33, 34, 35, 36, 37, 38] (by decide +kernel) (by decide +kernel)
set_option maxRecDepth 20000 in
theorem gX5_reads_X5_isAt : GoodIn wsX5_reads (wsV RX5 148 RX5 yX5_isAt wsX5_isAt) := goodIn_app (goodIn_of _ (by decide +kernel)) ggX5_reads_X5_isAt
set_option maxRecDepth 20000 in
theorem ggX5_reads_X5_takes : GoodIn wsX5_reads wsX5_takes := goodIn_r _ [18, 2, 6, 7, 8, 9, 10, 11, 1, 12, 13, 14, 19, 20, 21, 22, 23, 24, 25, 26, 27, 28, 29, 30, 31, 32, 33, 34, 35, 36, 37, 38] (by decide +kernel) (by decide +kernel)
set_option maxRecDepth 20000 in
theorem gX5_reads_X5_takes : GoodIn wsX5_reads (wsV RX5 154 RX5 yX5_takes wsX5_takes) := goodIn_app (goodIn_of _ (by decide +kernel)) ggX5_reads_X5_takes
theorem dX5_reads_0 : decode cX5_reads 0 = .ok (.aload_n 0, 1) := by decide +kernel
theorem dX5_reads_1 : decode cX5_reads 1 = .ok (.bipush 97, 2) := by decide +kernel
theorem dX5_reads_3 : decode cX5_reads 3 = .ok (.bipush 97, 2) := by decide +kernel
theorem dX5_reads_5 : decode cX5_reads 5 = .ok (.invokevirtual 148, 3) := by decide +kernel
theorem dX5_reads_8 : decode cX5_reads 8 = .ok (.ifCond .ne 38, 3) := by decide +kernel
theorem dX5_reads_11 : decode cX5_reads 11 = .ok (.aload_n 0, 1) := by decide +kernel
theorem dX5_reads_12 : decode cX5_reads 12 = .ok (.bipush 108, 2) := by decide +kernel
theorem dX5_reads_14 : decode cX5_reads 14 = .ok (.bipush 108, 2) := by decide +kernel
theorem dX5_reads_16 : decode cX5_reads 16 = .ok (.invokevirtual 148, 3) := by decide +kernel
theorem dX5_reads_19 : decode cX5_reads 19 = .ok (.ifCond .ne 27, 3) := by decide +kernel
theorem dX5_reads_22 : decode cX5_reads 22 = .ok (.aload_n 0, 1) := by decide +kernel
theorem dX5_reads_23 : decode cX5_reads 23 = .ok (.bipush 112, 2) := by decide +kernel
theorem dX5_reads_25 : decode cX5_reads 25 = .ok (.bipush 112, 2) := by decide +kernel
theorem dX5_reads_27 : decode cX5_reads 27 = .ok (.invokevirtual 148, 3) := by decide +kernel
theorem dX5_reads_30 : decode cX5_reads 30 = .ok (.ifCond .ne 16, 3) := by decide +kernel
theorem dX5_reads_33 : decode cX5_reads 33 = .ok (.aload_n 0, 1) := by decide +kernel
theorem dX5_reads_34 : decode cX5_reads 34 = .ok (.bipush 103, 2) := by decide +kernel
theorem dX5_reads_36 : decode cX5_reads 36 = .ok (.bipush 103, 2) := by decide +kernel
theorem dX5_reads_38 : decode cX5_reads 38 = .ok (.invokevirtual 148, 3) := by decide +kernel
theorem dX5_reads_41 : decode cX5_reads 41 = .ok (.ifCond .ne 5, 3) := by decide +kernel
theorem dX5_reads_44 : decode cX5_reads 44 = .ok (.iconst 0, 1) := by decide +kernel
theorem dX5_reads_45 : decode cX5_reads 45 = .ok (.ireturn, 1) := by decide +kernel
theorem dX5_reads_46 : decode cX5_reads 46 = .ok (.aload_n 0, 1) := by decide +kernel
theorem dX5_reads_47 : decode cX5_reads 47 = .ok (.aload_n 0, 1) := by decide +kernel
theorem dX5_reads_48 : decode cX5_reads 48 = .ok (.getfield 16, 3) := by decide +kernel
theorem dX5_reads_51 : decode cX5_reads 51 = .ok (.aload_n 0, 1) := by decide +kernel
theorem dX5_reads_52 : decode cX5_reads 52 = .ok (.getfield 145, 3) := by decide +kernel
theorem dX5_reads_55 : decode cX5_reads 55 = .ok (.iaload, 1) := by decide +kernel
theorem dX5_reads_56 : decode cX5_reads 56 = .ok (.putfield 151, 3) := by decide +kernel
theorem dX5_reads_59 : decode cX5_reads 59 = .ok (.aload_n 0, 1) := by decide +kernel
theorem dX5_reads_60 : decode cX5_reads 60 = .ok (.dup, 1) := by decide +kernel
theorem dX5_reads_61 : decode cX5_reads 61 = .ok (.getfield 145, 3) := by decide +kernel
theorem dX5_reads_64 : decode cX5_reads 64 = .ok (.iconst 1, 1) := by decide +kernel
theorem dX5_reads_65 : decode cX5_reads 65 = .ok (.iadd, 1) := by decide +kernel
theorem dX5_reads_66 : decode cX5_reads 66 = .ok (.putfield 145, 3) := by decide +kernel
