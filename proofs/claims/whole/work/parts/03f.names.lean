theorem dX4_accuse_0 : decode cX4_accuse 0 = .ok (.iload_n 1, 1) := by decide +kernel
theorem dX4_accuse_1 : decode cX4_accuse 1 = .ok (.invokestatic 102, 3) := by decide +kernel
theorem dX4_accuse_4 : decode cX4_accuse 4 = .ok (.ifCond .ne 13, 3) := by decide +kernel
theorem dX4_accuse_7 : decode cX4_accuse 7 = .ok (.new 82, 3) := by decide +kernel
theorem dX4_accuse_10 : decode cX4_accuse 10 = .ok (.dup, 1) := by decide +kernel
theorem dX4_accuse_11 : decode cX4_accuse 11 = .ok (.ldc 122, 2) := by decide +kernel
theorem dX4_accuse_13 : decode cX4_accuse 13 = .ok (.invokespecial 86, 3) := by decide +kernel
theorem dX4_accuse_16 : decode cX4_accuse 16 = .ok (.athrow, 1) := by decide +kernel
theorem dX4_accuse_17 : decode cX4_accuse 17 = .ok (.aload_n 0, 1) := by decide +kernel
theorem dX4_accuse_18 : decode cX4_accuse 18 = .ok (.getfield 10, 3) := by decide +kernel
theorem dX4_accuse_21 : decode cX4_accuse 21 = .ok (.getfield 54, 3) := by decide +kernel
theorem dX4_accuse_24 : decode cX4_accuse 24 = .ok (.ifCond .ne 13, 3) := by decide +kernel
theorem dX4_accuse_27 : decode cX4_accuse 27 = .ok (.new 58, 3) := by decide +kernel
theorem dX4_accuse_30 : decode cX4_accuse 30 = .ok (.dup, 1) := by decide +kernel
theorem dX4_accuse_31 : decode cX4_accuse 31 = .ok (.ldc 124, 2) := by decide +kernel
theorem dX4_accuse_33 : decode cX4_accuse 33 = .ok (.invokespecial 62, 3) := by decide +kernel
theorem dX4_accuse_36 : decode cX4_accuse 36 = .ok (.athrow, 1) := by decide +kernel
theorem dX4_accuse_37 : decode cX4_accuse 37 = .ok (.aload_n 0, 1) := by decide +kernel
theorem dX4_accuse_38 : decode cX4_accuse 38 = .ok (.invokevirtual 63, 3) := by decide +kernel
theorem dX4_accuse_41 : decode cX4_accuse 41 = .ok (.aload_n 0, 1) := by decide +kernel
theorem dX4_accuse_42 : decode cX4_accuse 42 = .ok (.getfield 10, 3) := by decide +kernel
theorem dX4_accuse_45 : decode cX4_accuse 45 = .ok (.iload_n 1, 1) := by decide +kernel
theorem dX4_accuse_46 : decode cX4_accuse 46 = .ok (.invokevirtual 126, 3) := by decide +kernel
theorem dX4_accuse_49 : decode cX4_accuse 49 = .ok (.ireturn, 1) := by decide +kernel
set_option maxRecDepth 20000 in
theorem ggX4_guest_X1_hasGuest : GoodIn wsX4_guest wsX1_hasGuest := goodIn_r _ [10, 11, 65, 66, 67, 68, 69, 70, 71, 72, 73, 74, 75, 76, 77, 78, 79, 80, 81] (by decide +kernel) (by decide +kernel)
set_option maxRecDepth 20000 in
theorem gX4_guest_X1_hasGuest : GoodIn wsX4_guest (wsV RX4 78 RX1 yX1_hasGuest wsX1_hasGuest) := goodIn_app (goodIn_of _ (by decide +kernel)) ggX4_guest_X1_hasGuest
set_option maxRecDepth 20000 in
theorem ggX4_guest_X1_aboutGuest : GoodIn wsX4_guest wsX1_aboutGuest := goodIn_r _ [15, 11, 16, 17, 18, 19, 20, 21, 22, 23, 24, 25, 26, 27, 9, 28, 29, 30, 31, 32, 33, 34, 35, 36, 37, 38, 39, 40, 41, 42, 43, 44, 45, 46, 47, 48, 49, 50, 51, 52, 53, 54, 55, 56, 57, 65, 66, 67, 68, 69, 70, 71, 72, 73, 74, 75, 76, 77, 78, 79, 80, 81, 82, 83, 84, 85] (by decide +kernel) (by decide +kernel)
set_option maxRecDepth 20000 in
theorem gX4_guest_X1_aboutGuest : GoodIn wsX4_guest (wsV RX4 131 RX1 yX1_aboutGuest wsX1_aboutGuest) := goodIn_app (goodIn_of _ (by decide +kernel)) ggX4_guest_X1_aboutGuest
theorem dX4_guest_0 : decode cX4_guest 0 = .ok (.aload_n 0, 1) := by decide +kernel
theorem dX4_guest_1 : decode cX4_guest 1 = .ok (.getfield 10, 3) := by decide +kernel
theorem dX4_guest_4 : decode cX4_guest 4 = .ok (.iload_n 1, 1) := by decide +kernel
theorem dX4_guest_5 : decode cX4_guest 5 = .ok (.invokevirtual 78, 3) := by decide +kernel
theorem dX4_guest_8 : decode cX4_guest 8 = .ok (.ifCond .ne 13, 3) := by decide +kernel
theorem dX4_guest_11 : decode cX4_guest 11 = .ok (.new 82, 3) := by decide +kernel
theorem dX4_guest_14 : decode cX4_guest 14 = .ok (.dup, 1) := by decide +kernel
theorem dX4_guest_15 : decode cX4_guest 15 = .ok (.ldc 84, 2) := by decide +kernel
theorem dX4_guest_17 : decode cX4_guest 17 = .ok (.invokespecial 86, 3) := by decide +kernel
theorem dX4_guest_20 : decode cX4_guest 20 = .ok (.athrow, 1) := by decide +kernel
theorem dX4_guest_21 : decode cX4_guest 21 = .ok (.iload_n 2, 1) := by decide +kernel
theorem dX4_guest_22 : decode cX4_guest 22 = .ok (.ifCond .lt 9, 3) := by decide +kernel
theorem dX4_guest_25 : decode cX4_guest 25 = .ok (.iload_n 2, 1) := by decide +kernel
theorem dX4_guest_26 : decode cX4_guest 26 = .ok (.bipush 8, 2) := by decide +kernel
theorem dX4_guest_28 : decode cX4_guest 28 = .ok (.if_icmp .lt 13, 3) := by decide +kernel
theorem dX4_guest_31 : decode cX4_guest 31 = .ok (.new 44, 3) := by decide +kernel
theorem dX4_guest_34 : decode cX4_guest 34 = .ok (.dup, 1) := by decide +kernel
theorem dX4_guest_35 : decode cX4_guest 35 = .ok (.ldc 129, 2) := by decide +kernel
theorem dX4_guest_37 : decode cX4_guest 37 = .ok (.invokespecial 48, 3) := by decide +kernel
theorem dX4_guest_40 : decode cX4_guest 40 = .ok (.athrow, 1) := by decide +kernel
theorem dX4_guest_41 : decode cX4_guest 41 = .ok (.aload_n 0, 1) := by decide +kernel
theorem dX4_guest_42 : decode cX4_guest 42 = .ok (.getfield 10, 3) := by decide +kernel
theorem dX4_guest_45 : decode cX4_guest 45 = .ok (.iload_n 1, 1) := by decide +kernel
theorem dX4_guest_46 : decode cX4_guest 46 = .ok (.iload_n 2, 1) := by decide +kernel
theorem dX4_guest_47 : decode cX4_guest 47 = .ok (.invokevirtual 131, 3) := by decide +kernel
theorem dX4_guest_50 : decode cX4_guest 50 = .ok (.ireturn, 1) := by decide +kernel
set_option maxRecDepth 20000 in
theorem ggX4_value_X1_aboutHouse : GoodIn wsX4_value wsX1_aboutHouse := goodIn_r _ [8, 9, 10, 11, 12, 13, 14, 15, 16, 17, 18, 19, 20, 21, 22, 23, 24, 25, 33, 34, 35, 36, 37, 38, 39, 40, 41, 42, 43, 44, 45, 46, 47, 48, 49] (by decide +kernel) (by decide +kernel)
set_option maxRecDepth 20000 in
theorem gX4_value_X1_aboutHouse : GoodIn wsX4_value (wsV RX4 134 RX1 yX1_aboutHouse wsX1_aboutHouse) := goodIn_app (goodIn_of _ (by decide +kernel)) ggX4_value_X1_aboutHouse
theorem dX4_value_0 : decode cX4_value 0 = .ok (.iload_n 1, 1) := by decide +kernel
theorem dX4_value_1 : decode cX4_value 1 = .ok (.ifCond .lt 9, 3) := by decide +kernel
theorem dX4_value_4 : decode cX4_value 4 = .ok (.iload_n 1, 1) := by decide +kernel
theorem dX4_value_5 : decode cX4_value 5 = .ok (.bipush 10, 2) := by decide +kernel
theorem dX4_value_7 : decode cX4_value 7 = .ok (.if_icmp .lt 13, 3) := by decide +kernel
theorem dX4_value_10 : decode cX4_value 10 = .ok (.new 44, 3) := by decide +kernel
theorem dX4_value_13 : decode cX4_value 13 = .ok (.dup, 1) := by decide +kernel
theorem dX4_value_14 : decode cX4_value 14 = .ok (.ldc 129, 2) := by decide +kernel
theorem dX4_value_16 : decode cX4_value 16 = .ok (.invokespecial 48, 3) := by decide +kernel
theorem dX4_value_19 : decode cX4_value 19 = .ok (.athrow, 1) := by decide +kernel
theorem dX4_value_20 : decode cX4_value 20 = .ok (.aload_n 0, 1) := by decide +kernel
theorem dX4_value_21 : decode cX4_value 21 = .ok (.getfield 10, 3) := by decide +kernel
theorem dX4_value_24 : decode cX4_value 24 = .ok (.iload_n 1, 1) := by decide +kernel
theorem dX4_value_25 : decode cX4_value 25 = .ok (.invokevirtual 134, 3) := by decide +kernel
theorem dX4_value_28 : decode cX4_value 28 = .ok (.ireturn, 1) := by decide +kernel
set_option maxRecDepth 20000 in
theorem ggX4_question_X1_aboutQuestion : GoodIn wsX4_question wsX1_aboutQuestion := goodIn_r _ [10, 11, 12, 13, 21, 22, 23, 24, 25, 26, 27, 28, 29, 30, 31, 32, 33, 34, 35, 36, 37] (by decide +kernel) (by decide +kernel)
set_option maxRecDepth 20000 in
theorem gX4_question_X1_aboutQuestion : GoodIn wsX4_question (wsV RX4 143 RX1 yX1_aboutQuestion wsX1_aboutQuestion) := goodIn_app (goodIn_of _ (by decide +kernel)) ggX4_question_X1_aboutQuestion
theorem dX4_question_0 : decode cX4_question 0 = .ok (.iload_n 1, 1) := by decide +kernel
theorem dX4_question_1 : decode cX4_question 1 = .ok (.ifCond .lt 14, 3) := by decide +kernel
theorem dX4_question_4 : decode cX4_question 4 = .ok (.iload_n 1, 1) := by decide +kernel
theorem dX4_question_5 : decode cX4_question 5 = .ok (.aload_n 0, 1) := by decide +kernel
theorem dX4_question_6 : decode cX4_question 6 = .ok (.getfield 10, 3) := by decide +kernel
theorem dX4_question_9 : decode cX4_question 9 = .ok (.getfield 137, 3) := by decide +kernel
theorem dX4_question_12 : decode cX4_question 12 = .ok (.if_icmp .lt 13, 3) := by decide +kernel
theorem dX4_question_15 : decode cX4_question 15 = .ok (.new 82, 3) := by decide +kernel
theorem dX4_question_18 : decode cX4_question 18 = .ok (.dup, 1) := by decide +kernel
theorem dX4_question_19 : decode cX4_question 19 = .ok (.ldc 141, 2) := by decide +kernel
theorem dX4_question_21 : decode cX4_question 21 = .ok (.invokespecial 86, 3) := by decide +kernel
theorem dX4_question_24 : decode cX4_question 24 = .ok (.athrow, 1) := by decide +kernel
theorem dX4_question_25 : decode cX4_question 25 = .ok (.iload_n 2, 1) := by decide +kernel
theorem dX4_question_26 : decode cX4_question 26 = .ok (.ifCond .lt 8, 3) := by decide +kernel
theorem dX4_question_29 : decode cX4_question 29 = .ok (.iload_n 2, 1) := by decide +kernel
theorem dX4_question_30 : decode cX4_question 30 = .ok (.iconst 3, 1) := by decide +kernel
theorem dX4_question_31 : decode cX4_question 31 = .ok (.if_icmp .lt 13, 3) := by decide +kernel
theorem dX4_question_34 : decode cX4_question 34 = .ok (.new 44, 3) := by decide +kernel
theorem dX4_question_37 : decode cX4_question 37 = .ok (.dup, 1) := by decide +kernel
theorem dX4_question_38 : decode cX4_question 38 = .ok (.ldc 129, 2) := by decide +kernel
theorem dX4_question_40 : decode cX4_question 40 = .ok (.invokespecial 48, 3) := by decide +kernel
theorem dX4_question_43 : decode cX4_question 43 = .ok (.athrow, 1) := by decide +kernel
theorem dX4_question_44 : decode cX4_question 44 = .ok (.aload_n 0, 1) := by decide +kernel
theorem dX4_question_45 : decode cX4_question 45 = .ok (.getfield 10, 3) := by decide +kernel
theorem dX4_question_48 : decode cX4_question 48 = .ok (.iload_n 1, 1) := by decide +kernel
theorem dX4_question_49 : decode cX4_question 49 = .ok (.iload_n 2, 1) := by decide +kernel
theorem dX4_question_50 : decode cX4_question 50 = .ok (.invokevirtual 143, 3) := by decide +kernel
theorem dX4_question_53 : decode cX4_question 53 = .ok (.ireturn, 1) := by decide +kernel
theorem dX4_deals_0 : decode cX4_deals 0 = .ok (.aload_n 0, 1) := by decide +kernel
theorem dX4_deals_1 : decode cX4_deals 1 = .ok (.getfield 10, 3) := by decide +kernel
theorem dX4_deals_4 : decode cX4_deals 4 = .ok (.getfield 146, 3) := by decide +kernel
theorem dX4_deals_7 : decode cX4_deals 7 = .ok (.getfield 149, 3) := by decide +kernel
theorem dX4_deals_10 : decode cX4_deals 10 = .ok (.ireturn, 1) := by decide +kernel
set_option maxRecDepth 20000 in
theorem ggX4_dealsWith_X4_isCard : GoodIn wsX4_dealsWith wsX4_isCard := goodIn_r _ [7] (by decide +kernel) (by decide +kernel)
set_option maxRecDepth 20000 in
theorem gX4_dealsWith_X4_isCard : GoodIn wsX4_dealsWith (va_wsS RX4 102 yX4_isCard wsX4_isCard) := goodIn_app (goodIn_of _ (by decide +kernel)) ggX4_dealsWith_X4_isCard
set_option maxRecDepth 20000 in
theorem ggX4_dealsWith_X0_countWith : GoodIn wsX4_dealsWith wsX0_countWith := goodIn_r _ [12, 13, 14, 15, 11, 16, 17, 18, 19, 20, 21, 22, 23, 24, 25, 50, 51, 52, 53] (by decide +kernel) (by decide +kernel)
set_option maxRecDepth 20000 in
theorem gX4_dealsWith_X0_countWith : GoodIn wsX4_dealsWith (wsV RX4 152 RX0 yX0_countWith wsX0_countWith) := goodIn_app (goodIn_of _ (by decide +kernel)) ggX4_dealsWith_X0_countWith
theorem dX4_dealsWith_0 : decode cX4_dealsWith 0 = .ok (.iload_n 1, 1) := by decide +kernel
theorem dX4_dealsWith_1 : decode cX4_dealsWith 1 = .ok (.invokestatic 102, 3) := by decide +kernel
theorem dX4_dealsWith_4 : decode cX4_dealsWith 4 = .ok (.ifCond .ne 13, 3) := by decide +kernel
theorem dX4_dealsWith_7 : decode cX4_dealsWith 7 = .ok (.new 82, 3) := by decide +kernel
theorem dX4_dealsWith_10 : decode cX4_dealsWith 10 = .ok (.dup, 1) := by decide +kernel
theorem dX4_dealsWith_11 : decode cX4_dealsWith 11 = .ok (.ldc 122, 2) := by decide +kernel
theorem dX4_dealsWith_13 : decode cX4_dealsWith 13 = .ok (.invokespecial 86, 3) := by decide +kernel
theorem dX4_dealsWith_16 : decode cX4_dealsWith 16 = .ok (.athrow, 1) := by decide +kernel
theorem dX4_dealsWith_17 : decode cX4_dealsWith 17 = .ok (.aload_n 0, 1) := by decide +kernel
theorem dX4_dealsWith_18 : decode cX4_dealsWith 18 = .ok (.getfield 10, 3) := by decide +kernel
theorem dX4_dealsWith_21 : decode cX4_dealsWith 21 = .ok (.getfield 146, 3) := by decide +kernel
theorem dX4_dealsWith_24 : decode cX4_dealsWith 24 = .ok (.iconst 4, 1) := by decide +kernel
theorem dX4_dealsWith_25 : decode cX4_dealsWith 25 = .ok (.iload_n 1, 1) := by decide +kernel
theorem dX4_dealsWith_26 : decode cX4_dealsWith 26 = .ok (.invokevirtual 152, 3) := by decide +kernel
theorem dX4_dealsWith_29 : decode cX4_dealsWith 29 = .ok (.ireturn, 1) := by decide +kernel
set_option maxRecDepth 20000 in
theorem ggX4_dealsHeld_X1_hasGuest : GoodIn wsX4_dealsHeld wsX1_hasGuest := goodIn_r _ [8, 9, 39, 40, 41, 42, 43, 44, 45, 46, 47, 48, 49, 50, 51, 52, 53, 54, 55] (by decide +kernel) (by decide +kernel)
set_option maxRecDepth 20000 in
theorem gX4_dealsHeld_X1_hasGuest : GoodIn wsX4_dealsHeld (wsV RX4 78 RX1 yX1_hasGuest wsX1_hasGuest) := goodIn_app (goodIn_of _ (by decide +kernel)) ggX4_dealsHeld_X1_hasGuest
set_option maxRecDepth 20000 in
theorem ggX4_dealsHeld_X4_isCard : GoodIn wsX4_dealsHeld wsX4_isCard := goodIn_r _ [13] (by decide +kernel) (by decide +kernel)
set_option maxRecDepth 20000 in
theorem gX4_dealsHeld_X4_isCard : GoodIn wsX4_dealsHeld (va_wsS RX4 102 yX4_isCard wsX4_isCard) := goodIn_app (goodIn_of _ (by decide +kernel)) ggX4_dealsHeld_X4_isCard
set_option maxRecDepth 20000 in
theorem ggX4_dealsHeld_X0_countWith : GoodIn wsX4_dealsHeld wsX0_countWith := goodIn_r _ [18, 19, 20, 21, 17, 22, 23, 24, 25, 26, 27, 28, 29, 30, 31, 56, 57, 58, 59] (by decide +kernel) (by decide +kernel)
set_option maxRecDepth 20000 in
theorem gX4_dealsHeld_X0_countWith : GoodIn wsX4_dealsHeld (wsV RX4 152 RX0 yX0_countWith wsX0_countWith) := goodIn_app (goodIn_of _ (by decide +kernel)) ggX4_dealsHeld_X0_countWith
theorem dX4_dealsHeld_0 : decode cX4_dealsHeld 0 = .ok (.aload_n 0, 1) := by decide +kernel
theorem dX4_dealsHeld_1 : decode cX4_dealsHeld 1 = .ok (.getfield 10, 3) := by decide +kernel
theorem dX4_dealsHeld_4 : decode cX4_dealsHeld 4 = .ok (.iload_n 1, 1) := by decide +kernel
theorem dX4_dealsHeld_5 : decode cX4_dealsHeld 5 = .ok (.invokevirtual 78, 3) := by decide +kernel
theorem dX4_dealsHeld_8 : decode cX4_dealsHeld 8 = .ok (.ifCond .eq 10, 3) := by decide +kernel
theorem dX4_dealsHeld_11 : decode cX4_dealsHeld 11 = .ok (.iload_n 2, 1) := by decide +kernel
theorem dX4_dealsHeld_12 : decode cX4_dealsHeld 12 = .ok (.invokestatic 102, 3) := by decide +kernel
theorem dX4_dealsHeld_15 : decode cX4_dealsHeld 15 = .ok (.ifCond .ne 13, 3) := by decide +kernel
theorem dX4_dealsHeld_18 : decode cX4_dealsHeld 18 = .ok (.new 82, 3) := by decide +kernel
theorem dX4_dealsHeld_21 : decode cX4_dealsHeld 21 = .ok (.dup, 1) := by decide +kernel
theorem dX4_dealsHeld_22 : decode cX4_dealsHeld 22 = .ok (.ldc 105, 2) := by decide +kernel
theorem dX4_dealsHeld_24 : decode cX4_dealsHeld 24 = .ok (.invokespecial 86, 3) := by decide +kernel
theorem dX4_dealsHeld_27 : decode cX4_dealsHeld 27 = .ok (.athrow, 1) := by decide +kernel
theorem dX4_dealsHeld_28 : decode cX4_dealsHeld 28 = .ok (.aload_n 0, 1) := by decide +kernel
theorem dX4_dealsHeld_29 : decode cX4_dealsHeld 29 = .ok (.getfield 10, 3) := by decide +kernel
theorem dX4_dealsHeld_32 : decode cX4_dealsHeld 32 = .ok (.getfield 146, 3) := by decide +kernel
theorem dX4_dealsHeld_35 : decode cX4_dealsHeld 35 = .ok (.iload_n 1, 1) := by decide +kernel
theorem dX4_dealsHeld_36 : decode cX4_dealsHeld 36 = .ok (.iload_n 2, 1) := by decide +kernel
theorem dX4_dealsHeld_37 : decode cX4_dealsHeld 37 = .ok (.invokevirtual 152, 3) := by decide +kernel
theorem dX4_dealsHeld_40 : decode cX4_dealsHeld 40 = .ok (.ireturn, 1) := by decide +kernel
set_option maxRecDepth 20000 in
theorem ggX4_culprits_X0_cardsInSome : GoodIn wsX4_culprits wsX0_cardsInSome := goodIn_r _ [6, 7, 8, 9, 5, 10, 35, 36, 37, 38] (by decide +kernel) (by decide +kernel)
set_option maxRecDepth 20000 in
theorem gX4_culprits_X0_cardsInSome : GoodIn wsX4_culprits (wsV RX4 155 RX0 yX0_cardsInSome wsX0_cardsInSome) := goodIn_app (goodIn_of _ (by decide +kernel)) ggX4_culprits_X0_cardsInSome
theorem dX4_culprits_0 : decode cX4_culprits 0 = .ok (.aload_n 0, 1) := by decide +kernel
theorem dX4_culprits_1 : decode cX4_culprits 1 = .ok (.getfield 10, 3) := by decide +kernel
theorem dX4_culprits_4 : decode cX4_culprits 4 = .ok (.getfield 146, 3) := by decide +kernel
theorem dX4_culprits_7 : decode cX4_culprits 7 = .ok (.iconst 4, 1) := by decide +kernel
theorem dX4_culprits_8 : decode cX4_culprits 8 = .ok (.invokevirtual 155, 3) := by decide +kernel
theorem dX4_culprits_11 : decode cX4_culprits 11 = .ok (.ireturn, 1) := by decide +kernel
set_option maxRecDepth 20000 in
theorem ggX4_likeliest_X0_countWith : GoodIn wsX4_likeliest wsX0_countWith := goodIn_r _ [6, 7, 8, 9, 5, 10, 11, 12, 13, 14, 15, 16, 17, 18, 19, 44, 45, 46, 47] (by decide +kernel) (by decide +kernel)
set_option maxRecDepth 20000 in
theorem gX4_likeliest_X0_countWith : GoodIn wsX4_likeliest (wsV RX4 152 RX0 yX0_countWith wsX0_countWith) := goodIn_app (goodIn_of _ (by decide +kernel)) ggX4_likeliest_X0_countWith
theorem dX4_likeliest_0 : decode cX4_likeliest 0 = .ok (.iconst (-1), 1) := by decide +kernel
theorem dX4_likeliest_1 : decode cX4_likeliest 1 = .ok (.istore_n 1, 1) := by decide +kernel
theorem dX4_likeliest_2 : decode cX4_likeliest 2 = .ok (.iconst 0, 1) := by decide +kernel
theorem dX4_likeliest_3 : decode cX4_likeliest 3 = .ok (.istore_n 2, 1) := by decide +kernel
theorem dX4_likeliest_4 : decode cX4_likeliest 4 = .ok (.iconst 0, 1) := by decide +kernel
theorem dX4_likeliest_5 : decode cX4_likeliest 5 = .ok (.istore_n 3, 1) := by decide +kernel
theorem dX4_likeliest_6 : decode cX4_likeliest 6 = .ok (.iload_n 3, 1) := by decide +kernel
theorem dX4_likeliest_7 : decode cX4_likeliest 7 = .ok (.bipush 8, 2) := by decide +kernel
theorem dX4_likeliest_9 : decode cX4_likeliest 9 = .ok (.if_icmp .ge 34, 3) := by decide +kernel
theorem dX4_likeliest_12 : decode cX4_likeliest 12 = .ok (.aload_n 0, 1) := by decide +kernel
theorem dX4_likeliest_13 : decode cX4_likeliest 13 = .ok (.getfield 10, 3) := by decide +kernel
theorem dX4_likeliest_16 : decode cX4_likeliest 16 = .ok (.getfield 146, 3) := by decide +kernel
theorem dX4_likeliest_19 : decode cX4_likeliest 19 = .ok (.iconst 4, 1) := by decide +kernel
theorem dX4_likeliest_20 : decode cX4_likeliest 20 = .ok (.iload_n 3, 1) := by decide +kernel
theorem dX4_likeliest_21 : decode cX4_likeliest 21 = .ok (.invokevirtual 152, 3) := by decide +kernel
theorem dX4_likeliest_24 : decode cX4_likeliest 24 = .ok (.istore 4, 2) := by decide +kernel
theorem dX4_likeliest_26 : decode cX4_likeliest 26 = .ok (.iload 4, 2) := by decide +kernel
theorem dX4_likeliest_28 : decode cX4_likeliest 28 = .ok (.iload_n 2, 1) := by decide +kernel
theorem dX4_likeliest_29 : decode cX4_likeliest 29 = .ok (.if_icmp .le 8, 3) := by decide +kernel
theorem dX4_likeliest_32 : decode cX4_likeliest 32 = .ok (.iload 4, 2) := by decide +kernel
theorem dX4_likeliest_34 : decode cX4_likeliest 34 = .ok (.istore_n 2, 1) := by decide +kernel
theorem dX4_likeliest_35 : decode cX4_likeliest 35 = .ok (.iload_n 3, 1) := by decide +kernel
theorem dX4_likeliest_36 : decode cX4_likeliest 36 = .ok (.istore_n 1, 1) := by decide +kernel
theorem dX4_likeliest_37 : decode cX4_likeliest 37 = .ok (.iinc 3 1, 3) := by decide +kernel
theorem dX4_likeliest_40 : decode cX4_likeliest 40 = .ok (.goto (-34), 3) := by decide +kernel
theorem dX4_likeliest_43 : decode cX4_likeliest 43 = .ok (.iload_n 1, 1) := by decide +kernel
theorem dX4_likeliest_44 : decode cX4_likeliest 44 = .ok (.ireturn, 1) := by decide +kernel
set_option maxRecDepth 20000 in
theorem ggX4_chance_X4_isCard : GoodIn wsX4_chance wsX4_isCard := goodIn_r _ [7] (by decide +kernel) (by decide +kernel)
set_option maxRecDepth 20000 in
theorem gX4_chance_X4_isCard : GoodIn wsX4_chance (va_wsS RX4 102 yX4_isCard wsX4_isCard) := goodIn_app (goodIn_of _ (by decide +kernel)) ggX4_chance_X4_isCard
set_option maxRecDepth 20000 in
theorem ggX4_chance_X0_countWith : GoodIn wsX4_chance wsX0_countWith := goodIn_r _ [12, 13, 14, 15, 11, 16, 17, 18, 19, 20, 21, 22, 23, 24, 25, 53, 54, 55, 56] (by decide +kernel) (by decide +kernel)
set_option maxRecDepth 20000 in
theorem gX4_chance_X0_countWith : GoodIn wsX4_chance (wsV RX4 152 RX0 yX0_countWith wsX0_countWith) := goodIn_app (goodIn_of _ (by decide +kernel)) ggX4_chance_X0_countWith
set_option maxRecDepth 20000 in
theorem ggX4_chance_X4_share : GoodIn wsX4_chance wsX4_share := goodIn_r _ [28] (by decide +kernel) (by decide +kernel)
set_option maxRecDepth 20000 in
theorem gX4_chance_X4_share : GoodIn wsX4_chance (va_wsS RX4 158 yX4_share wsX4_share) := goodIn_app (goodIn_of _ (by decide +kernel)) ggX4_chance_X4_share
theorem dX4_chance_0 : decode cX4_chance 0 = .ok (.iload_n 1, 1) := by decide +kernel
theorem dX4_chance_1 : decode cX4_chance 1 = .ok (.invokestatic 102, 3) := by decide +kernel
theorem dX4_chance_4 : decode cX4_chance 4 = .ok (.ifCond .ne 13, 3) := by decide +kernel
theorem dX4_chance_7 : decode cX4_chance 7 = .ok (.new 82, 3) := by decide +kernel
theorem dX4_chance_10 : decode cX4_chance 10 = .ok (.dup, 1) := by decide +kernel
theorem dX4_chance_11 : decode cX4_chance 11 = .ok (.ldc 122, 2) := by decide +kernel
theorem dX4_chance_13 : decode cX4_chance 13 = .ok (.invokespecial 86, 3) := by decide +kernel
theorem dX4_chance_16 : decode cX4_chance 16 = .ok (.athrow, 1) := by decide +kernel
theorem dX4_chance_17 : decode cX4_chance 17 = .ok (.aload_n 0, 1) := by decide +kernel
theorem dX4_chance_18 : decode cX4_chance 18 = .ok (.getfield 10, 3) := by decide +kernel
theorem dX4_chance_21 : decode cX4_chance 21 = .ok (.getfield 146, 3) := by decide +kernel
theorem dX4_chance_24 : decode cX4_chance 24 = .ok (.iconst 4, 1) := by decide +kernel
theorem dX4_chance_25 : decode cX4_chance 25 = .ok (.iload_n 1, 1) := by decide +kernel
theorem dX4_chance_26 : decode cX4_chance 26 = .ok (.invokevirtual 152, 3) := by decide +kernel
theorem dX4_chance_29 : decode cX4_chance 29 = .ok (.aload_n 0, 1) := by decide +kernel
theorem dX4_chance_30 : decode cX4_chance 30 = .ok (.getfield 10, 3) := by decide +kernel
theorem dX4_chance_33 : decode cX4_chance 33 = .ok (.getfield 146, 3) := by decide +kernel
theorem dX4_chance_36 : decode cX4_chance 36 = .ok (.getfield 149, 3) := by decide +kernel
theorem dX4_chance_39 : decode cX4_chance 39 = .ok (.invokestatic 158, 3) := by decide +kernel
theorem dX4_chance_42 : decode cX4_chance 42 = .ok (.dreturn, 1) := by decide +kernel
set_option maxRecDepth 20000 in
theorem ggX4_dealsIf_X1_hasGuest : GoodIn wsX4_dealsIf wsX1_hasGuest := goodIn_r _ [11, 12, 58, 59, 60, 61, 62, 63, 64, 65, 66, 67, 68, 69, 70, 71, 72, 73, 74] (by decide +kernel) (by decide +kernel)
set_option maxRecDepth 20000 in
theorem gX4_dealsIf_X1_hasGuest : GoodIn wsX4_dealsIf (wsV RX4 78 RX1 yX1_hasGuest wsX1_hasGuest) := goodIn_app (goodIn_of _ (by decide +kernel)) ggX4_dealsIf_X1_hasGuest
set_option maxRecDepth 20000 in
theorem ggX4_dealsIf_X4_isQuestion : GoodIn wsX4_dealsIf wsX4_isQuestion := goodIn_r _ [16] (by decide +kernel) (by decide +kernel)
set_option maxRecDepth 20000 in
theorem gX4_dealsIf_X4_isQuestion : GoodIn wsX4_dealsIf (va_wsS RX4 87 yX4_isQuestion wsX4_isQuestion) := goodIn_app (goodIn_of _ (by decide +kernel)) ggX4_dealsIf_X4_isQuestion
set_option maxRecDepth 20000 in
theorem ggX4_dealsIf_X2_lookAt : GoodIn wsX4_dealsIf wsX2_lookAt := goodIn_r _ [21, 22, 23, 24, 25, 26, 27, 28, 29, 30, 31, 32, 33, 34, 35, 36, 37, 38, 39, 75, 76, 77, 78, 79, 80, 81] (by decide +kernel) (by decide +kernel)
set_option maxRecDepth 20000 in
theorem gX4_dealsIf_X2_lookAt : GoodIn wsX4_dealsIf (wsV RX4 164 RX2 yX2_lookAt wsX2_lookAt) := goodIn_app (goodIn_of _ (by decide +kernel)) ggX4_dealsIf_X2_lookAt
set_option maxRecDepth 20000 in
theorem ggX4_dealsIf_X2_leftBehind : GoodIn wsX4_dealsIf wsX2_leftBehind := goodIn_r _ [43, 22, 23, 44, 45, 46, 47, 48, 49, 50, 75, 76, 77] (by decide +kernel) (by decide +kernel)
set_option maxRecDepth 20000 in
theorem gX4_dealsIf_X2_leftBehind : GoodIn wsX4_dealsIf (wsV RX4 168 RX2 yX2_leftBehind wsX2_leftBehind) := goodIn_app (goodIn_of _ (by decide +kernel)) ggX4_dealsIf_X2_leftBehind
theorem dX4_dealsIf_0 : decode cX4_dealsIf 0 = .ok (.aload_n 0, 1) := by decide +kernel
theorem dX4_dealsIf_1 : decode cX4_dealsIf 1 = .ok (.getfield 10, 3) := by decide +kernel
theorem dX4_dealsIf_4 : decode cX4_dealsIf 4 = .ok (.iload_n 1, 1) := by decide +kernel
theorem dX4_dealsIf_5 : decode cX4_dealsIf 5 = .ok (.invokevirtual 78, 3) := by decide +kernel
theorem dX4_dealsIf_8 : decode cX4_dealsIf 8 = .ok (.ifCond .ne 13, 3) := by decide +kernel
theorem dX4_dealsIf_11 : decode cX4_dealsIf 11 = .ok (.new 82, 3) := by decide +kernel
theorem dX4_dealsIf_14 : decode cX4_dealsIf 14 = .ok (.dup, 1) := by decide +kernel
theorem dX4_dealsIf_15 : decode cX4_dealsIf 15 = .ok (.ldc 84, 2) := by decide +kernel
theorem dX4_dealsIf_17 : decode cX4_dealsIf 17 = .ok (.invokespecial 86, 3) := by decide +kernel
theorem dX4_dealsIf_20 : decode cX4_dealsIf 20 = .ok (.athrow, 1) := by decide +kernel
theorem dX4_dealsIf_21 : decode cX4_dealsIf 21 = .ok (.iload_n 2, 1) := by decide +kernel
theorem dX4_dealsIf_22 : decode cX4_dealsIf 22 = .ok (.invokestatic 87, 3) := by decide +kernel
theorem dX4_dealsIf_25 : decode cX4_dealsIf 25 = .ok (.ifCond .ne 13, 3) := by decide +kernel
theorem dX4_dealsIf_28 : decode cX4_dealsIf 28 = .ok (.new 44, 3) := by decide +kernel
theorem dX4_dealsIf_31 : decode cX4_dealsIf 31 = .ok (.dup, 1) := by decide +kernel
theorem dX4_dealsIf_32 : decode cX4_dealsIf 32 = .ok (.ldc 90, 2) := by decide +kernel
theorem dX4_dealsIf_34 : decode cX4_dealsIf 34 = .ok (.invokespecial 48, 3) := by decide +kernel
theorem dX4_dealsIf_37 : decode cX4_dealsIf 37 = .ok (.athrow, 1) := by decide +kernel
theorem dX4_dealsIf_38 : decode cX4_dealsIf 38 = .ok (.iload_n 3, 1) := by decide +kernel
theorem dX4_dealsIf_39 : decode cX4_dealsIf 39 = .ok (.ifCond .lt 9, 3) := by decide +kernel
theorem dX4_dealsIf_42 : decode cX4_dealsIf 42 = .ok (.iload_n 3, 1) := by decide +kernel
theorem dX4_dealsIf_43 : decode cX4_dealsIf 43 = .ok (.bipush 8, 2) := by decide +kernel
theorem dX4_dealsIf_45 : decode cX4_dealsIf 45 = .ok (.if_icmp .le 13, 3) := by decide +kernel
theorem dX4_dealsIf_48 : decode cX4_dealsIf 48 = .ok (.new 44, 3) := by decide +kernel
theorem dX4_dealsIf_51 : decode cX4_dealsIf 51 = .ok (.dup, 1) := by decide +kernel
theorem dX4_dealsIf_52 : decode cX4_dealsIf 52 = .ok (.ldc 162, 2) := by decide +kernel
theorem dX4_dealsIf_54 : decode cX4_dealsIf 54 = .ok (.invokespecial 48, 3) := by decide +kernel
theorem dX4_dealsIf_57 : decode cX4_dealsIf 57 = .ok (.athrow, 1) := by decide +kernel
theorem dX4_dealsIf_58 : decode cX4_dealsIf 58 = .ok (.aload_n 0, 1) := by decide +kernel
theorem dX4_dealsIf_59 : decode cX4_dealsIf 59 = .ok (.getfield 33, 3) := by decide +kernel
theorem dX4_dealsIf_62 : decode cX4_dealsIf 62 = .ok (.aload_n 0, 1) := by decide +kernel
theorem dX4_dealsIf_63 : decode cX4_dealsIf 63 = .ok (.getfield 10, 3) := by decide +kernel
theorem dX4_dealsIf_66 : decode cX4_dealsIf 66 = .ok (.getfield 146, 3) := by decide +kernel
theorem dX4_dealsIf_69 : decode cX4_dealsIf 69 = .ok (.iload_n 1, 1) := by decide +kernel
theorem dX4_dealsIf_70 : decode cX4_dealsIf 70 = .ok (.invokevirtual 164, 3) := by decide +kernel
theorem dX4_dealsIf_73 : decode cX4_dealsIf 73 = .ok (.aload_n 0, 1) := by decide +kernel
theorem dX4_dealsIf_74 : decode cX4_dealsIf 74 = .ok (.getfield 33, 3) := by decide +kernel
theorem dX4_dealsIf_77 : decode cX4_dealsIf 77 = .ok (.iload_n 2, 1) := by decide +kernel
theorem dX4_dealsIf_78 : decode cX4_dealsIf 78 = .ok (.iload_n 3, 1) := by decide +kernel
theorem dX4_dealsIf_79 : decode cX4_dealsIf 79 = .ok (.invokevirtual 168, 3) := by decide +kernel
theorem dX4_dealsIf_82 : decode cX4_dealsIf 82 = .ok (.ireturn, 1) := by decide +kernel
set_option maxRecDepth 20000 in
theorem ggX4_worst_X1_hasGuest : GoodIn wsX4_worst wsX1_hasGuest := goodIn_r _ [11, 12, 62, 63, 64, 65, 66, 67, 68, 69, 70, 71, 72, 73, 74, 75, 76, 77, 78] (by decide +kernel) (by decide +kernel)
set_option maxRecDepth 20000 in
theorem gX4_worst_X1_hasGuest : GoodIn wsX4_worst (wsV RX4 78 RX1 yX1_hasGuest wsX1_hasGuest) := goodIn_app (goodIn_of _ (by decide +kernel)) ggX4_worst_X1_hasGuest
set_option maxRecDepth 20000 in
theorem ggX4_worst_X4_isQuestion : GoodIn wsX4_worst wsX4_isQuestion := goodIn_r _ [16] (by decide +kernel) (by decide +kernel)
set_option maxRecDepth 20000 in
theorem gX4_worst_X4_isQuestion : GoodIn wsX4_worst (va_wsS RX4 87 yX4_isQuestion wsX4_isQuestion) := goodIn_app (goodIn_of _ (by decide +kernel)) ggX4_worst_X4_isQuestion
set_option maxRecDepth 20000 in
theorem ggX4_worst_X2_lookAt : GoodIn wsX4_worst wsX2_lookAt := goodIn_r _ [21, 22, 23, 24, 25, 26, 27, 28, 29, 30, 31, 32, 33, 34, 35, 36, 37, 38, 39, 79, 80, 81, 82, 83, 84, 85] (by decide +kernel) (by decide +kernel)
set_option maxRecDepth 20000 in
theorem gX4_worst_X2_lookAt : GoodIn wsX4_worst (wsV RX4 164 RX2 yX2_lookAt wsX2_lookAt) := goodIn_app (goodIn_of _ (by decide +kernel)) ggX4_worst_X2_lookAt
set_option maxRecDepth 20000 in
theorem ggX4_worst_X2_mostLeft : GoodIn wsX4_worst wsX2_mostLeft := goodIn_r _ [43, 44, 23, 45, 46, 35, 47, 22, 48, 49, 50, 51, 52, 53, 54, 79, 80, 81] (by decide +kernel) (by decide +kernel)
set_option maxRecDepth 20000 in
theorem gX4_worst_X2_mostLeft : GoodIn wsX4_worst (wsV RX4 171 RX2 yX2_mostLeft wsX2_mostLeft) := goodIn_app (goodIn_of _ (by decide +kernel)) ggX4_worst_X2_mostLeft
theorem dX4_worst_0 : decode cX4_worst 0 = .ok (.aload_n 0, 1) := by decide +kernel
theorem dX4_worst_1 : decode cX4_worst 1 = .ok (.getfield 10, 3) := by decide +kernel
theorem dX4_worst_4 : decode cX4_worst 4 = .ok (.iload_n 1, 1) := by decide +kernel
theorem dX4_worst_5 : decode cX4_worst 5 = .ok (.invokevirtual 78, 3) := by decide +kernel
theorem dX4_worst_8 : decode cX4_worst 8 = .ok (.ifCond .ne 13, 3) := by decide +kernel
theorem dX4_worst_11 : decode cX4_worst 11 = .ok (.new 82, 3) := by decide +kernel
theorem dX4_worst_14 : decode cX4_worst 14 = .ok (.dup, 1) := by decide +kernel
theorem dX4_worst_15 : decode cX4_worst 15 = .ok (.ldc 84, 2) := by decide +kernel
theorem dX4_worst_17 : decode cX4_worst 17 = .ok (.invokespecial 86, 3) := by decide +kernel
theorem dX4_worst_20 : decode cX4_worst 20 = .ok (.athrow, 1) := by decide +kernel
theorem dX4_worst_21 : decode cX4_worst 21 = .ok (.iload_n 2, 1) := by decide +kernel
theorem dX4_worst_22 : decode cX4_worst 22 = .ok (.invokestatic 87, 3) := by decide +kernel
theorem dX4_worst_25 : decode cX4_worst 25 = .ok (.ifCond .ne 13, 3) := by decide +kernel
theorem dX4_worst_28 : decode cX4_worst 28 = .ok (.new 44, 3) := by decide +kernel
theorem dX4_worst_31 : decode cX4_worst 31 = .ok (.dup, 1) := by decide +kernel
theorem dX4_worst_32 : decode cX4_worst 32 = .ok (.ldc 90, 2) := by decide +kernel
theorem dX4_worst_34 : decode cX4_worst 34 = .ok (.invokespecial 48, 3) := by decide +kernel
theorem dX4_worst_37 : decode cX4_worst 37 = .ok (.athrow, 1) := by decide +kernel
theorem dX4_worst_38 : decode cX4_worst 38 = .ok (.aload_n 0, 1) := by decide +kernel
theorem dX4_worst_39 : decode cX4_worst 39 = .ok (.getfield 33, 3) := by decide +kernel
theorem dX4_worst_42 : decode cX4_worst 42 = .ok (.aload_n 0, 1) := by decide +kernel
theorem dX4_worst_43 : decode cX4_worst 43 = .ok (.getfield 10, 3) := by decide +kernel
theorem dX4_worst_46 : decode cX4_worst 46 = .ok (.getfield 146, 3) := by decide +kernel
theorem dX4_worst_49 : decode cX4_worst 49 = .ok (.iload_n 1, 1) := by decide +kernel
theorem dX4_worst_50 : decode cX4_worst 50 = .ok (.invokevirtual 164, 3) := by decide +kernel
theorem dX4_worst_53 : decode cX4_worst 53 = .ok (.aload_n 0, 1) := by decide +kernel
theorem dX4_worst_54 : decode cX4_worst 54 = .ok (.getfield 33, 3) := by decide +kernel
theorem dX4_worst_57 : decode cX4_worst 57 = .ok (.iload_n 2, 1) := by decide +kernel
theorem dX4_worst_58 : decode cX4_worst 58 = .ok (.invokevirtual 171, 3) := by decide +kernel
theorem dX4_worst_61 : decode cX4_worst 61 = .ok (.ireturn, 1) := by decide +kernel
set_option maxRecDepth 20000 in
theorem ggX4_bestCards_X1_hasGuest : GoodIn wsX4_bestCards wsX1_hasGuest := goodIn_r _ [9, 10, 60, 61, 62, 63, 64, 65, 66, 67, 68, 69, 70, 71, 72, 73, 74, 75, 76] (by decide +kernel) (by decide +kernel)
set_option maxRecDepth 20000 in
theorem gX4_bestCards_X1_hasGuest : GoodIn wsX4_bestCards (wsV RX4 78 RX1 yX1_hasGuest wsX1_hasGuest) := goodIn_app (goodIn_of _ (by decide +kernel)) ggX4_bestCards_X1_hasGuest
set_option maxRecDepth 20000 in
theorem ggX4_bestCards_X2_lookAt : GoodIn wsX4_bestCards wsX2_lookAt := goodIn_r _ [15, 16, 17, 18, 19, 20, 21, 22, 23, 24, 25, 26, 27, 28, 29, 30, 31, 32, 33, 77, 78, 79, 80, 81, 82, 83] (by decide +kernel) (by decide +kernel)
set_option maxRecDepth 20000 in
theorem gX4_bestCards_X2_lookAt : GoodIn wsX4_bestCards (wsV RX4 164 RX2 yX2_lookAt wsX2_lookAt) := goodIn_app (goodIn_of _ (by decide +kernel)) ggX4_bestCards_X2_lookAt
set_option maxRecDepth 20000 in
theorem ggX4_bestCards_X2_bestQuestion : GoodIn wsX4_bestCards wsX2_bestQuestion := goodIn_r _ [37, 38, 39, 40, 14, 41, 42, 17, 43, 44, 29, 45, 16, 46, 47, 48, 49, 50, 51, 52, 77, 78, 79] (by decide +kernel) (by decide +kernel)
set_option maxRecDepth 20000 in
theorem gX4_bestCards_X2_bestQuestion : GoodIn wsX4_bestCards (wsV RX4 174 RX2 yX2_bestQuestion wsX2_bestQuestion) := goodIn_app (goodIn_of _ (by decide +kernel)) ggX4_bestCards_X2_bestQuestion
theorem dX4_bestCards_0 : decode cX4_bestCards 0 = .ok (.aload_n 0, 1) := by decide +kernel
theorem dX4_bestCards_1 : decode cX4_bestCards 1 = .ok (.getfield 10, 3) := by decide +kernel
theorem dX4_bestCards_4 : decode cX4_bestCards 4 = .ok (.iload_n 1, 1) := by decide +kernel
theorem dX4_bestCards_5 : decode cX4_bestCards 5 = .ok (.invokevirtual 78, 3) := by decide +kernel
theorem dX4_bestCards_8 : decode cX4_bestCards 8 = .ok (.ifCond .ne 13, 3) := by decide +kernel
theorem dX4_bestCards_11 : decode cX4_bestCards 11 = .ok (.new 82, 3) := by decide +kernel
theorem dX4_bestCards_14 : decode cX4_bestCards 14 = .ok (.dup, 1) := by decide +kernel
theorem dX4_bestCards_15 : decode cX4_bestCards 15 = .ok (.ldc 84, 2) := by decide +kernel
theorem dX4_bestCards_17 : decode cX4_bestCards 17 = .ok (.invokespecial 86, 3) := by decide +kernel
theorem dX4_bestCards_20 : decode cX4_bestCards 20 = .ok (.athrow, 1) := by decide +kernel
theorem dX4_bestCards_21 : decode cX4_bestCards 21 = .ok (.aload_n 0, 1) := by decide +kernel
theorem dX4_bestCards_22 : decode cX4_bestCards 22 = .ok (.getfield 33, 3) := by decide +kernel
theorem dX4_bestCards_25 : decode cX4_bestCards 25 = .ok (.aload_n 0, 1) := by decide +kernel
theorem dX4_bestCards_26 : decode cX4_bestCards 26 = .ok (.getfield 10, 3) := by decide +kernel
theorem dX4_bestCards_29 : decode cX4_bestCards 29 = .ok (.getfield 146, 3) := by decide +kernel
theorem dX4_bestCards_32 : decode cX4_bestCards 32 = .ok (.iload_n 1, 1) := by decide +kernel
theorem dX4_bestCards_33 : decode cX4_bestCards 33 = .ok (.invokevirtual 164, 3) := by decide +kernel
theorem dX4_bestCards_36 : decode cX4_bestCards 36 = .ok (.aload_n 0, 1) := by decide +kernel
theorem dX4_bestCards_37 : decode cX4_bestCards 37 = .ok (.getfield 33, 3) := by decide +kernel
theorem dX4_bestCards_40 : decode cX4_bestCards 40 = .ok (.invokevirtual 174, 3) := by decide +kernel
theorem dX4_bestCards_43 : decode cX4_bestCards 43 = .ok (.ireturn, 1) := by decide +kernel
set_option maxRecDepth 20000 in
theorem ggX4_leftByProof_X1_hasGuest : GoodIn wsX4_leftByProof wsX1_hasGuest := goodIn_r _ [8, 9, 42, 43, 44, 45, 46, 47, 48, 49, 50, 51, 52, 53, 54, 55, 56, 57, 58] (by decide +kernel) (by decide +kernel)
set_option maxRecDepth 20000 in
theorem gX4_leftByProof_X1_hasGuest : GoodIn wsX4_leftByProof (wsV RX4 78 RX1 yX1_hasGuest wsX1_hasGuest) := goodIn_app (goodIn_of _ (by decide +kernel)) ggX4_leftByProof_X1_hasGuest
set_option maxRecDepth 20000 in
theorem ggX4_leftByProof_X4_isCard : GoodIn wsX4_leftByProof wsX4_isCard := goodIn_r _ [13] (by decide +kernel) (by decide +kernel)
set_option maxRecDepth 20000 in
theorem gX4_leftByProof_X4_isCard : GoodIn wsX4_leftByProof (va_wsS RX4 102 yX4_isCard wsX4_isCard) := goodIn_app (goodIn_of _ (by decide +kernel)) ggX4_leftByProof_X4_isCard
set_option maxRecDepth 20000 in
theorem ggX4_leftByProof_X0_countWith : GoodIn wsX4_leftByProof wsX0_countWith := goodIn_r _ [18, 19, 20, 21, 17, 22, 23, 24, 25, 26, 27, 28, 29, 30, 31, 59, 60, 61, 62] (by decide +kernel) (by decide +kernel)
set_option maxRecDepth 20000 in
theorem gX4_leftByProof_X0_countWith : GoodIn wsX4_leftByProof (wsV RX4 152 RX0 yX0_countWith wsX0_countWith) := goodIn_app (goodIn_of _ (by decide +kernel)) ggX4_leftByProof_X0_countWith
set_option maxRecDepth 20000 in
theorem ggX4_leftByProof_X4_share : GoodIn wsX4_leftByProof wsX4_share := goodIn_r _ [34] (by decide +kernel) (by decide +kernel)
set_option maxRecDepth 20000 in
theorem gX4_leftByProof_X4_share : GoodIn wsX4_leftByProof (va_wsS RX4 158 yX4_share wsX4_share) := goodIn_app (goodIn_of _ (by decide +kernel)) ggX4_leftByProof_X4_share
theorem dX4_leftByProof_0 : decode cX4_leftByProof 0 = .ok (.aload_n 0, 1) := by decide +kernel
theorem dX4_leftByProof_1 : decode cX4_leftByProof 1 = .ok (.getfield 10, 3) := by decide +kernel
theorem dX4_leftByProof_4 : decode cX4_leftByProof 4 = .ok (.iload_n 1, 1) := by decide +kernel
theorem dX4_leftByProof_5 : decode cX4_leftByProof 5 = .ok (.invokevirtual 78, 3) := by decide +kernel
theorem dX4_leftByProof_8 : decode cX4_leftByProof 8 = .ok (.ifCond .eq 10, 3) := by decide +kernel
theorem dX4_leftByProof_11 : decode cX4_leftByProof 11 = .ok (.iload_n 2, 1) := by decide +kernel
theorem dX4_leftByProof_12 : decode cX4_leftByProof 12 = .ok (.invokestatic 102, 3) := by decide +kernel
theorem dX4_leftByProof_15 : decode cX4_leftByProof 15 = .ok (.ifCond .ne 13, 3) := by decide +kernel
theorem dX4_leftByProof_18 : decode cX4_leftByProof 18 = .ok (.new 82, 3) := by decide +kernel
theorem dX4_leftByProof_21 : decode cX4_leftByProof 21 = .ok (.dup, 1) := by decide +kernel
theorem dX4_leftByProof_22 : decode cX4_leftByProof 22 = .ok (.ldc 105, 2) := by decide +kernel
theorem dX4_leftByProof_24 : decode cX4_leftByProof 24 = .ok (.invokespecial 86, 3) := by decide +kernel
theorem dX4_leftByProof_27 : decode cX4_leftByProof 27 = .ok (.athrow, 1) := by decide +kernel
theorem dX4_leftByProof_28 : decode cX4_leftByProof 28 = .ok (.aload_n 0, 1) := by decide +kernel
theorem dX4_leftByProof_29 : decode cX4_leftByProof 29 = .ok (.getfield 10, 3) := by decide +kernel
theorem dX4_leftByProof_32 : decode cX4_leftByProof 32 = .ok (.getfield 146, 3) := by decide +kernel
theorem dX4_leftByProof_35 : decode cX4_leftByProof 35 = .ok (.iload_n 1, 1) := by decide +kernel
theorem dX4_leftByProof_36 : decode cX4_leftByProof 36 = .ok (.iload_n 2, 1) := by decide +kernel
theorem dX4_leftByProof_37 : decode cX4_leftByProof 37 = .ok (.invokevirtual 152, 3) := by decide +kernel
theorem dX4_leftByProof_40 : decode cX4_leftByProof 40 = .ok (.istore_n 3, 1) := by decide +kernel
theorem dX4_leftByProof_41 : decode cX4_leftByProof 41 = .ok (.aload_n 0, 1) := by decide +kernel
theorem dX4_leftByProof_42 : decode cX4_leftByProof 42 = .ok (.getfield 10, 3) := by decide +kernel
theorem dX4_leftByProof_45 : decode cX4_leftByProof 45 = .ok (.getfield 146, 3) := by decide +kernel
theorem dX4_leftByProof_48 : decode cX4_leftByProof 48 = .ok (.getfield 149, 3) := by decide +kernel
theorem dX4_leftByProof_51 : decode cX4_leftByProof 51 = .ok (.iload_n 3, 1) := by decide +kernel
theorem dX4_leftByProof_52 : decode cX4_leftByProof 52 = .ok (.isub, 1) := by decide +kernel
theorem dX4_leftByProof_53 : decode cX4_leftByProof 53 = .ok (.istore 4, 2) := by decide +kernel
theorem dX4_leftByProof_55 : decode cX4_leftByProof 55 = .ok (.iload_n 3, 1) := by decide +kernel
theorem dX4_leftByProof_56 : decode cX4_leftByProof 56 = .ok (.iload_n 3, 1) := by decide +kernel
theorem dX4_leftByProof_57 : decode cX4_leftByProof 57 = .ok (.imul, 1) := by decide +kernel
theorem dX4_leftByProof_58 : decode cX4_leftByProof 58 = .ok (.iload 4, 2) := by decide +kernel
theorem dX4_leftByProof_60 : decode cX4_leftByProof 60 = .ok (.iload 4, 2) := by decide +kernel
theorem dX4_leftByProof_62 : decode cX4_leftByProof 62 = .ok (.imul, 1) := by decide +kernel
theorem dX4_leftByProof_63 : decode cX4_leftByProof 63 = .ok (.iadd, 1) := by decide +kernel
theorem dX4_leftByProof_64 : decode cX4_leftByProof 64 = .ok (.aload_n 0, 1) := by decide +kernel
theorem dX4_leftByProof_65 : decode cX4_leftByProof 65 = .ok (.getfield 10, 3) := by decide +kernel
theorem dX4_leftByProof_68 : decode cX4_leftByProof 68 = .ok (.getfield 146, 3) := by decide +kernel
theorem dX4_leftByProof_71 : decode cX4_leftByProof 71 = .ok (.getfield 149, 3) := by decide +kernel
theorem dX4_leftByProof_74 : decode cX4_leftByProof 74 = .ok (.invokestatic 158, 3) := by decide +kernel
theorem dX4_leftByProof_77 : decode cX4_leftByProof 77 = .ok (.dreturn, 1) := by decide +kernel
set_option maxRecDepth 20000 in
theorem ggX4_append_X3_add : GoodIn wsX4_append wsX3_add := goodIn_r _ [10, 11, 12, 20, 21, 22, 23, 24, 25, 26] (by decide +kernel) (by decide +kernel)
set_option maxRecDepth 20000 in
theorem gX4_append_X3_add : GoodIn wsX4_append (wsV RX4 185 RX3 yX3_add wsX3_add) := goodIn_app (goodIn_of _ (by decide +kernel)) ggX4_append_X3_add
theorem dX4_append_0 : decode cX4_append 0 = .ok (.iload_n 1, 1) := by decide +kernel
theorem dX4_append_1 : decode cX4_append 1 = .ok (.ifCond .lt 9, 3) := by decide +kernel
theorem dX4_append_4 : decode cX4_append 4 = .ok (.iload_n 1, 1) := by decide +kernel
theorem dX4_append_5 : decode cX4_append 5 = .ok (.bipush 127, 2) := by decide +kernel
theorem dX4_append_7 : decode cX4_append 7 = .ok (.if_icmp .le 13, 3) := by decide +kernel
theorem dX4_append_10 : decode cX4_append 10 = .ok (.new 44, 3) := by decide +kernel
theorem dX4_append_13 : decode cX4_append 13 = .ok (.dup, 1) := by decide +kernel
theorem dX4_append_14 : decode cX4_append 14 = .ok (.ldc 178, 2) := by decide +kernel
theorem dX4_append_16 : decode cX4_append 16 = .ok (.invokespecial 48, 3) := by decide +kernel
theorem dX4_append_19 : decode cX4_append 19 = .ok (.athrow, 1) := by decide +kernel
theorem dX4_append_20 : decode cX4_append 20 = .ok (.aload_n 0, 1) := by decide +kernel
theorem dX4_append_21 : decode cX4_append 21 = .ok (.getfield 40, 3) := by decide +kernel
theorem dX4_append_24 : decode cX4_append 24 = .ok (.getfield 180, 3) := by decide +kernel
theorem dX4_append_27 : decode cX4_append 27 = .ok (.bipush 90, 2) := by decide +kernel
theorem dX4_append_29 : decode cX4_append 29 = .ok (.if_icmp .lt 13, 3) := by decide +kernel
theorem dX4_append_32 : decode cX4_append 32 = .ok (.new 58, 3) := by decide +kernel
theorem dX4_append_35 : decode cX4_append 35 = .ok (.dup, 1) := by decide +kernel
theorem dX4_append_36 : decode cX4_append 36 = .ok (.ldc 183, 2) := by decide +kernel
theorem dX4_append_38 : decode cX4_append 38 = .ok (.invokespecial 62, 3) := by decide +kernel
theorem dX4_append_41 : decode cX4_append 41 = .ok (.athrow, 1) := by decide +kernel
theorem dX4_append_42 : decode cX4_append 42 = .ok (.aload_n 0, 1) := by decide +kernel
theorem dX4_append_43 : decode cX4_append 43 = .ok (.getfield 40, 3) := by decide +kernel
theorem dX4_append_46 : decode cX4_append 46 = .ok (.iload_n 1, 1) := by decide +kernel
theorem dX4_append_47 : decode cX4_append 47 = .ok (.invokevirtual 185, 3) := by decide +kernel
theorem dX4_append_50 : decode cX4_append 50 = .ok (.ireturn, 1) := by decide +kernel
theorem dX4_clearText_0 : decode cX4_clearText 0 = .ok (.aload_n 0, 1) := by decide +kernel
theorem dX4_clearText_1 : decode cX4_clearText 1 = .ok (.getfield 40, 3) := by decide +kernel
theorem dX4_clearText_4 : decode cX4_clearText 4 = .ok (.getfield 180, 3) := by decide +kernel
theorem dX4_clearText_7 : decode cX4_clearText 7 = .ok (.istore_n 1, 1) := by decide +kernel
theorem dX4_clearText_8 : decode cX4_clearText 8 = .ok (.aload_n 0, 1) := by decide +kernel
theorem dX4_clearText_9 : decode cX4_clearText 9 = .ok (.getfield 40, 3) := by decide +kernel
theorem dX4_clearText_12 : decode cX4_clearText 12 = .ok (.iconst 0, 1) := by decide +kernel
theorem dX4_clearText_13 : decode cX4_clearText 13 = .ok (.putfield 180, 3) := by decide +kernel
theorem dX4_clearText_16 : decode cX4_clearText 16 = .ok (.iload_n 1, 1) := by decide +kernel
theorem dX4_clearText_17 : decode cX4_clearText 17 = .ok (.ireturn, 1) := by decide +kernel
set_option maxRecDepth 20000 in
theorem ggX4_play_X3_findError : GoodIn wsX4_play wsX3_findError := goodIn_r _ [6, 7, 8, 9, 10, 11, 5, 12, 13, 14, 15, 16, 17, 18, 19, 20, 21, 22, 23, 24, 25, 26, 27, 28, 29, 172, 173, 174, 175, 176, 177, 178] (by decide +kernel) (by decide +kernel)
set_option maxRecDepth 20000 in
theorem gX4_play_X3_findError : GoodIn wsX4_play (wsV RX4 188 RX3 yX3_findError wsX3_findError) := goodIn_app (goodIn_of _ (by decide +kernel)) ggX4_play_X3_findError
set_option maxRecDepth 20000 in
theorem ggX4_play_X4_saveForUndo : GoodIn wsX4_play wsX4_saveForUndo := goodIn_r _ [34, 35, 36, 37, 38, 39, 40, 33, 41, 42, 43, 44, 45, 46, 47, 48, 49, 50, 51, 52, 53, 54, 55, 56, 57, 58, 59, 60, 61, 62, 63, 64, 65, 66, 67, 68, 69, 70, 71, 72, 73, 74, 75, 76, 77, 78, 79, 80, 81, 82, 83, 84, 85, 86, 87, 88, 165, 166, 167, 168, 169, 170, 171, 179, 180, 181, 182, 183, 184, 185, 186, 187, 188, 189, 190, 191, 192, 193, 194, 195, 196, 197, 198, 199] (by decide +kernel) (by decide +kernel)
set_option maxRecDepth 20000 in
theorem gX4_play_X4_saveForUndo : GoodIn wsX4_play (wsV RX4 63 RX4 yX4_saveForUndo wsX4_saveForUndo) := goodIn_app (goodIn_of _ (by decide +kernel)) ggX4_play_X4_saveForUndo
set_option maxRecDepth 20000 in
theorem ggX4_play_X4_playItems : GoodIn wsX4_play wsX4_playItems := goodIn_r _ [92, 1, 93, 10, 11, 5, 12, 7, 13, 14, 15, 16, 17, 18, 8, 19, 20, 21, 22, 23, 24, 25, 26, 27, 28, 29, 94, 95, 96, 33, 97, 37, 98, 99, 100, 45, 101, 59, 55, 102, 103, 104, 105, 49, 54, 106, 107, 108, 109, 48, 110, 111, 112, 113, 60, 61, 62, 63, 114, 115, 116, 117, 56, 118, 119, 120, 121, 122, 123, 124, 125, 126, 127, 128, 129, 130, 131, 77, 132, 79, 133, 134, 135, 136, 137, 138, 139, 81, 140, 82, 83, 84, 85, 86, 87, 88, 67, 68, 69, 141, 142, 143, 144, 145, 146, 147, 148, 149, 150, 151, 152, 153, 57, 58, 154, 155, 156, 157, 158, 159, 160, 161, 162, 163, 164, 165, 166, 167, 168, 169, 170, 171, 172, 173, 174, 175, 176, 177, 178, 179, 180, 181, 182, 183, 184, 185, 186, 187, 188, 189, 190, 191, 192, 193, 194, 195, 196, 197, 198, 199] (by decide +kernel) (by decide +kernel)
set_option maxRecDepth 20000 in
theorem gX4_play_X4_playItems : GoodIn wsX4_play (wsV RX4 191 RX4 yX4_playItems wsX4_playItems) := goodIn_app (goodIn_of _ (by decide +kernel)) ggX4_play_X4_playItems
theorem dX4_play_0 : decode cX4_play 0 = .ok (.aload_n 0, 1) := by decide +kernel
theorem dX4_play_1 : decode cX4_play 1 = .ok (.getfield 40, 3) := by decide +kernel
theorem dX4_play_4 : decode cX4_play 4 = .ok (.invokevirtual 188, 3) := by decide +kernel
theorem dX4_play_7 : decode cX4_play 7 = .ok (.istore_n 1, 1) := by decide +kernel
theorem dX4_play_8 : decode cX4_play 8 = .ok (.iload_n 1, 1) := by decide +kernel
theorem dX4_play_9 : decode cX4_play 9 = .ok (.iconst (-1), 1) := by decide +kernel
theorem dX4_play_10 : decode cX4_play 10 = .ok (.if_icmp .eq 8, 3) := by decide +kernel
theorem dX4_play_13 : decode cX4_play 13 = .ok (.bipush (-10), 2) := by decide +kernel
theorem dX4_play_15 : decode cX4_play 15 = .ok (.iload_n 1, 1) := by decide +kernel
theorem dX4_play_16 : decode cX4_play 16 = .ok (.isub, 1) := by decide +kernel
theorem dX4_play_17 : decode cX4_play 17 = .ok (.ireturn, 1) := by decide +kernel
theorem dX4_play_18 : decode cX4_play 18 = .ok (.aload_n 0, 1) := by decide +kernel
theorem dX4_play_19 : decode cX4_play 19 = .ok (.invokevirtual 63, 3) := by decide +kernel
theorem dX4_play_22 : decode cX4_play 22 = .ok (.aload_n 0, 1) := by decide +kernel
theorem dX4_play_23 : decode cX4_play 23 = .ok (.invokevirtual 191, 3) := by decide +kernel
theorem dX4_play_26 : decode cX4_play 26 = .ok (.ireturn, 1) := by decide +kernel
set_option maxRecDepth 20000 in
theorem ggX4_undo_X4_restore : GoodIn wsX4_undo wsX4_restore := goodIn_r _ [8, 3, 9, 10, 11, 12, 7, 13, 14, 15, 16, 17, 18, 19, 20, 21, 22, 23, 24, 25, 26, 27, 28, 29, 30, 31, 32, 33, 34, 35, 36, 37, 38, 39, 40, 41, 42, 43, 44, 45, 46, 47, 48, 49, 50, 51, 52, 53, 54, 55, 56, 57, 58, 59, 60, 61, 62, 63, 64, 65, 66, 67, 68, 69, 70, 71, 72, 73, 74, 75, 76, 77, 78, 79, 80, 81, 82, 83, 84, 85, 86, 87, 88, 89] (by decide +kernel) (by decide +kernel)
set_option maxRecDepth 20000 in
theorem gX4_undo_X4_restore : GoodIn wsX4_undo (wsV RX4 199 RX4 yX4_restore wsX4_restore) := goodIn_app (goodIn_of _ (by decide +kernel)) ggX4_undo_X4_restore
theorem dX4_undo_0 : decode cX4_undo 0 = .ok (.aload_n 0, 1) := by decide +kernel
theorem dX4_undo_1 : decode cX4_undo 1 = .ok (.getfield 194, 3) := by decide +kernel
theorem dX4_undo_4 : decode cX4_undo 4 = .ok (.ifCond .gt 13, 3) := by decide +kernel
theorem dX4_undo_7 : decode cX4_undo 7 = .ok (.new 58, 3) := by decide +kernel
theorem dX4_undo_10 : decode cX4_undo 10 = .ok (.dup, 1) := by decide +kernel
theorem dX4_undo_11 : decode cX4_undo 11 = .ok (.ldc 197, 2) := by decide +kernel
theorem dX4_undo_13 : decode cX4_undo 13 = .ok (.invokespecial 62, 3) := by decide +kernel
theorem dX4_undo_16 : decode cX4_undo 16 = .ok (.athrow, 1) := by decide +kernel
theorem dX4_undo_17 : decode cX4_undo 17 = .ok (.aload_n 0, 1) := by decide +kernel
theorem dX4_undo_18 : decode cX4_undo 18 = .ok (.dup, 1) := by decide +kernel
theorem dX4_undo_19 : decode cX4_undo 19 = .ok (.getfield 194, 3) := by decide +kernel
theorem dX4_undo_22 : decode cX4_undo 22 = .ok (.iconst 1, 1) := by decide +kernel
theorem dX4_undo_23 : decode cX4_undo 23 = .ok (.isub, 1) := by decide +kernel
theorem dX4_undo_24 : decode cX4_undo 24 = .ok (.putfield 194, 3) := by decide +kernel
theorem dX4_undo_27 : decode cX4_undo 27 = .ok (.aload_n 0, 1) := by decide +kernel
theorem dX4_undo_28 : decode cX4_undo 28 = .ok (.invokevirtual 199, 3) := by decide +kernel
theorem dX4_undo_31 : decode cX4_undo 31 = .ok (.aload_n 0, 1) := by decide +kernel
theorem dX4_undo_32 : decode cX4_undo 32 = .ok (.getfield 194, 3) := by decide +kernel
theorem dX4_undo_35 : decode cX4_undo 35 = .ok (.ireturn, 1) := by decide +kernel
set_option maxRecDepth 20000 in
theorem ggX4_digest_X1_aboutHouse : GoodIn wsX4_digest wsX1_aboutHouse := goodIn_r _ [10, 11, 12, 13, 14, 15, 16, 17, 18, 19, 20, 21, 22, 23, 24, 25, 26, 27, 107, 108, 109, 110, 111, 112, 113, 114, 115, 116, 117, 118, 119, 120, 121, 122, 123] (by decide +kernel) (by decide +kernel)
set_option maxRecDepth 20000 in
theorem gX4_digest_X1_aboutHouse : GoodIn wsX4_digest (wsV RX4 134 RX1 yX1_aboutHouse wsX1_aboutHouse) := goodIn_app (goodIn_of _ (by decide +kernel)) ggX4_digest_X1_aboutHouse
set_option maxRecDepth 20000 in
theorem ggX4_digest_X1_aboutGuest : GoodIn wsX4_digest wsX1_aboutGuest := goodIn_r _ [31, 11, 19, 32, 33, 12, 34, 35, 36, 37, 38, 39, 40, 41, 9, 42, 13, 43, 44, 45, 46, 47, 48, 49, 50, 51, 52, 53, 54, 55, 56, 57, 58, 59, 60, 61, 62, 63, 64, 65, 66, 67, 68, 69, 70, 107, 108, 109, 110, 111, 112, 113, 114, 115, 116, 117, 118, 119, 120, 121, 122, 123, 124, 125, 126, 127] (by decide +kernel) (by decide +kernel)
set_option maxRecDepth 20000 in
theorem gX4_digest_X1_aboutGuest : GoodIn wsX4_digest (wsV RX4 131 RX1 yX1_aboutGuest wsX1_aboutGuest) := goodIn_app (goodIn_of _ (by decide +kernel)) ggX4_digest_X1_aboutGuest
set_option maxRecDepth 20000 in
theorem ggX4_digest_X1_aboutQuestion : GoodIn wsX4_digest wsX1_aboutQuestion := goodIn_r _ [74, 43, 75, 76, 107, 108, 109, 110, 111, 112, 113, 114, 115, 116, 117, 118, 119, 120, 121, 122, 123] (by decide +kernel) (by decide +kernel)
set_option maxRecDepth 20000 in
theorem gX4_digest_X1_aboutQuestion : GoodIn wsX4_digest (wsV RX4 143 RX1 yX1_aboutQuestion wsX1_aboutQuestion) := goodIn_app (goodIn_of _ (by decide +kernel)) ggX4_digest_X1_aboutQuestion
set_option maxRecDepth 20000 in
theorem ggX4_digest_X0_countWith : GoodIn wsX4_digest wsX0_countWith := goodIn_r _ [80, 81, 82, 83, 47, 84, 85, 86, 87, 88, 49, 89, 90, 91, 92, 124, 125, 126, 127] (by decide +kernel) (by decide +kernel)
set_option maxRecDepth 20000 in
theorem gX4_digest_X0_countWith : GoodIn wsX4_digest (wsV RX4 152 RX0 yX0_countWith wsX0_countWith) := goodIn_app (goodIn_of _ (by decide +kernel)) ggX4_digest_X0_countWith
theorem dX4_digest_0 : decode cX4_digest 0 = .ok (.ldc2_w 202, 3) := by decide +kernel
theorem dX4_digest_3 : decode cX4_digest 3 = .ok (.lstore_n 1, 1) := by decide +kernel
theorem dX4_digest_4 : decode cX4_digest 4 = .ok (.ldc2_w 204, 3) := by decide +kernel
theorem dX4_digest_7 : decode cX4_digest 7 = .ok (.lload_n 1, 1) := by decide +kernel
theorem dX4_digest_8 : decode cX4_digest 8 = .ok (.lmul, 1) := by decide +kernel
theorem dX4_digest_9 : decode cX4_digest 9 = .ok (.aload_n 0, 1) := by decide +kernel
theorem dX4_digest_10 : decode cX4_digest 10 = .ok (.getfield 40, 3) := by decide +kernel
theorem dX4_digest_13 : decode cX4_digest 13 = .ok (.getfield 180, 3) := by decide +kernel
theorem dX4_digest_16 : decode cX4_digest 16 = .ok (.i2l, 1) := by decide +kernel
theorem dX4_digest_17 : decode cX4_digest 17 = .ok (.ladd, 1) := by decide +kernel
theorem dX4_digest_18 : decode cX4_digest 18 = .ok (.lstore_n 1, 1) := by decide +kernel
theorem dX4_digest_19 : decode cX4_digest 19 = .ok (.iconst 0, 1) := by decide +kernel
theorem dX4_digest_20 : decode cX4_digest 20 = .ok (.istore_n 3, 1) := by decide +kernel
theorem dX4_digest_21 : decode cX4_digest 21 = .ok (.iload_n 3, 1) := by decide +kernel
theorem dX4_digest_22 : decode cX4_digest 22 = .ok (.bipush 10, 2) := by decide +kernel
theorem dX4_digest_24 : decode cX4_digest 24 = .ok (.if_icmp .ge 25, 3) := by decide +kernel
theorem dX4_digest_27 : decode cX4_digest 27 = .ok (.ldc2_w 204, 3) := by decide +kernel
theorem dX4_digest_30 : decode cX4_digest 30 = .ok (.lload_n 1, 1) := by decide +kernel
theorem dX4_digest_31 : decode cX4_digest 31 = .ok (.lmul, 1) := by decide +kernel
theorem dX4_digest_32 : decode cX4_digest 32 = .ok (.aload_n 0, 1) := by decide +kernel
theorem dX4_digest_33 : decode cX4_digest 33 = .ok (.getfield 10, 3) := by decide +kernel
theorem dX4_digest_36 : decode cX4_digest 36 = .ok (.iload_n 3, 1) := by decide +kernel
theorem dX4_digest_37 : decode cX4_digest 37 = .ok (.invokevirtual 134, 3) := by decide +kernel
theorem dX4_digest_40 : decode cX4_digest 40 = .ok (.i2l, 1) := by decide +kernel
theorem dX4_digest_41 : decode cX4_digest 41 = .ok (.ladd, 1) := by decide +kernel
theorem dX4_digest_42 : decode cX4_digest 42 = .ok (.lstore_n 1, 1) := by decide +kernel
theorem dX4_digest_43 : decode cX4_digest 43 = .ok (.iinc 3 1, 3) := by decide +kernel
theorem dX4_digest_46 : decode cX4_digest 46 = .ok (.goto (-25), 3) := by decide +kernel
theorem dX4_digest_49 : decode cX4_digest 49 = .ok (.iconst 0, 1) := by decide +kernel
theorem dX4_digest_50 : decode cX4_digest 50 = .ok (.istore_n 3, 1) := by decide +kernel
theorem dX4_digest_51 : decode cX4_digest 51 = .ok (.iload_n 3, 1) := by decide +kernel
theorem dX4_digest_52 : decode cX4_digest 52 = .ok (.aload_n 0, 1) := by decide +kernel
theorem dX4_digest_53 : decode cX4_digest 53 = .ok (.getfield 10, 3) := by decide +kernel
theorem dX4_digest_56 : decode cX4_digest 56 = .ok (.getfield 206, 3) := by decide +kernel
theorem dX4_digest_59 : decode cX4_digest 59 = .ok (.if_icmp .ge 43, 3) := by decide +kernel
theorem dX4_digest_62 : decode cX4_digest 62 = .ok (.iconst 0, 1) := by decide +kernel
theorem dX4_digest_63 : decode cX4_digest 63 = .ok (.istore 4, 2) := by decide +kernel
theorem dX4_digest_65 : decode cX4_digest 65 = .ok (.iload 4, 2) := by decide +kernel
theorem dX4_digest_67 : decode cX4_digest 67 = .ok (.bipush 8, 2) := by decide +kernel
theorem dX4_digest_69 : decode cX4_digest 69 = .ok (.if_icmp .ge 27, 3) := by decide +kernel
theorem dX4_digest_72 : decode cX4_digest 72 = .ok (.ldc2_w 204, 3) := by decide +kernel
theorem dX4_digest_75 : decode cX4_digest 75 = .ok (.lload_n 1, 1) := by decide +kernel
theorem dX4_digest_76 : decode cX4_digest 76 = .ok (.lmul, 1) := by decide +kernel
theorem dX4_digest_77 : decode cX4_digest 77 = .ok (.aload_n 0, 1) := by decide +kernel
theorem dX4_digest_78 : decode cX4_digest 78 = .ok (.getfield 10, 3) := by decide +kernel
theorem dX4_digest_81 : decode cX4_digest 81 = .ok (.iload_n 3, 1) := by decide +kernel
theorem dX4_digest_82 : decode cX4_digest 82 = .ok (.iload 4, 2) := by decide +kernel
theorem dX4_digest_84 : decode cX4_digest 84 = .ok (.invokevirtual 131, 3) := by decide +kernel
theorem dX4_digest_87 : decode cX4_digest 87 = .ok (.i2l, 1) := by decide +kernel
theorem dX4_digest_88 : decode cX4_digest 88 = .ok (.ladd, 1) := by decide +kernel
theorem dX4_digest_89 : decode cX4_digest 89 = .ok (.lstore_n 1, 1) := by decide +kernel
theorem dX4_digest_90 : decode cX4_digest 90 = .ok (.iinc 4 1, 3) := by decide +kernel
theorem dX4_digest_93 : decode cX4_digest 93 = .ok (.goto (-28), 3) := by decide +kernel
theorem dX4_digest_96 : decode cX4_digest 96 = .ok (.iinc 3 1, 3) := by decide +kernel
theorem dX4_digest_99 : decode cX4_digest 99 = .ok (.goto (-48), 3) := by decide +kernel
theorem dX4_digest_102 : decode cX4_digest 102 = .ok (.iconst 0, 1) := by decide +kernel
theorem dX4_digest_103 : decode cX4_digest 103 = .ok (.istore_n 3, 1) := by decide +kernel
theorem dX4_digest_104 : decode cX4_digest 104 = .ok (.iload_n 3, 1) := by decide +kernel
theorem dX4_digest_105 : decode cX4_digest 105 = .ok (.aload_n 0, 1) := by decide +kernel
theorem dX4_digest_106 : decode cX4_digest 106 = .ok (.getfield 10, 3) := by decide +kernel
theorem dX4_digest_109 : decode cX4_digest 109 = .ok (.getfield 137, 3) := by decide +kernel
theorem dX4_digest_112 : decode cX4_digest 112 = .ok (.if_icmp .ge 42, 3) := by decide +kernel
theorem dX4_digest_115 : decode cX4_digest 115 = .ok (.iconst 0, 1) := by decide +kernel
theorem dX4_digest_116 : decode cX4_digest 116 = .ok (.istore 4, 2) := by decide +kernel
theorem dX4_digest_118 : decode cX4_digest 118 = .ok (.iload 4, 2) := by decide +kernel
theorem dX4_digest_120 : decode cX4_digest 120 = .ok (.iconst 3, 1) := by decide +kernel
theorem dX4_digest_121 : decode cX4_digest 121 = .ok (.if_icmp .ge 27, 3) := by decide +kernel
theorem dX4_digest_124 : decode cX4_digest 124 = .ok (.ldc2_w 204, 3) := by decide +kernel
theorem dX4_digest_127 : decode cX4_digest 127 = .ok (.lload_n 1, 1) := by decide +kernel
theorem dX4_digest_128 : decode cX4_digest 128 = .ok (.lmul, 1) := by decide +kernel
theorem dX4_digest_129 : decode cX4_digest 129 = .ok (.aload_n 0, 1) := by decide +kernel
theorem dX4_digest_130 : decode cX4_digest 130 = .ok (.getfield 10, 3) := by decide +kernel
theorem dX4_digest_133 : decode cX4_digest 133 = .ok (.iload_n 3, 1) := by decide +kernel
theorem dX4_digest_134 : decode cX4_digest 134 = .ok (.iload 4, 2) := by decide +kernel
theorem dX4_digest_136 : decode cX4_digest 136 = .ok (.invokevirtual 143, 3) := by decide +kernel
theorem dX4_digest_139 : decode cX4_digest 139 = .ok (.i2l, 1) := by decide +kernel
theorem dX4_digest_140 : decode cX4_digest 140 = .ok (.ladd, 1) := by decide +kernel
theorem dX4_digest_141 : decode cX4_digest 141 = .ok (.lstore_n 1, 1) := by decide +kernel
theorem dX4_digest_142 : decode cX4_digest 142 = .ok (.iinc 4 1, 3) := by decide +kernel
theorem dX4_digest_145 : decode cX4_digest 145 = .ok (.goto (-27), 3) := by decide +kernel
theorem dX4_digest_148 : decode cX4_digest 148 = .ok (.iinc 3 1, 3) := by decide +kernel
theorem dX4_digest_151 : decode cX4_digest 151 = .ok (.goto (-47), 3) := by decide +kernel
theorem dX4_digest_154 : decode cX4_digest 154 = .ok (.ldc2_w 204, 3) := by decide +kernel
theorem dX4_digest_157 : decode cX4_digest 157 = .ok (.lload_n 1, 1) := by decide +kernel
