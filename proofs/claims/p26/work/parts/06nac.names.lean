theorem goodIn_cc {big a : List Cond} {c : Cond} (h1 : GoodIn big [c]) (h2 : GoodIn big a) : GoodIn big (c :: a) := fun w h => (List.mem_cons.mp h).elim (fun e => h1 w (List.mem_cons.mpr (Or.inl e))) (h2 w)
theorem wsL_law_x0 : ∀ w ∈ (vx_atS RX4 62 "java/lang/IllegalStateException" ["java/lang/RuntimeException", "java/lang/Exception"]).filter goodWord, w ∈ lw_tbl := by decide +kernel
theorem wsL_law_x1 : ∀ w ∈ (vx_atS RX4 48 "java/lang/IllegalArgumentException" ["java/lang/RuntimeException", "java/lang/Exception"]).filter goodWord, w ∈ lw_tbl := by decide +kernel
theorem wsL_law_x2 : ∀ w ∈ (vx_atS RX4 86 "java/lang/IndexOutOfBoundsException" ["java/lang/RuntimeException", "java/lang/Exception"]).filter goodWord, w ∈ lw_tbl := by decide +kernel
theorem wsL_law_in : ∀ w ∈ wsL_law, w ∈ lw_tbl := fun w h => (List.mem_append.mp h).elim (fun h => (List.mem_append.mp h).elim (fun h => (List.mem_append.mp h).elim (fun h => wsL_law_in0 w h) (fun h => wsL_law_x0 w h)) (fun h => wsL_law_x1 w h)) (fun h => wsL_law_x2 w h)
theorem inlX0 : ∀ w ∈ wsX00, w ∈ wsL_law := fun _ h => List.mem_append_left _ (List.mem_append_left _ (List.mem_append_left _ (List.mem_append_left _ (List.mem_append_left _ (List.mem_append_left _ (List.mem_append_right _ h))))))
theorem inX0 : ∀ w ∈ wsX00, w ∈ lw_tbl := fun w h => wsL_law_in w (inlX0 w h)
theorem inlX1 : ∀ w ∈ wsX10, w ∈ wsL_law := fun _ h => List.mem_append_left _ (List.mem_append_left _ (List.mem_append_left _ (List.mem_append_left _ (List.mem_append_left _ (List.mem_append_left _ (List.mem_append_left _ (List.mem_append_right _ h)))))))
theorem inX1 : ∀ w ∈ wsX10, w ∈ lw_tbl := fun w h => wsL_law_in w (inlX1 w h)
theorem inlX2 : ∀ w ∈ wsX20, w ∈ wsL_law := fun _ h => List.mem_append_left _ (List.mem_append_left _ (List.mem_append_left _ (List.mem_append_left _ (List.mem_append_left _ (List.mem_append_right _ h)))))
theorem inX2 : ∀ w ∈ wsX20, w ∈ lw_tbl := fun w h => wsL_law_in w (inlX2 w h)
theorem inlX3 : ∀ w ∈ wsX30, w ∈ wsL_law := fun _ h => List.mem_append_left _ (List.mem_append_left _ (List.mem_append_left _ (List.mem_append_left _ (List.mem_append_right _ h))))
theorem inX3 : ∀ w ∈ wsX30, w ∈ lw_tbl := fun w h => wsL_law_in w (inlX3 w h)
theorem inlX4 : ∀ w ∈ wsX40, w ∈ wsL_law := fun _ h => List.mem_append_left _ (List.mem_append_left _ (List.mem_append_left _ (List.mem_append_left _ (List.mem_append_left _ (List.mem_append_left _ (List.mem_append_left _ (List.mem_append_left _ (List.mem_append_right _ h))))))))
theorem inX4 : ∀ w ∈ wsX40, w ∈ lw_tbl := fun w h => wsL_law_in w (inlX4 w h)
theorem inX5 : ∀ w ∈ wsX50, w ∈ lw_tbl := by decide +kernel
theorem inJ6 : ∀ w ∈ wsJ60, w ∈ lw_tbl := by decide +kernel
theorem inJ9 : ∀ w ∈ wsJ90, w ∈ lw_tbl := by decide +kernel
theorem inJ0 : ∀ w ∈ wsJ00, w ∈ lw_tbl := by decide +kernel
theorem inJ10 : ∀ w ∈ wsJ100, w ∈ lw_tbl := by decide +kernel
theorem dX0_init_0 : decode cX0_init 0 = .ok (.aload_n 0, 1) := by decide +kernel
theorem dX0_init_1 : decode cX0_init 1 = .ok (.invokespecial 3, 3) := by decide +kernel
theorem dX0_init_4 : decode cX0_init 4 = .ok (.aload_n 0, 1) := by decide +kernel
theorem dX0_init_5 : decode cX0_init 5 = .ok (.sipush 5040, 3) := by decide +kernel
theorem dX0_init_8 : decode cX0_init 8 = .ok (.newarray .long, 2) := by decide +kernel
theorem dX0_init_10 : decode cX0_init 10 = .ok (.putfield 9, 3) := by decide +kernel
theorem dX0_init_13 : decode cX0_init 13 = .ok (.aload_n 0, 1) := by decide +kernel
theorem dX0_init_14 : decode cX0_init 14 = .ok (.ldc2_w 15, 3) := by decide +kernel
theorem dX0_init_17 : decode cX0_init 17 = .ok (.putfield 17, 3) := by decide +kernel
theorem dX0_init_20 : decode cX0_init 20 = .ok (.return_, 1) := by decide +kernel
set_option maxRecDepth 20000 in
theorem ggX0_fillOnce_X0_extend : GoodIn wsX0_fillOnce wsX0_extend := goodIn_r _ [5, 6, 7, 8, 4, 9, 1, 10, 11, 12, 13, 14, 15, 16, 17, 18, 19, 20, 21, 22, 23, 24, 25, 26, 27, 28, 29, 30, 2, 3, 31, 32, 33, 34] (by decide +kernel) (by decide +kernel)
set_option maxRecDepth 20000 in
theorem gX0_fillOnce_X0_extend : GoodIn wsX0_fillOnce (va_wsS RX0 25 yX0_extend wsX0_extend) := goodIn_app (goodIn_of _ (by decide +kernel)) ggX0_fillOnce_X0_extend
theorem dX0_fillOnce_0 : decode cX0_fillOnce 0 = .ok (.aload_n 0, 1) := by decide +kernel
theorem dX0_fillOnce_1 : decode cX0_fillOnce 1 = .ok (.getfield 21, 3) := by decide +kernel
theorem dX0_fillOnce_4 : decode cX0_fillOnce 4 = .ok (.ifCond .ne 10, 3) := by decide +kernel
theorem dX0_fillOnce_7 : decode cX0_fillOnce 7 = .ok (.aload_n 0, 1) := by decide +kernel
theorem dX0_fillOnce_8 : decode cX0_fillOnce 8 = .ok (.iload_n 1, 1) := by decide +kernel
theorem dX0_fillOnce_9 : decode cX0_fillOnce 9 = .ok (.iconst 0, 1) := by decide +kernel
theorem dX0_fillOnce_10 : decode cX0_fillOnce 10 = .ok (.lconst 0, 1) := by decide +kernel
theorem dX0_fillOnce_11 : decode cX0_fillOnce 11 = .ok (.invokestatic 25, 3) := by decide +kernel
theorem dX0_fillOnce_14 : decode cX0_fillOnce 14 = .ok (.return_, 1) := by decide +kernel
set_option maxRecDepth 20000 in
theorem ggX0_extend_X0_add : GoodIn wsX0_extend wsX0_add := goodIn_r _ [5, 6, 7, 8, 9, 30, 31, 32, 33] (by decide +kernel) (by decide +kernel)
set_option maxRecDepth 20000 in
theorem gX0_extend_X0_add : GoodIn wsX0_extend (wsV RX0 29 RX0 yX0_add wsX0_add) := goodIn_app (goodIn_of _ (by decide +kernel)) ggX0_extend_X0_add
set_option maxRecDepth 20000 in
theorem ggX0_extend_X0_cardsAt : GoodIn wsX0_extend wsX0_cardsAt := goodIn_r _ [12] (by decide +kernel) (by decide +kernel)
set_option maxRecDepth 20000 in
theorem gX0_extend_X0_cardsAt : GoodIn wsX0_extend (va_wsS RX0 33 yX0_cardsAt wsX0_cardsAt) := goodIn_app (goodIn_of _ (by decide +kernel)) ggX0_extend_X0_cardsAt
set_option maxRecDepth 20000 in
theorem ggX0_extend_J6_bitCount_0f7a4 : GoodIn wsX0_extend wsJ6_bitCount_0f7a4 := goodIn_r _ [16, 17, 18, 19] (by decide +kernel) (by decide +kernel)
set_option maxRecDepth 20000 in
theorem gX0_extend_J6_bitCount_0f7a4 : GoodIn wsX0_extend (va_wsS RX0 37 yJ6_bitCount_0f7a4 wsJ6_bitCount_0f7a4) := goodIn_app (goodIn_of _ (by decide +kernel)) ggX0_extend_J6_bitCount_0f7a4
set_option maxRecDepth 20000 in
theorem ggX0_extend_X4_sizeOfHand : GoodIn wsX0_extend wsX4_sizeOfHand := goodIn_r _ [22, 23, 24] (by decide +kernel) (by decide +kernel)
set_option maxRecDepth 20000 in
theorem gX0_extend_X4_sizeOfHand_n43 : GoodIn wsX0_extend (wsX4_sizeOfHand) := ggX0_extend_X4_sizeOfHand
set_option maxRecDepth 20000 in
theorem ggX0_extend_X0_cardBit : GoodIn wsX0_extend wsX0_cardBit := goodIn_r _ [27] (by decide +kernel) (by decide +kernel)
set_option maxRecDepth 20000 in
theorem gX0_extend_X0_cardBit : GoodIn wsX0_extend (va_wsS RX0 47 yX0_cardBit wsX0_cardBit) := goodIn_app (goodIn_of _ (by decide +kernel)) ggX0_extend_X0_cardBit
set_option maxRecDepth 20000 in
theorem ggX0_extend_X0_extend : GoodIn wsX0_extend wsX0_extend := goodIn_r _ [0, 1, 2, 3, 4, 5, 6, 7, 8, 9, 10, 11, 12, 13, 14, 15, 16, 17, 18, 19, 20, 21, 22, 23, 24, 25, 26, 27, 28, 29, 30, 31, 32, 33] (by decide +kernel) (by decide +kernel)
set_option maxRecDepth 20000 in
theorem gX0_extend_X0_extend : GoodIn wsX0_extend (va_wsS RX0 25 yX0_extend wsX0_extend) := goodIn_app (goodIn_of _ (by decide +kernel)) ggX0_extend_X0_extend
theorem dX0_extend_0 : decode cX0_extend 0 = .ok (.iload_n 2, 1) := by decide +kernel
theorem dX0_extend_1 : decode cX0_extend 1 = .ok (.bipush 8, 2) := by decide +kernel
theorem dX0_extend_3 : decode cX0_extend 3 = .ok (.if_icmp .lt 9, 3) := by decide +kernel
theorem dX0_extend_6 : decode cX0_extend 6 = .ok (.aload_n 0, 1) := by decide +kernel
theorem dX0_extend_7 : decode cX0_extend 7 = .ok (.lload_n 3, 1) := by decide +kernel
theorem dX0_extend_8 : decode cX0_extend 8 = .ok (.invokevirtual 29, 3) := by decide +kernel
theorem dX0_extend_11 : decode cX0_extend 11 = .ok (.return_, 1) := by decide +kernel
theorem dX0_extend_12 : decode cX0_extend 12 = .ok (.iconst 0, 1) := by decide +kernel
theorem dX0_extend_13 : decode cX0_extend 13 = .ok (.istore 5, 2) := by decide +kernel
theorem dX0_extend_15 : decode cX0_extend 15 = .ok (.iload 5, 2) := by decide +kernel
theorem dX0_extend_17 : decode cX0_extend 17 = .ok (.iconst 4, 1) := by decide +kernel
theorem dX0_extend_18 : decode cX0_extend 18 = .ok (.if_icmp .gt 43, 3) := by decide +kernel
theorem dX0_extend_21 : decode cX0_extend 21 = .ok (.lload_n 3, 1) := by decide +kernel
theorem dX0_extend_22 : decode cX0_extend 22 = .ok (.iload 5, 2) := by decide +kernel
theorem dX0_extend_24 : decode cX0_extend 24 = .ok (.invokestatic 33, 3) := by decide +kernel
theorem dX0_extend_27 : decode cX0_extend 27 = .ok (.invokestatic 37, 3) := by decide +kernel
theorem dX0_extend_30 : decode cX0_extend 30 = .ok (.iload_n 1, 1) := by decide +kernel
theorem dX0_extend_31 : decode cX0_extend 31 = .ok (.iload 5, 2) := by decide +kernel
theorem dX0_extend_33 : decode cX0_extend 33 = .ok (.invokestatic 43, 3) := by decide +kernel
theorem dX0_extend_36 : decode cX0_extend 36 = .ok (.if_icmp .ge 19, 3) := by decide +kernel
theorem dX0_extend_39 : decode cX0_extend 39 = .ok (.aload_n 0, 1) := by decide +kernel
theorem dX0_extend_40 : decode cX0_extend 40 = .ok (.iload_n 1, 1) := by decide +kernel
theorem dX0_extend_41 : decode cX0_extend 41 = .ok (.iload_n 2, 1) := by decide +kernel
theorem dX0_extend_42 : decode cX0_extend 42 = .ok (.iconst 1, 1) := by decide +kernel
theorem dX0_extend_43 : decode cX0_extend 43 = .ok (.iadd, 1) := by decide +kernel
theorem dX0_extend_44 : decode cX0_extend 44 = .ok (.lload_n 3, 1) := by decide +kernel
theorem dX0_extend_45 : decode cX0_extend 45 = .ok (.iload 5, 2) := by decide +kernel
theorem dX0_extend_47 : decode cX0_extend 47 = .ok (.iload_n 2, 1) := by decide +kernel
theorem dX0_extend_48 : decode cX0_extend 48 = .ok (.invokestatic 47, 3) := by decide +kernel
theorem dX0_extend_51 : decode cX0_extend 51 = .ok (.lor, 1) := by decide +kernel
theorem dX0_extend_52 : decode cX0_extend 52 = .ok (.invokestatic 25, 3) := by decide +kernel
theorem dX0_extend_55 : decode cX0_extend 55 = .ok (.iinc 5 1, 3) := by decide +kernel
theorem dX0_extend_58 : decode cX0_extend 58 = .ok (.goto (-43), 3) := by decide +kernel
theorem dX0_extend_61 : decode cX0_extend 61 = .ok (.return_, 1) := by decide +kernel
theorem dX0_add_0 : decode cX0_add 0 = .ok (.aload_n 0, 1) := by decide +kernel
theorem dX0_add_1 : decode cX0_add 1 = .ok (.getfield 21, 3) := by decide +kernel
theorem dX0_add_4 : decode cX0_add 4 = .ok (.ifCond .lt 55, 3) := by decide +kernel
theorem dX0_add_7 : decode cX0_add 7 = .ok (.aload_n 0, 1) := by decide +kernel
theorem dX0_add_8 : decode cX0_add 8 = .ok (.getfield 21, 3) := by decide +kernel
theorem dX0_add_11 : decode cX0_add 11 = .ok (.aload_n 0, 1) := by decide +kernel
theorem dX0_add_12 : decode cX0_add 12 = .ok (.getfield 9, 3) := by decide +kernel
theorem dX0_add_15 : decode cX0_add 15 = .ok (.arraylength, 1) := by decide +kernel
theorem dX0_add_16 : decode cX0_add 16 = .ok (.if_icmp .ge 43, 3) := by decide +kernel
theorem dX0_add_19 : decode cX0_add 19 = .ok (.aload_n 0, 1) := by decide +kernel
theorem dX0_add_20 : decode cX0_add 20 = .ok (.getfield 9, 3) := by decide +kernel
theorem dX0_add_23 : decode cX0_add 23 = .ok (.aload_n 0, 1) := by decide +kernel
theorem dX0_add_24 : decode cX0_add 24 = .ok (.getfield 21, 3) := by decide +kernel
theorem dX0_add_27 : decode cX0_add 27 = .ok (.lload_n 1, 1) := by decide +kernel
theorem dX0_add_28 : decode cX0_add 28 = .ok (.lastore, 1) := by decide +kernel
theorem dX0_add_29 : decode cX0_add 29 = .ok (.aload_n 0, 1) := by decide +kernel
theorem dX0_add_30 : decode cX0_add 30 = .ok (.dup, 1) := by decide +kernel
theorem dX0_add_31 : decode cX0_add 31 = .ok (.getfield 21, 3) := by decide +kernel
theorem dX0_add_34 : decode cX0_add 34 = .ok (.iconst 1, 1) := by decide +kernel
theorem dX0_add_35 : decode cX0_add 35 = .ok (.iadd, 1) := by decide +kernel
theorem dX0_add_36 : decode cX0_add 36 = .ok (.putfield 21, 3) := by decide +kernel
theorem dX0_add_39 : decode cX0_add 39 = .ok (.aload_n 0, 1) := by decide +kernel
theorem dX0_add_40 : decode cX0_add 40 = .ok (.dup, 1) := by decide +kernel
theorem dX0_add_41 : decode cX0_add 41 = .ok (.getfield 17, 3) := by decide +kernel
theorem dX0_add_44 : decode cX0_add 44 = .ok (.lload_n 1, 1) := by decide +kernel
theorem dX0_add_45 : decode cX0_add 45 = .ok (.land, 1) := by decide +kernel
theorem dX0_add_46 : decode cX0_add 46 = .ok (.putfield 17, 3) := by decide +kernel
theorem dX0_add_49 : decode cX0_add 49 = .ok (.aload_n 0, 1) := by decide +kernel
theorem dX0_add_50 : decode cX0_add 50 = .ok (.dup, 1) := by decide +kernel
theorem dX0_add_51 : decode cX0_add 51 = .ok (.getfield 51, 3) := by decide +kernel
theorem dX0_add_54 : decode cX0_add 54 = .ok (.lload_n 1, 1) := by decide +kernel
theorem dX0_add_55 : decode cX0_add 55 = .ok (.lor, 1) := by decide +kernel
theorem dX0_add_56 : decode cX0_add 56 = .ok (.putfield 51, 3) := by decide +kernel
theorem dX0_add_59 : decode cX0_add 59 = .ok (.return_, 1) := by decide +kernel
theorem dX0_length_0 : decode cX0_length 0 = .ok (.aload_n 0, 1) := by decide +kernel
theorem dX0_length_1 : decode cX0_length 1 = .ok (.getfield 21, 3) := by decide +kernel
theorem dX0_length_4 : decode cX0_length 4 = .ok (.aload_n 0, 1) := by decide +kernel
theorem dX0_length_5 : decode cX0_length 5 = .ok (.getfield 9, 3) := by decide +kernel
theorem dX0_length_8 : decode cX0_length 8 = .ok (.arraylength, 1) := by decide +kernel
theorem dX0_length_9 : decode cX0_length 9 = .ok (.invokestatic 54, 3) := by decide +kernel
theorem dX0_length_12 : decode cX0_length 12 = .ok (.ireturn, 1) := by decide +kernel
set_option maxRecDepth 20000 in
theorem ggX0_empty_X0_length : GoodIn wsX0_empty wsX0_length := goodIn_r _ [9, 1, 10, 11, 12, 13, 14, 15, 16, 17, 18] (by decide +kernel) (by decide +kernel)
set_option maxRecDepth 20000 in
theorem gX0_empty_X0_length : GoodIn wsX0_empty (wsV RX0 59 RX0 yX0_length wsX0_length) := goodIn_app (goodIn_of _ (by decide +kernel)) ggX0_empty_X0_length
theorem dX0_empty_0 : decode cX0_empty 0 = .ok (.aload_n 0, 1) := by decide +kernel
theorem dX0_empty_1 : decode cX0_empty 1 = .ok (.invokevirtual 59, 3) := by decide +kernel
theorem dX0_empty_4 : decode cX0_empty 4 = .ok (.istore_n 1, 1) := by decide +kernel
theorem dX0_empty_5 : decode cX0_empty 5 = .ok (.aload_n 0, 1) := by decide +kernel
theorem dX0_empty_6 : decode cX0_empty 6 = .ok (.iconst 0, 1) := by decide +kernel
theorem dX0_empty_7 : decode cX0_empty 7 = .ok (.putfield 21, 3) := by decide +kernel
theorem dX0_empty_10 : decode cX0_empty 10 = .ok (.aload_n 0, 1) := by decide +kernel
theorem dX0_empty_11 : decode cX0_empty 11 = .ok (.ldc2_w 15, 3) := by decide +kernel
theorem dX0_empty_14 : decode cX0_empty 14 = .ok (.putfield 17, 3) := by decide +kernel
theorem dX0_empty_17 : decode cX0_empty 17 = .ok (.aload_n 0, 1) := by decide +kernel
theorem dX0_empty_18 : decode cX0_empty 18 = .ok (.lconst 0, 1) := by decide +kernel
theorem dX0_empty_19 : decode cX0_empty 19 = .ok (.putfield 51, 3) := by decide +kernel
theorem dX0_empty_22 : decode cX0_empty 22 = .ok (.iload_n 1, 1) := by decide +kernel
theorem dX0_empty_23 : decode cX0_empty 23 = .ok (.ireturn, 1) := by decide +kernel
set_option maxRecDepth 20000 in
theorem ggX0_keepProved_X0_cardBit : GoodIn wsX0_keepProved wsX0_cardBit := goodIn_r _ [5] (by decide +kernel) (by decide +kernel)
set_option maxRecDepth 20000 in
theorem gX0_keepProved_X0_cardBit : GoodIn wsX0_keepProved (va_wsS RX0 47 yX0_cardBit wsX0_cardBit) := goodIn_app (goodIn_of _ (by decide +kernel)) ggX0_keepProved_X0_cardBit
set_option maxRecDepth 20000 in
theorem ggX0_keepProved_X0_empty : GoodIn wsX0_keepProved wsX0_empty := goodIn_r _ [9, 10, 11, 12, 13, 14, 15, 16, 4, 17, 1, 18, 19, 20, 21, 26, 27, 28, 29] (by decide +kernel) (by decide +kernel)
set_option maxRecDepth 20000 in
theorem gX0_keepProved_X0_empty : GoodIn wsX0_keepProved (wsV RX0 63 RX0 yX0_empty wsX0_empty) := goodIn_app (goodIn_of _ (by decide +kernel)) ggX0_keepProved_X0_empty
set_option maxRecDepth 20000 in
theorem ggX0_keepProved_X0_add : GoodIn wsX0_keepProved wsX0_add := goodIn_r _ [25, 10, 1, 12, 13, 26, 27, 28, 29] (by decide +kernel) (by decide +kernel)
set_option maxRecDepth 20000 in
theorem gX0_keepProved_X0_add : GoodIn wsX0_keepProved (wsV RX0 29 RX0 yX0_add wsX0_add) := goodIn_app (goodIn_of _ (by decide +kernel)) ggX0_keepProved_X0_add
theorem dX0_keepProved_0 : decode cX0_keepProved 0 = .ok (.iload_n 1, 1) := by decide +kernel
theorem dX0_keepProved_1 : decode cX0_keepProved 1 = .ok (.iload_n 2, 1) := by decide +kernel
theorem dX0_keepProved_2 : decode cX0_keepProved 2 = .ok (.invokestatic 47, 3) := by decide +kernel
theorem dX0_keepProved_5 : decode cX0_keepProved 5 = .ok (.lstore 4, 2) := by decide +kernel
theorem dX0_keepProved_7 : decode cX0_keepProved 7 = .ok (.aload_n 0, 1) := by decide +kernel
theorem dX0_keepProved_8 : decode cX0_keepProved 8 = .ok (.invokevirtual 63, 3) := by decide +kernel
theorem dX0_keepProved_11 : decode cX0_keepProved 11 = .ok (.istore 6, 2) := by decide +kernel
theorem dX0_keepProved_13 : decode cX0_keepProved 13 = .ok (.iconst 0, 1) := by decide +kernel
theorem dX0_keepProved_14 : decode cX0_keepProved 14 = .ok (.istore 7, 2) := by decide +kernel
theorem dX0_keepProved_16 : decode cX0_keepProved 16 = .ok (.iload 7, 2) := by decide +kernel
theorem dX0_keepProved_18 : decode cX0_keepProved 18 = .ok (.iload 6, 2) := by decide +kernel
theorem dX0_keepProved_20 : decode cX0_keepProved 20 = .ok (.if_icmp .ge 44, 3) := by decide +kernel
theorem dX0_keepProved_23 : decode cX0_keepProved 23 = .ok (.aload_n 0, 1) := by decide +kernel
theorem dX0_keepProved_24 : decode cX0_keepProved 24 = .ok (.getfield 9, 3) := by decide +kernel
theorem dX0_keepProved_27 : decode cX0_keepProved 27 = .ok (.iload 7, 2) := by decide +kernel
theorem dX0_keepProved_29 : decode cX0_keepProved 29 = .ok (.laload, 1) := by decide +kernel
theorem dX0_keepProved_30 : decode cX0_keepProved 30 = .ok (.lload 4, 2) := by decide +kernel
theorem dX0_keepProved_32 : decode cX0_keepProved 32 = .ok (.land, 1) := by decide +kernel
theorem dX0_keepProved_33 : decode cX0_keepProved 33 = .ok (.lconst 0, 1) := by decide +kernel
theorem dX0_keepProved_34 : decode cX0_keepProved 34 = .ok (.lcmp, 1) := by decide +kernel
theorem dX0_keepProved_35 : decode cX0_keepProved 35 = .ok (.ifCond .eq 7, 3) := by decide +kernel
theorem dX0_keepProved_38 : decode cX0_keepProved 38 = .ok (.iconst 1, 1) := by decide +kernel
theorem dX0_keepProved_39 : decode cX0_keepProved 39 = .ok (.goto 4, 3) := by decide +kernel
theorem dX0_keepProved_42 : decode cX0_keepProved 42 = .ok (.iconst 0, 1) := by decide +kernel
theorem dX0_keepProved_43 : decode cX0_keepProved 43 = .ok (.iload_n 3, 1) := by decide +kernel
theorem dX0_keepProved_44 : decode cX0_keepProved 44 = .ok (.if_icmp .ne 14, 3) := by decide +kernel
theorem dX0_keepProved_47 : decode cX0_keepProved 47 = .ok (.aload_n 0, 1) := by decide +kernel
theorem dX0_keepProved_48 : decode cX0_keepProved 48 = .ok (.aload_n 0, 1) := by decide +kernel
theorem dX0_keepProved_49 : decode cX0_keepProved 49 = .ok (.getfield 9, 3) := by decide +kernel
theorem dX0_keepProved_52 : decode cX0_keepProved 52 = .ok (.iload 7, 2) := by decide +kernel
theorem dX0_keepProved_54 : decode cX0_keepProved 54 = .ok (.laload, 1) := by decide +kernel
theorem dX0_keepProved_55 : decode cX0_keepProved 55 = .ok (.invokevirtual 29, 3) := by decide +kernel
theorem dX0_keepProved_58 : decode cX0_keepProved 58 = .ok (.iinc 7 1, 3) := by decide +kernel
theorem dX0_keepProved_61 : decode cX0_keepProved 61 = .ok (.goto (-45), 3) := by decide +kernel
theorem dX0_keepProved_64 : decode cX0_keepProved 64 = .ok (.return_, 1) := by decide +kernel
set_option maxRecDepth 20000 in
theorem ggX0_keepAnswered_X0_wrongBit : GoodIn wsX0_keepAnswered wsX0_wrongBit := goodIn_r _ [5] (by decide +kernel) (by decide +kernel)
set_option maxRecDepth 20000 in
theorem gX0_keepAnswered_X0_wrongBit : GoodIn wsX0_keepAnswered (va_wsS RX0 66 yX0_wrongBit wsX0_wrongBit) := goodIn_app (goodIn_of _ (by decide +kernel)) ggX0_keepAnswered_X0_wrongBit
set_option maxRecDepth 20000 in
theorem ggX0_keepAnswered_X0_empty : GoodIn wsX0_keepAnswered wsX0_empty := goodIn_r _ [9, 10, 11, 12, 13, 14, 15, 16, 4, 17, 1, 18, 19, 20, 21, 36, 37, 38, 39] (by decide +kernel) (by decide +kernel)
set_option maxRecDepth 20000 in
theorem gX0_keepAnswered_X0_empty : GoodIn wsX0_keepAnswered (wsV RX0 63 RX0 yX0_empty wsX0_empty) := goodIn_app (goodIn_of _ (by decide +kernel)) ggX0_keepAnswered_X0_empty
set_option maxRecDepth 20000 in
theorem ggX0_keepAnswered_X0_cardsAt : GoodIn wsX0_keepAnswered wsX0_cardsAt := goodIn_r _ [24] (by decide +kernel) (by decide +kernel)
set_option maxRecDepth 20000 in
theorem gX0_keepAnswered_X0_cardsAt : GoodIn wsX0_keepAnswered (va_wsS RX0 33 yX0_cardsAt wsX0_cardsAt) := goodIn_app (goodIn_of _ (by decide +kernel)) ggX0_keepAnswered_X0_cardsAt
set_option maxRecDepth 20000 in
theorem ggX0_keepAnswered_J6_bitCount_0f7a4 : GoodIn wsX0_keepAnswered wsJ6_bitCount_0f7a4 := goodIn_r _ [28, 29, 30, 31] (by decide +kernel) (by decide +kernel)
set_option maxRecDepth 20000 in
theorem gX0_keepAnswered_J6_bitCount_0f7a4 : GoodIn wsX0_keepAnswered (va_wsS RX0 37 yJ6_bitCount_0f7a4 wsJ6_bitCount_0f7a4) := goodIn_app (goodIn_of _ (by decide +kernel)) ggX0_keepAnswered_J6_bitCount_0f7a4
set_option maxRecDepth 20000 in
theorem ggX0_keepAnswered_X0_add : GoodIn wsX0_keepAnswered wsX0_add := goodIn_r _ [35, 10, 1, 12, 13, 36, 37, 38, 39] (by decide +kernel) (by decide +kernel)
set_option maxRecDepth 20000 in
theorem gX0_keepAnswered_X0_add : GoodIn wsX0_keepAnswered (wsV RX0 29 RX0 yX0_add wsX0_add) := goodIn_app (goodIn_of _ (by decide +kernel)) ggX0_keepAnswered_X0_add
theorem dX0_keepAnswered_0 : decode cX0_keepAnswered 0 = .ok (.iload_n 1, 1) := by decide +kernel
theorem dX0_keepAnswered_1 : decode cX0_keepAnswered 1 = .ok (.invokestatic 66, 3) := by decide +kernel
theorem dX0_keepAnswered_4 : decode cX0_keepAnswered 4 = .ok (.lstore 4, 2) := by decide +kernel
theorem dX0_keepAnswered_6 : decode cX0_keepAnswered 6 = .ok (.aload_n 0, 1) := by decide +kernel
theorem dX0_keepAnswered_7 : decode cX0_keepAnswered 7 = .ok (.invokevirtual 63, 3) := by decide +kernel
theorem dX0_keepAnswered_10 : decode cX0_keepAnswered 10 = .ok (.istore 6, 2) := by decide +kernel
theorem dX0_keepAnswered_12 : decode cX0_keepAnswered 12 = .ok (.iconst 0, 1) := by decide +kernel
theorem dX0_keepAnswered_13 : decode cX0_keepAnswered 13 = .ok (.istore 7, 2) := by decide +kernel
theorem dX0_keepAnswered_15 : decode cX0_keepAnswered 15 = .ok (.iload 7, 2) := by decide +kernel
theorem dX0_keepAnswered_17 : decode cX0_keepAnswered 17 = .ok (.iload 6, 2) := by decide +kernel
theorem dX0_keepAnswered_19 : decode cX0_keepAnswered 19 = .ok (.if_icmp .ge 61, 3) := by decide +kernel
theorem dX0_keepAnswered_22 : decode cX0_keepAnswered 22 = .ok (.aload_n 0, 1) := by decide +kernel
theorem dX0_keepAnswered_23 : decode cX0_keepAnswered 23 = .ok (.getfield 9, 3) := by decide +kernel
theorem dX0_keepAnswered_26 : decode cX0_keepAnswered 26 = .ok (.iload 7, 2) := by decide +kernel
theorem dX0_keepAnswered_28 : decode cX0_keepAnswered 28 = .ok (.laload, 1) := by decide +kernel
theorem dX0_keepAnswered_29 : decode cX0_keepAnswered 29 = .ok (.lstore 8, 2) := by decide +kernel
theorem dX0_keepAnswered_31 : decode cX0_keepAnswered 31 = .ok (.lload 8, 2) := by decide +kernel
theorem dX0_keepAnswered_33 : decode cX0_keepAnswered 33 = .ok (.iload_n 1, 1) := by decide +kernel
theorem dX0_keepAnswered_34 : decode cX0_keepAnswered 34 = .ok (.invokestatic 33, 3) := by decide +kernel
theorem dX0_keepAnswered_37 : decode cX0_keepAnswered 37 = .ok (.iload_n 2, 1) := by decide +kernel
theorem dX0_keepAnswered_38 : decode cX0_keepAnswered 38 = .ok (.iand, 1) := by decide +kernel
theorem dX0_keepAnswered_39 : decode cX0_keepAnswered 39 = .ok (.invokestatic 37, 3) := by decide +kernel
theorem dX0_keepAnswered_42 : decode cX0_keepAnswered 42 = .ok (.iload_n 3, 1) := by decide +kernel
theorem dX0_keepAnswered_43 : decode cX0_keepAnswered 43 = .ok (.if_icmp .ne 12, 3) := by decide +kernel
theorem dX0_keepAnswered_46 : decode cX0_keepAnswered 46 = .ok (.aload_n 0, 1) := by decide +kernel
theorem dX0_keepAnswered_47 : decode cX0_keepAnswered 47 = .ok (.lload 8, 2) := by decide +kernel
theorem dX0_keepAnswered_49 : decode cX0_keepAnswered 49 = .ok (.invokevirtual 29, 3) := by decide +kernel
theorem dX0_keepAnswered_52 : decode cX0_keepAnswered 52 = .ok (.goto 22, 3) := by decide +kernel
theorem dX0_keepAnswered_55 : decode cX0_keepAnswered 55 = .ok (.lload 8, 2) := by decide +kernel
theorem dX0_keepAnswered_57 : decode cX0_keepAnswered 57 = .ok (.lload 4, 2) := by decide +kernel
theorem dX0_keepAnswered_59 : decode cX0_keepAnswered 59 = .ok (.land, 1) := by decide +kernel
theorem dX0_keepAnswered_60 : decode cX0_keepAnswered 60 = .ok (.lconst 0, 1) := by decide +kernel
theorem dX0_keepAnswered_61 : decode cX0_keepAnswered 61 = .ok (.lcmp, 1) := by decide +kernel
theorem dX0_keepAnswered_62 : decode cX0_keepAnswered 62 = .ok (.ifCond .ne 12, 3) := by decide +kernel
theorem dX0_keepAnswered_65 : decode cX0_keepAnswered 65 = .ok (.aload_n 0, 1) := by decide +kernel
theorem dX0_keepAnswered_66 : decode cX0_keepAnswered 66 = .ok (.lload 8, 2) := by decide +kernel
theorem dX0_keepAnswered_68 : decode cX0_keepAnswered 68 = .ok (.lload 4, 2) := by decide +kernel
theorem dX0_keepAnswered_70 : decode cX0_keepAnswered 70 = .ok (.lor, 1) := by decide +kernel
theorem dX0_keepAnswered_71 : decode cX0_keepAnswered 71 = .ok (.invokevirtual 29, 3) := by decide +kernel
theorem dX0_keepAnswered_74 : decode cX0_keepAnswered 74 = .ok (.iinc 7 1, 3) := by decide +kernel
theorem dX0_keepAnswered_77 : decode cX0_keepAnswered 77 = .ok (.goto (-62), 3) := by decide +kernel
theorem dX0_keepAnswered_80 : decode cX0_keepAnswered 80 = .ok (.return_, 1) := by decide +kernel
set_option maxRecDepth 20000 in
theorem ggX0_countWith_X0_cardBit : GoodIn wsX0_countWith wsX0_cardBit := goodIn_r _ [5] (by decide +kernel) (by decide +kernel)
set_option maxRecDepth 20000 in
theorem gX0_countWith_X0_cardBit : GoodIn wsX0_countWith (va_wsS RX0 47 yX0_cardBit wsX0_cardBit) := goodIn_app (goodIn_of _ (by decide +kernel)) ggX0_countWith_X0_cardBit
set_option maxRecDepth 20000 in
theorem ggX0_countWith_X0_length : GoodIn wsX0_countWith wsX0_length := goodIn_r _ [9, 10, 1, 11, 12, 13, 14, 15, 16, 17, 18] (by decide +kernel) (by decide +kernel)
set_option maxRecDepth 20000 in
theorem gX0_countWith_X0_length : GoodIn wsX0_countWith (wsV RX0 59 RX0 yX0_length wsX0_length) := goodIn_app (goodIn_of _ (by decide +kernel)) ggX0_countWith_X0_length
theorem dX0_countWith_0 : decode cX0_countWith 0 = .ok (.iload_n 1, 1) := by decide +kernel
theorem dX0_countWith_1 : decode cX0_countWith 1 = .ok (.iload_n 2, 1) := by decide +kernel
theorem dX0_countWith_2 : decode cX0_countWith 2 = .ok (.invokestatic 47, 3) := by decide +kernel
theorem dX0_countWith_5 : decode cX0_countWith 5 = .ok (.lstore_n 3, 1) := by decide +kernel
theorem dX0_countWith_6 : decode cX0_countWith 6 = .ok (.iconst 0, 1) := by decide +kernel
theorem dX0_countWith_7 : decode cX0_countWith 7 = .ok (.istore 5, 2) := by decide +kernel
theorem dX0_countWith_9 : decode cX0_countWith 9 = .ok (.aload_n 0, 1) := by decide +kernel
theorem dX0_countWith_10 : decode cX0_countWith 10 = .ok (.invokevirtual 59, 3) := by decide +kernel
theorem dX0_countWith_13 : decode cX0_countWith 13 = .ok (.istore 6, 2) := by decide +kernel
theorem dX0_countWith_15 : decode cX0_countWith 15 = .ok (.iconst 0, 1) := by decide +kernel
theorem dX0_countWith_16 : decode cX0_countWith 16 = .ok (.istore 7, 2) := by decide +kernel
theorem dX0_countWith_18 : decode cX0_countWith 18 = .ok (.iload 7, 2) := by decide +kernel
theorem dX0_countWith_20 : decode cX0_countWith 20 = .ok (.iload 6, 2) := by decide +kernel
theorem dX0_countWith_22 : decode cX0_countWith 22 = .ok (.if_icmp .ge 26, 3) := by decide +kernel
theorem dX0_countWith_25 : decode cX0_countWith 25 = .ok (.aload_n 0, 1) := by decide +kernel
theorem dX0_countWith_26 : decode cX0_countWith 26 = .ok (.getfield 9, 3) := by decide +kernel
theorem dX0_countWith_29 : decode cX0_countWith 29 = .ok (.iload 7, 2) := by decide +kernel
theorem dX0_countWith_31 : decode cX0_countWith 31 = .ok (.laload, 1) := by decide +kernel
theorem dX0_countWith_32 : decode cX0_countWith 32 = .ok (.lload_n 3, 1) := by decide +kernel
theorem dX0_countWith_33 : decode cX0_countWith 33 = .ok (.land, 1) := by decide +kernel
theorem dX0_countWith_34 : decode cX0_countWith 34 = .ok (.lconst 0, 1) := by decide +kernel
theorem dX0_countWith_35 : decode cX0_countWith 35 = .ok (.lcmp, 1) := by decide +kernel
theorem dX0_countWith_36 : decode cX0_countWith 36 = .ok (.ifCond .eq 6, 3) := by decide +kernel
theorem dX0_countWith_39 : decode cX0_countWith 39 = .ok (.iinc 5 1, 3) := by decide +kernel
theorem dX0_countWith_42 : decode cX0_countWith 42 = .ok (.iinc 7 1, 3) := by decide +kernel
theorem dX0_countWith_45 : decode cX0_countWith 45 = .ok (.goto (-27), 3) := by decide +kernel
theorem dX0_countWith_48 : decode cX0_countWith 48 = .ok (.iload 5, 2) := by decide +kernel
theorem dX0_countWith_50 : decode cX0_countWith 50 = .ok (.ireturn, 1) := by decide +kernel
set_option maxRecDepth 20000 in
theorem ggX0_cardsInAll_X0_cardsAt : GoodIn wsX0_cardsInAll wsX0_cardsAt := goodIn_r _ [6] (by decide +kernel) (by decide +kernel)
set_option maxRecDepth 20000 in
theorem gX0_cardsInAll_X0_cardsAt : GoodIn wsX0_cardsInAll (va_wsS RX0 33 yX0_cardsAt wsX0_cardsAt) := goodIn_app (goodIn_of _ (by decide +kernel)) ggX0_cardsInAll_X0_cardsAt
theorem dX0_cardsInAll_0 : decode cX0_cardsInAll 0 = .ok (.aload_n 0, 1) := by decide +kernel
theorem dX0_cardsInAll_1 : decode cX0_cardsInAll 1 = .ok (.getfield 21, 3) := by decide +kernel
theorem dX0_cardsInAll_4 : decode cX0_cardsInAll 4 = .ok (.ifCond .ne 7, 3) := by decide +kernel
theorem dX0_cardsInAll_7 : decode cX0_cardsInAll 7 = .ok (.iconst 0, 1) := by decide +kernel
theorem dX0_cardsInAll_8 : decode cX0_cardsInAll 8 = .ok (.goto 11, 3) := by decide +kernel
theorem dX0_cardsInAll_11 : decode cX0_cardsInAll 11 = .ok (.aload_n 0, 1) := by decide +kernel
theorem dX0_cardsInAll_12 : decode cX0_cardsInAll 12 = .ok (.getfield 17, 3) := by decide +kernel
theorem dX0_cardsInAll_15 : decode cX0_cardsInAll 15 = .ok (.iload_n 1, 1) := by decide +kernel
theorem dX0_cardsInAll_16 : decode cX0_cardsInAll 16 = .ok (.invokestatic 33, 3) := by decide +kernel
theorem dX0_cardsInAll_19 : decode cX0_cardsInAll 19 = .ok (.ireturn, 1) := by decide +kernel
set_option maxRecDepth 20000 in
theorem ggX0_cardsInSome_X0_cardsAt : GoodIn wsX0_cardsInSome wsX0_cardsAt := goodIn_r _ [5] (by decide +kernel) (by decide +kernel)
set_option maxRecDepth 20000 in
theorem gX0_cardsInSome_X0_cardsAt : GoodIn wsX0_cardsInSome (va_wsS RX0 33 yX0_cardsAt wsX0_cardsAt) := goodIn_app (goodIn_of _ (by decide +kernel)) ggX0_cardsInSome_X0_cardsAt
theorem dX0_cardsInSome_0 : decode cX0_cardsInSome 0 = .ok (.aload_n 0, 1) := by decide +kernel
theorem dX0_cardsInSome_1 : decode cX0_cardsInSome 1 = .ok (.getfield 51, 3) := by decide +kernel
theorem dX0_cardsInSome_4 : decode cX0_cardsInSome 4 = .ok (.iload_n 1, 1) := by decide +kernel
theorem dX0_cardsInSome_5 : decode cX0_cardsInSome 5 = .ok (.invokestatic 33, 3) := by decide +kernel
theorem dX0_cardsInSome_8 : decode cX0_cardsInSome 8 = .ok (.ireturn, 1) := by decide +kernel
set_option maxRecDepth 20000 in
theorem ggX0_isWrongInAll_X0_wrongBit : GoodIn wsX0_isWrongInAll wsX0_wrongBit := goodIn_r _ [6] (by decide +kernel) (by decide +kernel)
set_option maxRecDepth 20000 in
theorem gX0_isWrongInAll_X0_wrongBit : GoodIn wsX0_isWrongInAll (va_wsS RX0 66 yX0_wrongBit wsX0_wrongBit) := goodIn_app (goodIn_of _ (by decide +kernel)) ggX0_isWrongInAll_X0_wrongBit
theorem dX0_isWrongInAll_0 : decode cX0_isWrongInAll 0 = .ok (.aload_n 0, 1) := by decide +kernel
theorem dX0_isWrongInAll_1 : decode cX0_isWrongInAll 1 = .ok (.getfield 21, 3) := by decide +kernel
theorem dX0_isWrongInAll_4 : decode cX0_isWrongInAll 4 = .ok (.ifCond .le 21, 3) := by decide +kernel
theorem dX0_isWrongInAll_7 : decode cX0_isWrongInAll 7 = .ok (.aload_n 0, 1) := by decide +kernel
theorem dX0_isWrongInAll_8 : decode cX0_isWrongInAll 8 = .ok (.getfield 17, 3) := by decide +kernel
theorem dX0_isWrongInAll_11 : decode cX0_isWrongInAll 11 = .ok (.iload_n 1, 1) := by decide +kernel
theorem dX0_isWrongInAll_12 : decode cX0_isWrongInAll 12 = .ok (.invokestatic 66, 3) := by decide +kernel
theorem dX0_isWrongInAll_15 : decode cX0_isWrongInAll 15 = .ok (.land, 1) := by decide +kernel
theorem dX0_isWrongInAll_16 : decode cX0_isWrongInAll 16 = .ok (.lconst 0, 1) := by decide +kernel
theorem dX0_isWrongInAll_17 : decode cX0_isWrongInAll 17 = .ok (.lcmp, 1) := by decide +kernel
theorem dX0_isWrongInAll_18 : decode cX0_isWrongInAll 18 = .ok (.ifCond .eq 7, 3) := by decide +kernel
theorem dX0_isWrongInAll_21 : decode cX0_isWrongInAll 21 = .ok (.iconst 1, 1) := by decide +kernel
theorem dX0_isWrongInAll_22 : decode cX0_isWrongInAll 22 = .ok (.goto 4, 3) := by decide +kernel
theorem dX0_isWrongInAll_25 : decode cX0_isWrongInAll 25 = .ok (.iconst 0, 1) := by decide +kernel
theorem dX0_isWrongInAll_26 : decode cX0_isWrongInAll 26 = .ok (.ireturn, 1) := by decide +kernel
set_option maxRecDepth 20000 in
theorem ggX0_copyFrom_X0_length : GoodIn wsX0_copyFrom wsX0_length := goodIn_r _ [13, 6, 1, 14, 15, 16, 17, 18, 19, 20, 21] (by decide +kernel) (by decide +kernel)
set_option maxRecDepth 20000 in
theorem gX0_copyFrom_X0_length : GoodIn wsX0_copyFrom (wsV RX0 59 RX0 yX0_length wsX0_length) := goodIn_app (goodIn_of _ (by decide +kernel)) ggX0_copyFrom_X0_length
theorem dX0_copyFrom_0 : decode cX0_copyFrom 0 = .ok (.aload_n 1, 1) := by decide +kernel
theorem dX0_copyFrom_1 : decode cX0_copyFrom 1 = .ok (.invokevirtual 59, 3) := by decide +kernel
theorem dX0_copyFrom_4 : decode cX0_copyFrom 4 = .ok (.istore_n 2, 1) := by decide +kernel
theorem dX0_copyFrom_5 : decode cX0_copyFrom 5 = .ok (.iload_n 2, 1) := by decide +kernel
theorem dX0_copyFrom_6 : decode cX0_copyFrom 6 = .ok (.ifCond .lt 47, 3) := by decide +kernel
theorem dX0_copyFrom_9 : decode cX0_copyFrom 9 = .ok (.iload_n 2, 1) := by decide +kernel
theorem dX0_copyFrom_10 : decode cX0_copyFrom 10 = .ok (.aload_n 0, 1) := by decide +kernel
theorem dX0_copyFrom_11 : decode cX0_copyFrom 11 = .ok (.getfield 9, 3) := by decide +kernel
theorem dX0_copyFrom_14 : decode cX0_copyFrom 14 = .ok (.arraylength, 1) := by decide +kernel
theorem dX0_copyFrom_15 : decode cX0_copyFrom 15 = .ok (.if_icmp .gt 38, 3) := by decide +kernel
theorem dX0_copyFrom_18 : decode cX0_copyFrom 18 = .ok (.aload_n 1, 1) := by decide +kernel
theorem dX0_copyFrom_19 : decode cX0_copyFrom 19 = .ok (.getfield 9, 3) := by decide +kernel
theorem dX0_copyFrom_22 : decode cX0_copyFrom 22 = .ok (.iconst 0, 1) := by decide +kernel
theorem dX0_copyFrom_23 : decode cX0_copyFrom 23 = .ok (.aload_n 0, 1) := by decide +kernel
theorem dX0_copyFrom_24 : decode cX0_copyFrom 24 = .ok (.getfield 9, 3) := by decide +kernel
theorem dX0_copyFrom_27 : decode cX0_copyFrom 27 = .ok (.iconst 0, 1) := by decide +kernel
theorem dX0_copyFrom_28 : decode cX0_copyFrom 28 = .ok (.iload_n 2, 1) := by decide +kernel
theorem dX0_copyFrom_29 : decode cX0_copyFrom 29 = .ok (.invokestatic 70, 3) := by decide +kernel
theorem dX0_copyFrom_32 : decode cX0_copyFrom 32 = .ok (.aload_n 0, 1) := by decide +kernel
theorem dX0_copyFrom_33 : decode cX0_copyFrom 33 = .ok (.iload_n 2, 1) := by decide +kernel
theorem dX0_copyFrom_34 : decode cX0_copyFrom 34 = .ok (.putfield 21, 3) := by decide +kernel
theorem dX0_copyFrom_37 : decode cX0_copyFrom 37 = .ok (.aload_n 0, 1) := by decide +kernel
theorem dX0_copyFrom_38 : decode cX0_copyFrom 38 = .ok (.aload_n 1, 1) := by decide +kernel
theorem dX0_copyFrom_39 : decode cX0_copyFrom 39 = .ok (.getfield 17, 3) := by decide +kernel
theorem dX0_copyFrom_42 : decode cX0_copyFrom 42 = .ok (.putfield 17, 3) := by decide +kernel
theorem dX0_copyFrom_45 : decode cX0_copyFrom 45 = .ok (.aload_n 0, 1) := by decide +kernel
theorem dX0_copyFrom_46 : decode cX0_copyFrom 46 = .ok (.aload_n 1, 1) := by decide +kernel
theorem dX0_copyFrom_47 : decode cX0_copyFrom 47 = .ok (.getfield 51, 3) := by decide +kernel
theorem dX0_copyFrom_50 : decode cX0_copyFrom 50 = .ok (.putfield 51, 3) := by decide +kernel
theorem dX0_copyFrom_53 : decode cX0_copyFrom 53 = .ok (.return_, 1) := by decide +kernel
theorem dX0_cardsAt_0 : decode cX0_cardsAt 0 = .ok (.lload_n 0, 1) := by decide +kernel
theorem dX0_cardsAt_1 : decode cX0_cardsAt 1 = .ok (.bipush 8, 2) := by decide +kernel
theorem dX0_cardsAt_3 : decode cX0_cardsAt 3 = .ok (.iload_n 2, 1) := by decide +kernel
theorem dX0_cardsAt_4 : decode cX0_cardsAt 4 = .ok (.imul, 1) := by decide +kernel
theorem dX0_cardsAt_5 : decode cX0_cardsAt 5 = .ok (.lushr, 1) := by decide +kernel
theorem dX0_cardsAt_6 : decode cX0_cardsAt 6 = .ok (.l2i, 1) := by decide +kernel
theorem dX0_cardsAt_7 : decode cX0_cardsAt 7 = .ok (.sipush 255, 3) := by decide +kernel
theorem dX0_cardsAt_10 : decode cX0_cardsAt 10 = .ok (.iand, 1) := by decide +kernel
theorem dX0_cardsAt_11 : decode cX0_cardsAt 11 = .ok (.ireturn, 1) := by decide +kernel
theorem dX0_cardBit_0 : decode cX0_cardBit 0 = .ok (.lconst 1, 1) := by decide +kernel
theorem dX0_cardBit_1 : decode cX0_cardBit 1 = .ok (.bipush 8, 2) := by decide +kernel
theorem dX0_cardBit_3 : decode cX0_cardBit 3 = .ok (.iload_n 0, 1) := by decide +kernel
theorem dX0_cardBit_4 : decode cX0_cardBit 4 = .ok (.imul, 1) := by decide +kernel
theorem dX0_cardBit_5 : decode cX0_cardBit 5 = .ok (.iload_n 1, 1) := by decide +kernel
theorem dX0_cardBit_6 : decode cX0_cardBit 6 = .ok (.iadd, 1) := by decide +kernel
theorem dX0_cardBit_7 : decode cX0_cardBit 7 = .ok (.lshl, 1) := by decide +kernel
theorem dX0_cardBit_8 : decode cX0_cardBit 8 = .ok (.lreturn, 1) := by decide +kernel
theorem dX0_wrongBit_0 : decode cX0_wrongBit 0 = .ok (.lconst 1, 1) := by decide +kernel
theorem dX0_wrongBit_1 : decode cX0_wrongBit 1 = .ok (.bipush 40, 2) := by decide +kernel
theorem dX0_wrongBit_3 : decode cX0_wrongBit 3 = .ok (.iload_n 0, 1) := by decide +kernel
theorem dX0_wrongBit_4 : decode cX0_wrongBit 4 = .ok (.iadd, 1) := by decide +kernel
theorem dX0_wrongBit_5 : decode cX0_wrongBit 5 = .ok (.lshl, 1) := by decide +kernel
theorem dX0_wrongBit_6 : decode cX0_wrongBit 6 = .ok (.lreturn, 1) := by decide +kernel
set_option maxRecDepth 20000 in
theorem ggX1_init_X0_init : GoodIn wsX1_init wsX0_init := goodIn_r _ [16, 17, 2, 3, 18, 19, 20, 21, 39, 40, 41, 42] (by decide +kernel) (by decide +kernel)
set_option maxRecDepth 20000 in
theorem gX1_init_X0_init_n33 : GoodIn wsX1_init (wsX0_init) := ggX1_init_X0_init
theorem dX1_init_0 : decode cX1_init 0 = .ok (.aload_n 0, 1) := by decide +kernel
theorem dX1_init_1 : decode cX1_init 1 = .ok (.invokespecial 3, 3) := by decide +kernel
theorem dX1_init_4 : decode cX1_init 4 = .ok (.aload_n 0, 1) := by decide +kernel
theorem dX1_init_5 : decode cX1_init 5 = .ok (.iconst 1, 1) := by decide +kernel
theorem dX1_init_6 : decode cX1_init 6 = .ok (.putfield 9, 3) := by decide +kernel
theorem dX1_init_9 : decode cX1_init 9 = .ok (.aload_n 0, 1) := by decide +kernel
theorem dX1_init_10 : decode cX1_init 10 = .ok (.iconst 4, 1) := by decide +kernel
theorem dX1_init_11 : decode cX1_init 11 = .ok (.newarray .int, 2) := by decide +kernel
theorem dX1_init_13 : decode cX1_init 13 = .ok (.putfield 15, 3) := by decide +kernel
theorem dX1_init_16 : decode cX1_init 16 = .ok (.aload_n 0, 1) := by decide +kernel
theorem dX1_init_17 : decode cX1_init 17 = .ok (.iconst 4, 1) := by decide +kernel
theorem dX1_init_18 : decode cX1_init 18 = .ok (.newarray .int, 2) := by decide +kernel
theorem dX1_init_20 : decode cX1_init 20 = .ok (.putfield 19, 3) := by decide +kernel
theorem dX1_init_23 : decode cX1_init 23 = .ok (.aload_n 0, 1) := by decide +kernel
theorem dX1_init_24 : decode cX1_init 24 = .ok (.bipush 20, 2) := by decide +kernel
theorem dX1_init_26 : decode cX1_init 26 = .ok (.newarray .int, 2) := by decide +kernel
theorem dX1_init_28 : decode cX1_init 28 = .ok (.putfield 22, 3) := by decide +kernel
theorem dX1_init_31 : decode cX1_init 31 = .ok (.aload_n 0, 1) := by decide +kernel
theorem dX1_init_32 : decode cX1_init 32 = .ok (.bipush 20, 2) := by decide +kernel
theorem dX1_init_34 : decode cX1_init 34 = .ok (.newarray .int, 2) := by decide +kernel
theorem dX1_init_36 : decode cX1_init 36 = .ok (.putfield 25, 3) := by decide +kernel
theorem dX1_init_39 : decode cX1_init 39 = .ok (.aload_n 0, 1) := by decide +kernel
theorem dX1_init_40 : decode cX1_init 40 = .ok (.bipush 20, 2) := by decide +kernel
theorem dX1_init_42 : decode cX1_init 42 = .ok (.newarray .int, 2) := by decide +kernel
theorem dX1_init_44 : decode cX1_init 44 = .ok (.putfield 28, 3) := by decide +kernel
theorem dX1_init_47 : decode cX1_init 47 = .ok (.aload_n 0, 1) := by decide +kernel
theorem dX1_init_48 : decode cX1_init 48 = .ok (.new 31, 3) := by decide +kernel
theorem dX1_init_51 : decode cX1_init 51 = .ok (.dup, 1) := by decide +kernel
theorem dX1_init_52 : decode cX1_init 52 = .ok (.invokespecial 33, 3) := by decide +kernel
theorem dX1_init_55 : decode cX1_init 55 = .ok (.putfield 34, 3) := by decide +kernel
theorem dX1_init_58 : decode cX1_init 58 = .ok (.return_, 1) := by decide +kernel
theorem dX1_hasGuest_0 : decode cX1_hasGuest 0 = .ok (.iload_n 1, 1) := by decide +kernel
theorem dX1_hasGuest_1 : decode cX1_hasGuest 1 = .ok (.ifCond .lt 20, 3) := by decide +kernel
theorem dX1_hasGuest_4 : decode cX1_hasGuest 4 = .ok (.iload_n 1, 1) := by decide +kernel
theorem dX1_hasGuest_5 : decode cX1_hasGuest 5 = .ok (.aload_n 0, 1) := by decide +kernel
theorem dX1_hasGuest_6 : decode cX1_hasGuest 6 = .ok (.getfield 38, 3) := by decide +kernel
theorem dX1_hasGuest_9 : decode cX1_hasGuest 9 = .ok (.if_icmp .ge 12, 3) := by decide +kernel
theorem dX1_hasGuest_12 : decode cX1_hasGuest 12 = .ok (.iload_n 1, 1) := by decide +kernel
theorem dX1_hasGuest_13 : decode cX1_hasGuest 13 = .ok (.iconst 4, 1) := by decide +kernel
theorem dX1_hasGuest_14 : decode cX1_hasGuest 14 = .ok (.if_icmp .ge 7, 3) := by decide +kernel
theorem dX1_hasGuest_17 : decode cX1_hasGuest 17 = .ok (.iconst 1, 1) := by decide +kernel
theorem dX1_hasGuest_18 : decode cX1_hasGuest 18 = .ok (.goto 4, 3) := by decide +kernel
theorem dX1_hasGuest_21 : decode cX1_hasGuest 21 = .ok (.iconst 0, 1) := by decide +kernel
theorem dX1_hasGuest_22 : decode cX1_hasGuest 22 = .ok (.ireturn, 1) := by decide +kernel
set_option maxRecDepth 20000 in
theorem ggX1_isThere_X1_hasGuest : GoodIn wsX1_isThere wsX1_hasGuest := goodIn_r _ [7, 8, 9, 10, 11, 12, 13, 14, 15, 16, 17, 18, 19, 20, 21, 22, 23, 24, 25] (by decide +kernel) (by decide +kernel)
set_option maxRecDepth 20000 in
theorem gX1_isThere_X1_hasGuest : GoodIn wsX1_isThere (wsV RX1 45 RX1 yX1_hasGuest wsX1_hasGuest) := goodIn_app (goodIn_of _ (by decide +kernel)) ggX1_isThere_X1_hasGuest
theorem dX1_isThere_0 : decode cX1_isThere 0 = .ok (.aload_n 0, 1) := by decide +kernel
theorem dX1_isThere_1 : decode cX1_isThere 1 = .ok (.getfield 41, 3) := by decide +kernel
theorem dX1_isThere_4 : decode cX1_isThere 4 = .ok (.ifCond .eq 27, 3) := by decide +kernel
theorem dX1_isThere_7 : decode cX1_isThere 7 = .ok (.aload_n 0, 1) := by decide +kernel
theorem dX1_isThere_8 : decode cX1_isThere 8 = .ok (.iload_n 1, 1) := by decide +kernel
theorem dX1_isThere_9 : decode cX1_isThere 9 = .ok (.invokevirtual 45, 3) := by decide +kernel
theorem dX1_isThere_12 : decode cX1_isThere 12 = .ok (.ifCond .eq 19, 3) := by decide +kernel
theorem dX1_isThere_15 : decode cX1_isThere 15 = .ok (.aload_n 0, 1) := by decide +kernel
theorem dX1_isThere_16 : decode cX1_isThere 16 = .ok (.getfield 49, 3) := by decide +kernel
theorem dX1_isThere_19 : decode cX1_isThere 19 = .ok (.iload_n 1, 1) := by decide +kernel
theorem dX1_isThere_20 : decode cX1_isThere 20 = .ok (.ishr, 1) := by decide +kernel
theorem dX1_isThere_21 : decode cX1_isThere 21 = .ok (.iconst 1, 1) := by decide +kernel
theorem dX1_isThere_22 : decode cX1_isThere 22 = .ok (.iand, 1) := by decide +kernel
theorem dX1_isThere_23 : decode cX1_isThere 23 = .ok (.iconst 1, 1) := by decide +kernel
theorem dX1_isThere_24 : decode cX1_isThere 24 = .ok (.if_icmp .ne 7, 3) := by decide +kernel
theorem dX1_isThere_27 : decode cX1_isThere 27 = .ok (.iconst 1, 1) := by decide +kernel
theorem dX1_isThere_28 : decode cX1_isThere 28 = .ok (.goto 4, 3) := by decide +kernel
theorem dX1_isThere_31 : decode cX1_isThere 31 = .ok (.iconst 0, 1) := by decide +kernel
theorem dX1_isThere_32 : decode cX1_isThere 32 = .ok (.ireturn, 1) := by decide +kernel
set_option maxRecDepth 20000 in
theorem ggX1_canAnswer_X1_isThere : GoodIn wsX1_canAnswer wsX1_isThere := goodIn_r _ [7, 8, 9, 10, 11, 12, 6, 13, 14, 15, 16, 17, 18, 19, 20, 21, 22, 23, 24, 25, 26, 27, 28, 29, 30, 31] (by decide +kernel) (by decide +kernel)
set_option maxRecDepth 20000 in
theorem gX1_canAnswer_X1_isThere : GoodIn wsX1_canAnswer (wsV RX1 52 RX1 yX1_isThere wsX1_isThere) := goodIn_app (goodIn_of _ (by decide +kernel)) ggX1_canAnswer_X1_isThere
theorem dX1_canAnswer_0 : decode cX1_canAnswer 0 = .ok (.aload_n 0, 1) := by decide +kernel
theorem dX1_canAnswer_1 : decode cX1_canAnswer 1 = .ok (.iload_n 1, 1) := by decide +kernel
theorem dX1_canAnswer_2 : decode cX1_canAnswer 2 = .ok (.invokevirtual 52, 3) := by decide +kernel
theorem dX1_canAnswer_5 : decode cX1_canAnswer 5 = .ok (.ifCond .eq 32, 3) := by decide +kernel
theorem dX1_canAnswer_8 : decode cX1_canAnswer 8 = .ok (.aload_n 0, 1) := by decide +kernel
theorem dX1_canAnswer_9 : decode cX1_canAnswer 9 = .ok (.getfield 55, 3) := by decide +kernel
theorem dX1_canAnswer_12 : decode cX1_canAnswer 12 = .ok (.bipush 20, 2) := by decide +kernel
theorem dX1_canAnswer_14 : decode cX1_canAnswer 14 = .ok (.if_icmp .ge 23, 3) := by decide +kernel
theorem dX1_canAnswer_17 : decode cX1_canAnswer 17 = .ok (.iload_n 2, 1) := by decide +kernel
theorem dX1_canAnswer_18 : decode cX1_canAnswer 18 = .ok (.ifCond .eq 15, 3) := by decide +kernel
theorem dX1_canAnswer_21 : decode cX1_canAnswer 21 = .ok (.aload_n 0, 1) := by decide +kernel
theorem dX1_canAnswer_22 : decode cX1_canAnswer 22 = .ok (.getfield 58, 3) := by decide +kernel
theorem dX1_canAnswer_25 : decode cX1_canAnswer 25 = .ok (.iload_n 1, 1) := by decide +kernel
theorem dX1_canAnswer_26 : decode cX1_canAnswer 26 = .ok (.ishr, 1) := by decide +kernel
theorem dX1_canAnswer_27 : decode cX1_canAnswer 27 = .ok (.iconst 1, 1) := by decide +kernel
theorem dX1_canAnswer_28 : decode cX1_canAnswer 28 = .ok (.iand, 1) := by decide +kernel
theorem dX1_canAnswer_29 : decode cX1_canAnswer 29 = .ok (.iconst 1, 1) := by decide +kernel
theorem dX1_canAnswer_30 : decode cX1_canAnswer 30 = .ok (.if_icmp .eq 7, 3) := by decide +kernel
theorem dX1_canAnswer_33 : decode cX1_canAnswer 33 = .ok (.iconst 1, 1) := by decide +kernel
theorem dX1_canAnswer_34 : decode cX1_canAnswer 34 = .ok (.goto 4, 3) := by decide +kernel
theorem dX1_canAnswer_37 : decode cX1_canAnswer 37 = .ok (.iconst 0, 1) := by decide +kernel
theorem dX1_canAnswer_38 : decode cX1_canAnswer 38 = .ok (.ireturn, 1) := by decide +kernel
set_option maxRecDepth 20000 in
theorem ggX1_open_X1_dealOut : GoodIn wsX1_open wsX1_dealOut := goodIn_r _ [15, 16, 17, 18, 19, 14, 20, 21, 1, 22, 23, 24, 25, 26, 27, 28, 2, 8, 29, 30, 31, 32, 33, 34, 35, 36, 37, 38, 39, 40, 62, 63, 64, 65, 66, 67, 68, 69, 70, 71, 72, 73, 74, 75, 76, 77, 78] (by decide +kernel) (by decide +kernel)
set_option maxRecDepth 20000 in
theorem gX1_open_X1_dealOut : GoodIn wsX1_open (wsV RX1 64 RX1 yX1_dealOut wsX1_dealOut) := goodIn_app (goodIn_of _ (by decide +kernel)) ggX1_open_X1_dealOut
set_option maxRecDepth 20000 in
theorem ggX1_open_X0_copyFrom : GoodIn wsX1_open wsX0_copyFrom := goodIn_r _ [45, 46, 47, 48, 49, 50, 51, 52, 53, 54, 55, 56, 44, 57, 58, 59, 60, 61, 79, 80, 81, 82] (by decide +kernel) (by decide +kernel)
set_option maxRecDepth 20000 in
theorem gX1_open_X0_copyFrom : GoodIn wsX1_open (wsV RX1 67 RX0 yX0_copyFrom wsX0_copyFrom) := goodIn_app (goodIn_of _ (by decide +kernel)) ggX1_open_X0_copyFrom
theorem dX1_open_0 : decode cX1_open 0 = .ok (.iload_n 2, 1) := by decide +kernel
theorem dX1_open_1 : decode cX1_open 1 = .ok (.iconst (-1), 1) := by decide +kernel
theorem dX1_open_2 : decode cX1_open 2 = .ok (.if_icmp .eq 8, 3) := by decide +kernel
theorem dX1_open_5 : decode cX1_open 5 = .ok (.aload_n 0, 1) := by decide +kernel
theorem dX1_open_6 : decode cX1_open 6 = .ok (.iload_n 2, 1) := by decide +kernel
theorem dX1_open_7 : decode cX1_open 7 = .ok (.putfield 9, 3) := by decide +kernel
theorem dX1_open_10 : decode cX1_open 10 = .ok (.aload_n 0, 1) := by decide +kernel
theorem dX1_open_11 : decode cX1_open 11 = .ok (.iload_n 1, 1) := by decide +kernel
theorem dX1_open_12 : decode cX1_open 12 = .ok (.putfield 38, 3) := by decide +kernel
theorem dX1_open_15 : decode cX1_open 15 = .ok (.aload_n 0, 1) := by decide +kernel
theorem dX1_open_16 : decode cX1_open 16 = .ok (.iconst 1, 1) := by decide +kernel
theorem dX1_open_17 : decode cX1_open 17 = .ok (.putfield 41, 3) := by decide +kernel
theorem dX1_open_20 : decode cX1_open 20 = .ok (.aload_n 0, 1) := by decide +kernel
theorem dX1_open_21 : decode cX1_open 21 = .ok (.iconst 1, 1) := by decide +kernel
theorem dX1_open_22 : decode cX1_open 22 = .ok (.iload_n 1, 1) := by decide +kernel
theorem dX1_open_23 : decode cX1_open 23 = .ok (.ishl, 1) := by decide +kernel
theorem dX1_open_24 : decode cX1_open 24 = .ok (.iconst 1, 1) := by decide +kernel
theorem dX1_open_25 : decode cX1_open 25 = .ok (.isub, 1) := by decide +kernel
theorem dX1_open_26 : decode cX1_open 26 = .ok (.putfield 49, 3) := by decide +kernel
theorem dX1_open_29 : decode cX1_open 29 = .ok (.aload_n 0, 1) := by decide +kernel
theorem dX1_open_30 : decode cX1_open 30 = .ok (.iconst 0, 1) := by decide +kernel
theorem dX1_open_31 : decode cX1_open 31 = .ok (.putfield 58, 3) := by decide +kernel
theorem dX1_open_34 : decode cX1_open 34 = .ok (.aload_n 0, 1) := by decide +kernel
theorem dX1_open_35 : decode cX1_open 35 = .ok (.iconst 0, 1) := by decide +kernel
theorem dX1_open_36 : decode cX1_open 36 = .ok (.putfield 61, 3) := by decide +kernel
theorem dX1_open_39 : decode cX1_open 39 = .ok (.aload_n 0, 1) := by decide +kernel
theorem dX1_open_40 : decode cX1_open 40 = .ok (.iconst 0, 1) := by decide +kernel
theorem dX1_open_41 : decode cX1_open 41 = .ok (.putfield 55, 3) := by decide +kernel
theorem dX1_open_44 : decode cX1_open 44 = .ok (.iconst 0, 1) := by decide +kernel
theorem dX1_open_45 : decode cX1_open 45 = .ok (.istore 4, 2) := by decide +kernel
theorem dX1_open_47 : decode cX1_open 47 = .ok (.iload 4, 2) := by decide +kernel
theorem dX1_open_49 : decode cX1_open 49 = .ok (.iconst 4, 1) := by decide +kernel
theorem dX1_open_50 : decode cX1_open 50 = .ok (.if_icmp .ge 25, 3) := by decide +kernel
theorem dX1_open_53 : decode cX1_open 53 = .ok (.aload_n 0, 1) := by decide +kernel
theorem dX1_open_54 : decode cX1_open 54 = .ok (.getfield 15, 3) := by decide +kernel
theorem dX1_open_57 : decode cX1_open 57 = .ok (.iload 4, 2) := by decide +kernel
theorem dX1_open_59 : decode cX1_open 59 = .ok (.iconst 0, 1) := by decide +kernel
theorem dX1_open_60 : decode cX1_open 60 = .ok (.iastore, 1) := by decide +kernel
theorem dX1_open_61 : decode cX1_open 61 = .ok (.aload_n 0, 1) := by decide +kernel
theorem dX1_open_62 : decode cX1_open 62 = .ok (.getfield 19, 3) := by decide +kernel
theorem dX1_open_65 : decode cX1_open 65 = .ok (.iload 4, 2) := by decide +kernel
theorem dX1_open_67 : decode cX1_open 67 = .ok (.iconst 0, 1) := by decide +kernel
theorem dX1_open_68 : decode cX1_open 68 = .ok (.iastore, 1) := by decide +kernel
theorem dX1_open_69 : decode cX1_open 69 = .ok (.iinc 4 1, 3) := by decide +kernel
theorem dX1_open_72 : decode cX1_open 72 = .ok (.goto (-25), 3) := by decide +kernel
theorem dX1_open_75 : decode cX1_open 75 = .ok (.aload_n 0, 1) := by decide +kernel
theorem dX1_open_76 : decode cX1_open 76 = .ok (.invokevirtual 64, 3) := by decide +kernel
theorem dX1_open_79 : decode cX1_open 79 = .ok (.aload_n 0, 1) := by decide +kernel
theorem dX1_open_80 : decode cX1_open 80 = .ok (.getfield 34, 3) := by decide +kernel
theorem dX1_open_83 : decode cX1_open 83 = .ok (.aload_n 3, 1) := by decide +kernel
theorem dX1_open_84 : decode cX1_open 84 = .ok (.invokevirtual 67, 3) := by decide +kernel
theorem dX1_open_87 : decode cX1_open 87 = .ok (.return_, 1) := by decide +kernel
set_option maxRecDepth 20000 in
theorem ggX1_dealOut_X1_draw : GoodIn wsX1_dealOut wsX1_draw := goodIn_r _ [6, 7, 8, 9, 10, 11, 30, 31, 32, 33, 34, 35, 36, 37, 38, 39, 40, 41, 42, 43, 44, 45, 46] (by decide +kernel) (by decide +kernel)
set_option maxRecDepth 20000 in
theorem gX1_dealOut_X1_draw : GoodIn wsX1_dealOut (wsV RX1 71 RX1 yX1_draw wsX1_draw) := goodIn_app (goodIn_of _ (by decide +kernel)) ggX1_dealOut_X1_draw
set_option maxRecDepth 20000 in
theorem ggX1_dealOut_X1_handOver : GoodIn wsX1_dealOut wsX1_handOver := goodIn_r _ [15, 16, 17, 18, 19, 20, 21, 22, 23, 24, 25, 26, 27, 28, 29, 30, 31, 32, 33, 34, 35, 36, 37, 38, 39, 40, 41, 42, 43, 44, 45, 46] (by decide +kernel) (by decide +kernel)
set_option maxRecDepth 20000 in
theorem gX1_dealOut_X1_handOver : GoodIn wsX1_dealOut (wsV RX1 78 RX1 yX1_handOver wsX1_handOver) := goodIn_app (goodIn_of _ (by decide +kernel)) ggX1_dealOut_X1_handOver
theorem dX1_dealOut_0 : decode cX1_dealOut 0 = .ok (.aload_n 0, 1) := by decide +kernel
theorem dX1_dealOut_1 : decode cX1_dealOut 1 = .ok (.aload_n 0, 1) := by decide +kernel
theorem dX1_dealOut_2 : decode cX1_dealOut 2 = .ok (.bipush 8, 2) := by decide +kernel
theorem dX1_dealOut_4 : decode cX1_dealOut 4 = .ok (.invokevirtual 71, 3) := by decide +kernel
theorem dX1_dealOut_7 : decode cX1_dealOut 7 = .ok (.putfield 75, 3) := by decide +kernel
theorem dX1_dealOut_10 : decode cX1_dealOut 10 = .ok (.bipush 7, 2) := by decide +kernel
theorem dX1_dealOut_12 : decode cX1_dealOut 12 = .ok (.istore_n 1, 1) := by decide +kernel
theorem dX1_dealOut_13 : decode cX1_dealOut 13 = .ok (.iconst 0, 1) := by decide +kernel
theorem dX1_dealOut_14 : decode cX1_dealOut 14 = .ok (.istore_n 2, 1) := by decide +kernel
theorem dX1_dealOut_15 : decode cX1_dealOut 15 = .ok (.iload_n 2, 1) := by decide +kernel
theorem dX1_dealOut_16 : decode cX1_dealOut 16 = .ok (.bipush 8, 2) := by decide +kernel
theorem dX1_dealOut_18 : decode cX1_dealOut 18 = .ok (.if_icmp .ge 30, 3) := by decide +kernel
theorem dX1_dealOut_21 : decode cX1_dealOut 21 = .ok (.iload_n 2, 1) := by decide +kernel
theorem dX1_dealOut_22 : decode cX1_dealOut 22 = .ok (.aload_n 0, 1) := by decide +kernel
theorem dX1_dealOut_23 : decode cX1_dealOut 23 = .ok (.getfield 75, 3) := by decide +kernel
theorem dX1_dealOut_26 : decode cX1_dealOut 26 = .ok (.if_icmp .eq 16, 3) := by decide +kernel
theorem dX1_dealOut_29 : decode cX1_dealOut 29 = .ok (.aload_n 0, 1) := by decide +kernel
theorem dX1_dealOut_30 : decode cX1_dealOut 30 = .ok (.iload_n 2, 1) := by decide +kernel
theorem dX1_dealOut_31 : decode cX1_dealOut 31 = .ok (.aload_n 0, 1) := by decide +kernel
theorem dX1_dealOut_32 : decode cX1_dealOut 32 = .ok (.iload_n 1, 1) := by decide +kernel
theorem dX1_dealOut_33 : decode cX1_dealOut 33 = .ok (.invokevirtual 71, 3) := by decide +kernel
theorem dX1_dealOut_36 : decode cX1_dealOut 36 = .ok (.invokevirtual 78, 3) := by decide +kernel
theorem dX1_dealOut_39 : decode cX1_dealOut 39 = .ok (.iinc 1 (-1), 3) := by decide +kernel
theorem dX1_dealOut_42 : decode cX1_dealOut 42 = .ok (.iinc 2 1, 3) := by decide +kernel
theorem dX1_dealOut_45 : decode cX1_dealOut 45 = .ok (.goto (-30), 3) := by decide +kernel
theorem dX1_dealOut_48 : decode cX1_dealOut 48 = .ok (.return_, 1) := by decide +kernel
set_option maxRecDepth 20000 in
theorem ggX1_handOver_X4_sizeOfHand : GoodIn wsX1_handOver wsX4_sizeOfHand := goodIn_r _ [5, 6, 7] (by decide +kernel) (by decide +kernel)
set_option maxRecDepth 20000 in
theorem gX1_handOver_X4_sizeOfHand_n82 : GoodIn wsX1_handOver (wsX4_sizeOfHand) := ggX1_handOver_X4_sizeOfHand
set_option maxRecDepth 20000 in
theorem ggX1_handOver_J6_bitCount_0f7a4 : GoodIn wsX1_handOver wsJ6_bitCount_0f7a4 := goodIn_r _ [11, 12, 13, 14] (by decide +kernel) (by decide +kernel)
