set_option maxRecDepth 20000 in
theorem ggL_areDeals_X4_deals : GoodIn wsL_areDeals wsX4_deals := goodIn_r _ [40, 14, 151, 152, 153, 154, 155, 156, 157, 158, 159, 160, 161, 162, 163, 164, 165, 166, 167, 168, 169, 170, 171, 172, 173, 174, 175, 176, 177, 178] (by decide +kernel) (by decide +kernel)
set_option maxRecDepth 20000 in
theorem gL_areDeals_X4_deals : GoodIn wsL_areDeals (wsV RL 124 RX4 yX4_deals wsX4_deals) := goodIn_app (goodIn_of _ (by decide +kernel)) ggL_areDeals_X4_deals
set_option maxRecDepth 20000 in
theorem ggL_areDeals_L_dealsWith : GoodIn wsL_areDeals wsL_dealsWith := goodIn_ca (goodIn_r _ [43, 44, 45, 46, 47, 48, 10, 49, 50, 51, 14, 52, 53, 54, 55, 56, 57, 58, 59, 60, 61, 62, 63, 64, 65, 66, 67, 68, 69, 70, 71, 72, 151, 152, 153, 154, 155, 156, 157, 158, 159, 160, 161, 162, 163, 164, 165, 166, 167, 168, 169, 170, 171, 172, 173, 174, 175, 176, 177, 178] (by decide +kernel) (by decide +kernel)) (goodIn_sub (fun _ h => List.mem_cons_of_mem _ (List.mem_append_right _ h)) (by decide +kernel))
set_option maxRecDepth 20000 in
theorem gL_areDeals_L_dealsWith : GoodIn wsL_areDeals (va_wsS RL 111 yL_dealsWith wsL_dealsWith) := goodIn_app (goodIn_of _ (by decide +kernel)) ggL_areDeals_L_dealsWith
set_option maxRecDepth 20000 in
theorem ggL_areDeals_L_dealsHeld_h : GoodIn wsL_areDeals [.codeWith yL_dealsHeld cL_dealsHeld 5 (some .int) [(0, 7, 10, 25)]] := goodIn_r _ [75] (by decide +kernel) (by decide +kernel)
set_option maxRecDepth 20000 in
theorem ggL_areDeals_L_dealsHeld_r1 : GoodIn wsL_areDeals wsL_dealsHeld_r1 := goodIn_r _ [44, 45, 76, 77, 78, 10, 79, 50, 51, 14, 80, 81, 82, 18, 83, 20, 52, 53, 54, 55, 56, 57, 58, 59] (by decide +kernel) (by decide +kernel)
set_option maxRecDepth 20000 in
theorem ggL_areDeals_L_dealsHeld_r2 : GoodIn wsL_areDeals wsL_dealsHeld_r2 := goodIn_r _ [60, 61, 62, 63, 64, 65, 66, 67, 68, 69, 70, 71, 72] (by decide +kernel) (by decide +kernel)
set_option maxRecDepth 20000 in
theorem ggL_areDeals_L_dealsHeld_x4 : GoodIn wsL_areDeals wsX40 := goodIn_r _ [151, 152, 153, 154, 155, 156, 157] (by decide +kernel) (by decide +kernel)
set_option maxRecDepth 20000 in
theorem ggL_areDeals_L_dealsHeld_x1 : GoodIn wsL_areDeals wsX10 := goodIn_r _ [158, 159, 160, 161, 162, 163, 164, 165, 166, 167, 168, 169, 170, 171, 172, 173, 174] (by decide +kernel) (by decide +kernel)
set_option maxRecDepth 20000 in
theorem ggL_areDeals_L_dealsHeld_x0 : GoodIn wsL_areDeals wsX00 := goodIn_r _ [175, 176, 177, 178] (by decide +kernel) (by decide +kernel)
set_option maxRecDepth 20000 in
theorem ggL_areDeals_L_dealsHeld : GoodIn wsL_areDeals wsL_dealsHeld := goodIn_ca (goodIn_cc ggL_areDeals_L_dealsHeld_h (goodIn_app (goodIn_app (goodIn_app (goodIn_app ggL_areDeals_L_dealsHeld_r1 (ggL_areDeals_L_dealsHeld_r2)) ggL_areDeals_L_dealsHeld_x4) ggL_areDeals_L_dealsHeld_x1) ggL_areDeals_L_dealsHeld_x0)) (goodIn_sub (fun _ h => List.mem_cons_of_mem _ (List.mem_append_right _ h)) (by decide +kernel))
set_option maxRecDepth 20000 in
theorem gL_areDeals_L_dealsHeld : GoodIn wsL_areDeals (va_wsS RL 113 yL_dealsHeld wsL_dealsHeld) := goodIn_app (goodIn_of _ (by decide +kernel)) ggL_areDeals_L_dealsHeld
set_option maxRecDepth 20000 in
theorem ggL_areDeals_L_chance_h : GoodIn wsL_areDeals [.codeWith yL_chance cL_chance 5 (some .double) [(0, 6, 9, 25)]] := goodIn_r _ [86] (by decide +kernel) (by decide +kernel)
set_option maxRecDepth 20000 in
theorem ggL_areDeals_L_chance_r1 : GoodIn wsL_areDeals wsL_chance_r1 := goodIn_r _ [44, 87, 88, 89, 90, 10, 91, 50, 51, 14, 52, 53, 54, 55, 56, 57, 58, 59, 60, 61, 62, 63, 64, 65] (by decide +kernel) (by decide +kernel)
set_option maxRecDepth 20000 in
theorem ggL_areDeals_L_chance_r2 : GoodIn wsL_areDeals wsL_chance_r2 := goodIn_r _ [66, 67, 68, 69, 70, 71, 72, 92, 93, 94] (by decide +kernel) (by decide +kernel)
set_option maxRecDepth 20000 in
theorem ggL_areDeals_L_chance_x4 : GoodIn wsL_areDeals wsX40 := goodIn_r _ [151, 152, 153, 154, 155, 156, 157] (by decide +kernel) (by decide +kernel)
set_option maxRecDepth 20000 in
theorem ggL_areDeals_L_chance_x1 : GoodIn wsL_areDeals wsX10 := goodIn_r _ [158, 159, 160, 161, 162, 163, 164, 165, 166, 167, 168, 169, 170, 171, 172, 173, 174] (by decide +kernel) (by decide +kernel)
set_option maxRecDepth 20000 in
theorem ggL_areDeals_L_chance_x0 : GoodIn wsL_areDeals wsX00 := goodIn_r _ [175, 176, 177, 178] (by decide +kernel) (by decide +kernel)
set_option maxRecDepth 20000 in
theorem ggL_areDeals_L_chance : GoodIn wsL_areDeals wsL_chance := goodIn_ca (goodIn_cc ggL_areDeals_L_chance_h (goodIn_app (goodIn_app (goodIn_app (goodIn_app ggL_areDeals_L_chance_r1 (ggL_areDeals_L_chance_r2)) ggL_areDeals_L_chance_x4) ggL_areDeals_L_chance_x1) ggL_areDeals_L_chance_x0)) (goodIn_sub (fun _ h => List.mem_cons_of_mem _ (List.mem_append_right _ h)) (by decide +kernel))
set_option maxRecDepth 20000 in
theorem gL_areDeals_L_chance : GoodIn wsL_areDeals (va_wsS RL 127 yL_chance wsL_chance) := goodIn_app (goodIn_of _ (by decide +kernel)) ggL_areDeals_L_chance
set_option maxRecDepth 20000 in
theorem ggL_areDeals_X4_culprits : GoodIn wsL_areDeals wsX4_culprits := goodIn_r _ [98, 14, 99, 100, 101, 58, 102, 103, 104, 105, 106, 151, 152, 153, 154, 155, 156, 157, 158, 159, 160, 161, 162, 163, 164, 165, 166, 167, 168, 169, 170, 171, 172, 173, 174, 175, 176, 177, 178] (by decide +kernel) (by decide +kernel)
set_option maxRecDepth 20000 in
theorem gL_areDeals_X4_culprits : GoodIn wsL_areDeals (wsV RL 130 RX4 yX4_culprits wsX4_culprits) := goodIn_app (goodIn_of _ (by decide +kernel)) ggL_areDeals_X4_culprits
set_option maxRecDepth 20000 in
theorem ggL_areDeals_X4_likeliest : GoodIn wsL_areDeals wsX4_likeliest := goodIn_r _ [110, 14, 55, 56, 57, 58, 59, 60, 61, 62, 63, 64, 65, 66, 67, 68, 69, 70, 71, 72, 151, 152, 153, 154, 155, 156, 157, 158, 159, 160, 161, 162, 163, 164, 165, 166, 167, 168, 169, 170, 171, 172, 173, 174, 175, 176, 177, 178] (by decide +kernel) (by decide +kernel)
set_option maxRecDepth 20000 in
theorem gL_areDeals_X4_likeliest : GoodIn wsL_areDeals (wsV RL 133 RX4 yX4_likeliest wsX4_likeliest) := goodIn_app (goodIn_of _ (by decide +kernel)) ggL_areDeals_X4_likeliest
set_option maxRecDepth 20000 in
theorem ggL_areDeals_L_guest_h : GoodIn wsL_areDeals [.codeWith yL_guest cL_guest 5 (some .int) [(0, 7, 10, 25), (0, 7, 15, 15)]] := goodIn_r _ [113] (by decide +kernel) (by decide +kernel)
set_option maxRecDepth 20000 in
theorem ggL_areDeals_L_guest_r1 : GoodIn wsL_areDeals wsL_guest_r1 := goodIn_r _ [44, 5, 45, 6, 114, 115, 116, 10, 117, 50, 51, 12, 13, 14, 80, 81, 82, 18, 83, 20, 118, 119, 120, 121] (by decide +kernel) (by decide +kernel)
