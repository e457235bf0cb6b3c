set_option maxRecDepth 20000 in
theorem ggL_isProved_L_dealsHeld_r2 : GoodIn wsL_isProved wsL_dealsHeld_r2 := goodIn_r _ [131, 132, 133, 134, 135, 136, 137, 138, 78, 139, 140, 141, 142] (by decide +kernel) (by decide +kernel)
set_option maxRecDepth 20000 in
theorem ggL_isProved_L_dealsHeld_x4 : GoodIn wsL_isProved wsX40 := goodIn_r _ [224, 225, 226, 227, 228, 229, 230] (by decide +kernel) (by decide +kernel)
set_option maxRecDepth 20000 in
theorem ggL_isProved_L_dealsHeld_x1 : GoodIn wsL_isProved wsX10 := goodIn_r _ [231, 232, 233, 234, 235, 236, 237, 238, 239, 240, 241, 242, 243, 244, 245, 246, 247] (by decide +kernel) (by decide +kernel)
set_option maxRecDepth 20000 in
theorem ggL_isProved_L_dealsHeld_x0 : GoodIn wsL_isProved wsX00 := goodIn_r _ [248, 249, 250, 251] (by decide +kernel) (by decide +kernel)
set_option maxRecDepth 20000 in
theorem ggL_isProved_L_dealsHeld : GoodIn wsL_isProved wsL_dealsHeld := goodIn_ca (goodIn_cc ggL_isProved_L_dealsHeld_h (goodIn_app (goodIn_app (goodIn_app (goodIn_app ggL_isProved_L_dealsHeld_r1 (ggL_isProved_L_dealsHeld_r2)) ggL_isProved_L_dealsHeld_x4) ggL_isProved_L_dealsHeld_x1) ggL_isProved_L_dealsHeld_x0)) (goodIn_sub (fun _ h => List.mem_cons_of_mem _ (List.mem_append_left _ (List.mem_append_right _ h))) (by decide +kernel))
set_option maxRecDepth 20000 in
theorem gL_isProved_L_dealsHeld : GoodIn wsL_isProved (va_wsS RL 113 yL_dealsHeld wsL_dealsHeld) := goodIn_app (goodIn_of _ (by decide +kernel)) ggL_isProved_L_dealsHeld
set_option maxRecDepth 20000 in
theorem ggL_isProved_L_leftByProof_h : GoodIn wsL_isProved [.codeWith yL_leftByProof cL_leftByProof 6 (some .double) [(0, 7, 10, 25)]] := goodIn_r _ [145] (by decide +kernel) (by decide +kernel)
set_option maxRecDepth 20000 in
theorem ggL_isProved_L_leftByProof_r1 : GoodIn wsL_isProved wsL_leftByProof_r1 := goodIn_r _ [46, 146, 147, 148, 149, 16, 150, 52, 53, 20, 54, 55, 56, 24, 57, 26, 124, 125, 126, 127, 128, 129, 76, 130] (by decide +kernel) (by decide +kernel)
set_option maxRecDepth 20000 in
theorem ggL_isProved_L_leftByProof_r2 : GoodIn wsL_isProved wsL_leftByProof_r2 := goodIn_r _ [131, 132, 133, 134, 135, 136, 137, 138, 78, 139, 140, 141, 142, 151, 152, 153] (by decide +kernel) (by decide +kernel)
set_option maxRecDepth 20000 in
theorem ggL_isProved_L_leftByProof_x4 : GoodIn wsL_isProved wsX40 := goodIn_r _ [224, 225, 226, 227, 228, 229, 230] (by decide +kernel) (by decide +kernel)
set_option maxRecDepth 20000 in
theorem ggL_isProved_L_leftByProof_x1 : GoodIn wsL_isProved wsX10 := goodIn_r _ [231, 232, 233, 234, 235, 236, 237, 238, 239, 240, 241, 242, 243, 244, 245, 246, 247] (by decide +kernel) (by decide +kernel)
set_option maxRecDepth 20000 in
theorem ggL_isProved_L_leftByProof_x0 : GoodIn wsL_isProved wsX00 := goodIn_r _ [248, 249, 250, 251] (by decide +kernel) (by decide +kernel)
set_option maxRecDepth 20000 in
theorem ggL_isProved_L_leftByProof : GoodIn wsL_isProved wsL_leftByProof := goodIn_ca (goodIn_cc ggL_isProved_L_leftByProof_h (goodIn_app (goodIn_app (goodIn_app (goodIn_app ggL_isProved_L_leftByProof_r1 (ggL_isProved_L_leftByProof_r2)) ggL_isProved_L_leftByProof_x4) ggL_isProved_L_leftByProof_x1) ggL_isProved_L_leftByProof_x0)) (goodIn_sub (fun _ h => List.mem_cons_of_mem _ (List.mem_append_left _ (List.mem_append_right _ h))) (by decide +kernel))
set_option maxRecDepth 20000 in
theorem gL_isProved_L_leftByProof : GoodIn wsL_isProved (va_wsS RL 142 yL_leftByProof wsL_leftByProof) := goodIn_app (goodIn_of _ (by decide +kernel)) ggL_isProved_L_leftByProof
set_option maxRecDepth 20000 in
theorem ggL_isProved_L_value : GoodIn wsL_isProved wsL_value := goodIn_ca (goodIn_r _ [10, 11, 12, 13, 14, 15, 16, 17, 18, 19, 20, 21, 22, 23, 24, 25, 26, 27, 28, 29, 30, 31, 32, 33, 34, 35, 36, 37, 38, 39, 40, 41, 42, 224, 225, 226, 227, 228, 229, 230, 231, 232, 233, 234, 235, 236, 237, 238, 239, 240, 241, 242, 243, 244, 245, 246, 247] (by decide +kernel) (by decide +kernel)) (goodIn_sub (fun _ h => List.mem_cons_of_mem _ (List.mem_append_left _ (List.mem_append_left _ (List.mem_append_right _ h)))) (by decide +kernel))
set_option maxRecDepth 20000 in
theorem gL_isProved_L_value : GoodIn wsL_isProved (va_wsS RL 85 yL_value wsL_value) := goodIn_app (goodIn_of _ (by decide +kernel)) ggL_isProved_L_value
set_option maxRecDepth 20000 in
theorem ggL_isProved_L_prove_h : GoodIn wsL_isProved [.codeWith yL_prove cL_prove 5 (some .int) [(0, 7, 10, 25), (0, 7, 15, 18)]] := goodIn_r _ [156] (by decide +kernel) (by decide +kernel)
set_option maxRecDepth 20000 in
theorem ggL_isProved_L_prove_r1 : GoodIn wsL_isProved wsL_prove_r1 := goodIn_r _ [46, 157, 47, 1, 158, 159, 160, 16, 161, 52, 53, 162, 163, 20, 54, 55, 56, 24, 57, 26, 124, 125, 126, 164] (by decide +kernel) (by decide +kernel)
set_option maxRecDepth 20000 in
theorem ggL_isProved_L_prove_r2 : GoodIn wsL_isProved wsL_prove_r2 := goodIn_r _ [165, 166, 167, 27, 34, 168, 169, 170, 171, 172, 173, 174, 175, 176, 177, 178, 179, 180, 181, 182, 33, 35, 30, 31] (by decide +kernel) (by decide +kernel)
set_option maxRecDepth 20000 in
theorem ggL_isProved_L_prove_r3 : GoodIn wsL_isProved wsL_prove_r3 := goodIn_r _ [32, 183, 99, 29, 62, 28, 72, 111, 112, 63, 184, 185, 186, 140, 141, 142, 187, 188, 189, 190, 191, 192, 193, 76] (by decide +kernel) (by decide +kernel)
set_option maxRecDepth 20000 in
theorem ggL_isProved_L_prove_r4 : GoodIn wsL_isProved wsL_prove_r4 := goodIn_r _ [194, 131, 195, 78, 79, 87, 135, 136, 137, 138, 139, 196, 197, 198, 199, 95, 96, 97, 98, 200, 201, 202, 203, 132] (by decide +kernel) (by decide +kernel)
set_option maxRecDepth 20000 in
theorem ggL_isProved_L_prove_r5 : GoodIn wsL_isProved wsL_prove_r5 := goodIn_r _ [133, 134, 204, 205, 206, 207, 208, 209, 210, 211, 212] (by decide +kernel) (by decide +kernel)
set_option maxRecDepth 20000 in
theorem ggL_isProved_L_prove_x4 : GoodIn wsL_isProved wsX40 := goodIn_r _ [224, 225, 226, 227, 228, 229, 230] (by decide +kernel) (by decide +kernel)
set_option maxRecDepth 20000 in
theorem ggL_isProved_L_prove_x1 : GoodIn wsL_isProved wsX10 := goodIn_r _ [231, 232, 233, 234, 235, 236, 237, 238, 239, 240, 241, 242, 243, 244, 245, 246, 247] (by decide +kernel) (by decide +kernel)
set_option maxRecDepth 20000 in
theorem ggL_isProved_L_prove_x0 : GoodIn wsL_isProved wsX00 := goodIn_r _ [248, 249, 250, 251] (by decide +kernel) (by decide +kernel)
set_option maxRecDepth 20000 in
theorem ggL_isProved_L_prove : GoodIn wsL_isProved wsL_prove := goodIn_ca (goodIn_ca (goodIn_cc ggL_isProved_L_prove_h (goodIn_app (goodIn_app (goodIn_app (goodIn_app ggL_isProved_L_prove_r1 (goodIn_app ggL_isProved_L_prove_r2 (goodIn_app ggL_isProved_L_prove_r3 (goodIn_app ggL_isProved_L_prove_r4 (ggL_isProved_L_prove_r5))))) ggL_isProved_L_prove_x4) ggL_isProved_L_prove_x1) ggL_isProved_L_prove_x0)) (goodIn_sub (fun _ h => List.mem_cons_of_mem _ (List.mem_append_left _ (List.mem_append_right _ h))) (by decide +kernel))) (goodIn_sub (fun _ h => List.mem_cons_of_mem _ (List.mem_append_right _ h)) (by decide +kernel))
set_option maxRecDepth 20000 in
theorem gL_isProved_L_prove : GoodIn wsL_isProved (va_wsS RL 105 yL_prove wsL_prove) := goodIn_app (goodIn_of _ (by decide +kernel)) ggL_isProved_L_prove
set_option maxRecDepth 20000 in
theorem ggL_isProved_L_guest_h : GoodIn wsL_isProved [.codeWith yL_guest cL_guest 5 (some .int) [(0, 7, 10, 25), (0, 7, 15, 15)]] := goodIn_r _ [45] (by decide +kernel) (by decide +kernel)
set_option maxRecDepth 20000 in
theorem ggL_isProved_L_guest_r1 : GoodIn wsL_isProved wsL_guest_r1 := goodIn_r _ [46, 11, 47, 12, 48, 49, 50, 16, 51, 52, 53, 18, 19, 20, 54, 55, 56, 24, 57, 26, 58, 59, 60, 61] (by decide +kernel) (by decide +kernel)
