set_option maxRecDepth 20000 in
theorem ggL_refused_L_guest_x0 : GoodIn wsL_refused wsX00 := goodIn_r _ [378, 379, 380, 381] (by decide +kernel) (by decide +kernel)
set_option maxRecDepth 20000 in
theorem ggL_refused_L_guest : GoodIn wsL_refused wsL_guest := goodIn_ca (goodIn_ca (goodIn_cc ggL_refused_L_guest_h (goodIn_app (goodIn_app (goodIn_app (goodIn_app ggL_refused_L_guest_r1 (goodIn_app ggL_refused_L_guest_r2 (ggL_refused_L_guest_r3))) ggL_refused_L_guest_x4) ggL_refused_L_guest_x1) ggL_refused_L_guest_x0)) (goodIn_sub (fun _ h => List.mem_cons_of_mem _ (List.mem_append_left _ (List.mem_append_right _ h))) (by decide +kernel))) (goodIn_sub (fun _ h => List.mem_cons_of_mem _ (List.mem_append_left _ (List.mem_append_left _ (List.mem_append_right _ h)))) (by decide +kernel))
set_option maxRecDepth 20000 in
theorem gL_refused_L_guest : GoodIn wsL_refused (va_wsS RL 90 yL_guest wsL_guest) := goodIn_app (goodIn_of _ (by decide +kernel)) ggL_refused_L_guest
set_option maxRecDepth 20000 in
theorem ggL_refused_L_question : GoodIn wsL_refused wsL_question := goodIn_ca (goodIn_ca (goodIn_r _ [103, 48, 14, 3, 1, 104, 105, 106, 18, 107, 53, 54, 20, 21, 22, 108, 109, 110, 26, 111, 73, 112, 113, 354, 355, 356, 357, 358, 359, 360, 361, 362, 363, 364, 365, 366, 367, 368, 369, 370, 371, 372, 373, 374, 375, 376, 377] (by decide +kernel) (by decide +kernel)) (goodIn_sub (fun _ h => List.mem_cons_of_mem _ (List.mem_append_left _ (List.mem_append_right _ h))) (by decide +kernel))) (goodIn_sub (fun _ h => List.mem_cons_of_mem _ (List.mem_append_left _ (List.mem_append_left _ (List.mem_append_right _ h)))) (by decide +kernel))
set_option maxRecDepth 20000 in
theorem gL_refused_L_question : GoodIn wsL_refused (va_wsS RL 93 yL_question wsL_question) := goodIn_app (goodIn_of _ (by decide +kernel)) ggL_refused_L_question
set_option maxRecDepth 20000 in
theorem ggL_refused_L_dealsWith : GoodIn wsL_refused wsL_dealsWith := goodIn_ca (goodIn_r _ [274, 48, 3, 275, 276, 277, 18, 278, 53, 54, 22, 238, 239, 240, 279, 280, 281, 77, 282, 156, 175, 176, 177, 158, 159, 160, 161, 79, 162, 145, 146, 147, 354, 355, 356, 357, 358, 359, 360, 361, 362, 363, 364, 365, 366, 367, 368, 369, 370, 371, 372, 373, 374, 375, 376, 377, 378, 379, 380, 381] (by decide +kernel) (by decide +kernel)) (goodIn_sub (fun _ h => List.mem_cons_of_mem _ (List.mem_append_left _ (List.mem_append_right _ h))) (by decide +kernel))
set_option maxRecDepth 20000 in
theorem gL_refused_L_dealsWith : GoodIn wsL_refused (va_wsS RL 111 yL_dealsWith wsL_dealsWith) := goodIn_app (goodIn_of _ (by decide +kernel)) ggL_refused_L_dealsWith
set_option maxRecDepth 20000 in
theorem ggL_refused_L_dealsHeld_h : GoodIn wsL_refused [.codeWith yL_dealsHeld cL_dealsHeld 5 (some .int) [(0, 7, 10, 25)]] := goodIn_r _ [285] (by decide +kernel) (by decide +kernel)
set_option maxRecDepth 20000 in
theorem ggL_refused_L_dealsHeld_r1 : GoodIn wsL_refused wsL_dealsHeld_r1 := goodIn_r _ [48, 3, 286, 287, 288, 18, 289, 53, 54, 22, 55, 56, 57, 26, 58, 28, 238, 239, 240, 279, 280, 281, 77, 282] (by decide +kernel) (by decide +kernel)
set_option maxRecDepth 20000 in
theorem ggL_refused_L_dealsHeld_r2 : GoodIn wsL_refused wsL_dealsHeld_r2 := goodIn_r _ [156, 175, 176, 177, 158, 159, 160, 161, 79, 162, 145, 146, 147] (by decide +kernel) (by decide +kernel)
set_option maxRecDepth 20000 in
theorem ggL_refused_L_dealsHeld_x4 : GoodIn wsL_refused wsX40 := goodIn_r _ [354, 355, 356, 357, 358, 359, 360] (by decide +kernel) (by decide +kernel)
set_option maxRecDepth 20000 in
theorem ggL_refused_L_dealsHeld_x1 : GoodIn wsL_refused wsX10 := goodIn_r _ [361, 362, 363, 364, 365, 366, 367, 368, 369, 370, 371, 372, 373, 374, 375, 376, 377] (by decide +kernel) (by decide +kernel)
set_option maxRecDepth 20000 in
theorem ggL_refused_L_dealsHeld_x0 : GoodIn wsL_refused wsX00 := goodIn_r _ [378, 379, 380, 381] (by decide +kernel) (by decide +kernel)
set_option maxRecDepth 20000 in
theorem ggL_refused_L_dealsHeld : GoodIn wsL_refused wsL_dealsHeld := goodIn_ca (goodIn_cc ggL_refused_L_dealsHeld_h (goodIn_app (goodIn_app (goodIn_app (goodIn_app ggL_refused_L_dealsHeld_r1 (ggL_refused_L_dealsHeld_r2)) ggL_refused_L_dealsHeld_x4) ggL_refused_L_dealsHeld_x1) ggL_refused_L_dealsHeld_x0)) (goodIn_sub (fun _ h => List.mem_cons_of_mem _ (List.mem_append_left _ (List.mem_append_right _ h))) (by decide +kernel))
set_option maxRecDepth 20000 in
theorem gL_refused_L_dealsHeld : GoodIn wsL_refused (va_wsS RL 113 yL_dealsHeld wsL_dealsHeld) := goodIn_app (goodIn_of _ (by decide +kernel)) ggL_refused_L_dealsHeld
set_option maxRecDepth 20000 in
theorem ggL_refused_L_dealsIf_h : GoodIn wsL_refused [.codeWith yL_dealsIf cL_dealsIf 6 (some .int) [(0, 9, 12, 25), (0, 9, 17, 15)]] := goodIn_r _ [292] (by decide +kernel) (by decide +kernel)
set_option maxRecDepth 20000 in
theorem ggL_refused_L_dealsIf_r1 : GoodIn wsL_refused wsL_dealsIf_r1 := goodIn_r _ [48, 14, 3, 1, 293, 294, 295, 18, 296, 53, 54, 20, 21, 22, 297, 55, 56, 57, 26, 58, 28, 206, 207, 208] (by decide +kernel) (by decide +kernel)
set_option maxRecDepth 20000 in
theorem ggL_refused_L_dealsIf_r2 : GoodIn wsL_refused wsL_dealsIf_r2 := goodIn_r _ [298, 299, 300, 301, 302, 303, 304, 305, 94, 77, 95, 159, 160, 161, 79, 156, 162, 145, 146, 147, 306, 82, 83, 307] (by decide +kernel) (by decide +kernel)
set_option maxRecDepth 20000 in
theorem ggL_refused_L_dealsIf_r3 : GoodIn wsL_refused wsL_dealsIf_r3 := goodIn_r _ [308, 309, 310, 311, 39, 40, 41, 42, 43, 44] (by decide +kernel) (by decide +kernel)
set_option maxRecDepth 20000 in
theorem ggL_refused_L_dealsIf_x4 : GoodIn wsL_refused wsX40 := goodIn_r _ [354, 355, 356, 357, 358, 359, 360] (by decide +kernel) (by decide +kernel)
set_option maxRecDepth 20000 in
theorem ggL_refused_L_dealsIf_x1 : GoodIn wsL_refused wsX10 := goodIn_r _ [361, 362, 363, 364, 365, 366, 367, 368, 369, 370, 371, 372, 373, 374, 375, 376, 377] (by decide +kernel) (by decide +kernel)
set_option maxRecDepth 20000 in
theorem ggL_refused_L_dealsIf_x2 : GoodIn wsL_refused wsX20 := goodIn_r _ [382, 383, 384] (by decide +kernel) (by decide +kernel)
set_option maxRecDepth 20000 in
theorem ggL_refused_L_dealsIf_x0 : GoodIn wsL_refused wsX00 := goodIn_r _ [378, 379, 380, 381] (by decide +kernel) (by decide +kernel)
set_option maxRecDepth 20000 in
theorem ggL_refused_L_dealsIf : GoodIn wsL_refused wsL_dealsIf := goodIn_ca (goodIn_ca (goodIn_cc ggL_refused_L_dealsIf_h (goodIn_app (goodIn_app (goodIn_app (goodIn_app (goodIn_app ggL_refused_L_dealsIf_r1 (goodIn_app ggL_refused_L_dealsIf_r2 (ggL_refused_L_dealsIf_r3))) ggL_refused_L_dealsIf_x4) ggL_refused_L_dealsIf_x1) ggL_refused_L_dealsIf_x2) ggL_refused_L_dealsIf_x0)) (goodIn_sub (fun _ h => List.mem_cons_of_mem _ (List.mem_append_left _ (List.mem_append_right _ h))) (by decide +kernel))) (goodIn_sub (fun _ h => List.mem_cons_of_mem _ (List.mem_append_left _ (List.mem_append_left _ (List.mem_append_right _ h)))) (by decide +kernel))
set_option maxRecDepth 20000 in
theorem gL_refused_L_dealsIf : GoodIn wsL_refused (va_wsS RL 115 yL_dealsIf wsL_dealsIf) := goodIn_app (goodIn_of _ (by decide +kernel)) ggL_refused_L_dealsIf
set_option maxRecDepth 20000 in
theorem ggL_refused_L_worst_h : GoodIn wsL_refused [.codeWith yL_worst cL_worst 5 (some .int) [(0, 7, 10, 25), (0, 7, 15, 15)]] := goodIn_r _ [314] (by decide +kernel) (by decide +kernel)
set_option maxRecDepth 20000 in
theorem ggL_refused_L_worst_r1 : GoodIn wsL_refused wsL_worst_r1 := goodIn_r _ [48, 14, 3, 1, 315, 316, 317, 18, 318, 53, 54, 20, 21, 22, 297, 55, 56, 57, 26, 58, 28, 206, 207, 208] (by decide +kernel) (by decide +kernel)
set_option maxRecDepth 20000 in
theorem ggL_refused_L_worst_r2 : GoodIn wsL_refused wsL_worst_r2 := goodIn_r _ [298, 299, 300, 301, 302, 303, 304, 305, 94, 77, 95, 159, 160, 161, 79, 156, 162, 145, 146, 147, 306, 82, 83, 319] (by decide +kernel) (by decide +kernel)
