set_option maxRecDepth 20000 in
theorem ggL_law_L_refused_r4 : GoodIn wsL_law wsL_refused_r4 := goodIn_r _ [38, 170, 171, 172, 20, 173, 108, 49, 174, 175, 176, 177, 178, 179, 180, 109, 181, 182, 183, 184, 185, 186, 187, 188] (by decide +kernel) (by decide +kernel)
set_option maxRecDepth 20000 in
theorem ggL_law_L_refused_r5 : GoodIn wsL_law wsL_refused_r5 := goodIn_r _ [189, 190, 191, 36, 192, 193, 194, 195, 196, 197, 198, 199, 200, 201, 202, 39, 40, 203, 204, 205, 63, 206, 207, 208] (by decide +kernel) (by decide +kernel)
set_option maxRecDepth 20000 in
theorem ggL_law_L_refused_r6 : GoodIn wsL_law wsL_refused_r6 := goodIn_r _ [209, 68, 69, 210, 21, 22, 211, 212, 213, 214, 70, 17, 75, 76, 77, 78, 79, 80, 81, 82, 90, 93, 94, 95] (by decide +kernel) (by decide +kernel)
set_option maxRecDepth 20000 in
theorem ggL_law_L_refused_r7 : GoodIn wsL_law wsL_refused_r7 := goodIn_r _ [96, 97, 98, 99, 100, 101, 102, 103, 104, 105, 106, 47, 107, 110, 111, 112, 113, 114, 215, 216, 217, 218, 219, 220] (by decide +kernel) (by decide +kernel)
set_option maxRecDepth 20000 in
theorem ggL_law_L_refused_r8 : GoodIn wsL_law wsL_refused_r8 := goodIn_r _ [221, 222, 223, 224, 225, 226, 227, 228, 229, 230, 231, 232, 233, 234, 235, 236, 237, 238, 239, 240, 241, 242, 243, 244] (by decide +kernel) (by decide +kernel)
set_option maxRecDepth 20000 in
theorem ggL_law_L_refused_r9 : GoodIn wsL_law wsL_refused_r9 := goodIn_r _ [245, 246, 247, 248, 249, 250, 251, 252, 253, 254, 255, 256, 257, 258, 259, 260, 261, 262, 263, 264, 265, 266, 267, 268] (by decide +kernel) (by decide +kernel)
set_option maxRecDepth 20000 in
theorem ggL_law_L_refused_r10 : GoodIn wsL_law wsL_refused_r10 := goodIn_r _ [269, 270, 271, 272, 273, 274, 275, 276, 277, 278, 279, 280, 281, 48, 282, 283, 284, 285, 286, 287, 288, 289, 290, 291] (by decide +kernel) (by decide +kernel)
set_option maxRecDepth 20000 in
theorem ggL_law_L_refused_r11 : GoodIn wsL_law wsL_refused_r11 := goodIn_r _ [292, 293, 294, 295, 296, 297, 298, 299, 300, 301, 302, 303, 304, 305, 306, 307, 308, 309, 310, 311, 312, 313, 314, 315] (by decide +kernel) (by decide +kernel)
set_option maxRecDepth 20000 in
theorem ggL_law_L_refused_r12 : GoodIn wsL_law wsL_refused_r12 := goodIn_r _ [316, 317, 318, 319, 320, 321, 322, 323, 324, 325, 326, 327, 328, 329, 330, 331, 332, 333, 334, 335, 336, 337, 338, 339] (by decide +kernel) (by decide +kernel)
set_option maxRecDepth 20000 in
theorem ggL_law_L_refused_r13 : GoodIn wsL_law wsL_refused_r13 := goodIn_r _ [340, 341, 342, 343, 344, 345, 346, 347, 26, 348, 349, 350, 25, 351, 352, 53, 353, 354, 355, 356, 357, 358, 359, 360] (by decide +kernel) (by decide +kernel)
set_option maxRecDepth 20000 in
theorem ggL_law_L_refused_r14 : GoodIn wsL_law wsL_refused_r14 := goodIn_r _ [361, 362, 363, 364, 365, 366, 367, 368, 369, 370, 54, 371, 372, 373, 374, 375, 376, 377, 378, 379, 380, 381, 382, 383] (by decide +kernel) (by decide +kernel)
set_option maxRecDepth 20000 in
theorem ggL_law_L_refused_r15 : GoodIn wsL_law wsL_refused_r15 := goodIn_r _ [384, 385, 386, 387, 388, 389, 390, 391, 392, 30, 393, 394, 395, 29, 396, 397, 58] (by decide +kernel) (by decide +kernel)
set_option maxRecDepth 20000 in
theorem ggL_law_L_refused_x4 : GoodIn wsL_law wsX40 := goodIn_r _ [461, 462, 463, 464, 465, 466, 467] (by decide +kernel) (by decide +kernel)
set_option maxRecDepth 20000 in
theorem ggL_law_L_refused_x1 : GoodIn wsL_law wsX10 := goodIn_r _ [468, 469, 470, 471, 472, 473, 474, 475, 476, 477, 478, 479, 480, 481, 482, 483, 484] (by decide +kernel) (by decide +kernel)
set_option maxRecDepth 20000 in
theorem ggL_law_L_refused_x0 : GoodIn wsL_law wsX00 := goodIn_r _ [485, 486, 487, 488] (by decide +kernel) (by decide +kernel)
set_option maxRecDepth 20000 in
theorem ggL_law_L_refused_x2 : GoodIn wsL_law wsX20 := goodIn_r _ [489, 490, 491] (by decide +kernel) (by decide +kernel)
set_option maxRecDepth 20000 in
theorem ggL_law_L_refused_x3 : GoodIn wsL_law wsX30 := goodIn_r _ [492, 493, 494, 495, 496, 497, 498] (by decide +kernel) (by decide +kernel)
set_option maxRecDepth 20000 in
theorem ggL_law_L_refused : GoodIn wsL_law wsL_refused := goodIn_ca (goodIn_ca (goodIn_ca (goodIn_cc ggL_law_L_refused_h (goodIn_app (goodIn_app (goodIn_app (goodIn_app (goodIn_app (goodIn_app ggL_law_L_refused_r1 (goodIn_app ggL_law_L_refused_r2 (goodIn_app ggL_law_L_refused_r3 (goodIn_app ggL_law_L_refused_r4 (goodIn_app ggL_law_L_refused_r5 (goodIn_app ggL_law_L_refused_r6 (goodIn_app ggL_law_L_refused_r7 (goodIn_app ggL_law_L_refused_r8 (goodIn_app ggL_law_L_refused_r9 (goodIn_app ggL_law_L_refused_r10 (goodIn_app ggL_law_L_refused_r11 (goodIn_app ggL_law_L_refused_r12 (goodIn_app ggL_law_L_refused_r13 (goodIn_app ggL_law_L_refused_r14 (ggL_law_L_refused_r15))))))))))))))) ggL_law_L_refused_x4) ggL_law_L_refused_x1) ggL_law_L_refused_x0) ggL_law_L_refused_x2) ggL_law_L_refused_x3)) (goodIn_sub (fun _ h => List.mem_append_left _ (List.mem_append_right _ h)) (by decide +kernel))) (goodIn_sub (fun _ h => List.mem_append_right _ h) (by decide +kernel))) (goodIn_sub (fun _ h => List.mem_append_left _ (List.mem_append_left _ (List.mem_append_right _ h))) (by decide +kernel))
set_option maxRecDepth 20000 in
theorem gL_law_L_refused : GoodIn wsL_law (va_wsS RL 153 yL_refused wsL_refused) := goodIn_app (goodIn_of _ (by decide +kernel)) ggL_law_L_refused
set_option maxRecDepth 20000 in
theorem ggL_law_L_areDeals_h : GoodIn wsL_law [.code yL_areDeals cL_areDeals 13 (some .boolean)] := goodIn_r _ [400] (by decide +kernel) (by decide +kernel)
set_option maxRecDepth 20000 in
theorem ggL_law_L_areDeals_r1 : GoodIn wsL_law wsL_areDeals_r1 := goodIn_r _ [123, 124, 61, 125, 126, 5, 127, 128, 129, 2, 130, 131, 132, 16, 133, 134, 135, 15, 136, 83, 84, 92, 91, 86] (by decide +kernel) (by decide +kernel)
