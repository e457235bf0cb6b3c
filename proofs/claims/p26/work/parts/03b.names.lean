/-- words of one list among another's, by their places -/
theorem inPlaces {big ws : List Cond} (ps : List Nat) (hp : ws = ps.filterMap (fun i => big[i]?)) : ∀ w ∈ ws, w ∈ big := by
  intro w hw
  rw [hp] at hw
  obtain ⟨i, -, hi⟩ := List.mem_filterMap.mp hw
  exact List.mem_of_getElem? hi
set_option maxRecDepth 100000 in
theorem wsL_law0_r1_in : ∀ w ∈ wsL_law0_r1, w ∈ lw_tbl := inPlaces [27, 28, 13, 335, 474, 279, 406, 29, 30, 31, 32, 33, 34, 35, 36, 14, 163, 164, 121, 42, 15, 166, 167, 123] (by decide +kernel)
set_option maxRecDepth 100000 in
theorem wsL_law0_r2_in : ∀ w ∈ wsL_law0_r2, w ∈ lw_tbl := inPlaces [124, 16, 168, 139, 140, 17, 169, 38, 39, 40, 65, 63, 75, 77, 80, 81, 82, 41, 83, 44, 45, 46, 64, 48] (by decide +kernel)
set_option maxRecDepth 100000 in
theorem wsL_law0_r3_in : ∀ w ∈ wsL_law0_r3, w ∈ lw_tbl := inPlaces [47, 52, 126, 127, 128, 130, 131, 142, 143, 144, 145, 280, 281, 12, 282, 283, 284, 285, 286, 287, 288, 21, 165, 304] (by decide +kernel)
set_option maxRecDepth 100000 in
theorem wsL_law0_r4_in : ∀ w ∈ wsL_law0_r4, w ∈ lw_tbl := inPlaces [306, 1, 307, 308, 310, 2, 311, 312, 313, 314, 315, 66, 68, 69, 70, 71, 72, 73, 74, 76, 78, 317, 318, 319] (by decide +kernel)
set_option maxRecDepth 100000 in
theorem wsL_law0_r5_in : ∀ w ∈ wsL_law0_r5, w ∈ lw_tbl := inPlaces [320, 22, 321, 322, 324, 323, 23, 325, 326, 327, 328, 334, 50, 53, 329, 331, 3, 332, 333, 419, 420, 421, 336, 337] (by decide +kernel)
set_option maxRecDepth 100000 in
theorem wsL_law0_r6_in : ∀ w ∈ wsL_law0_r6, w ∈ lw_tbl := inPlaces [338, 339, 340, 193, 194, 195, 196, 197, 198, 199, 200, 201, 24, 269, 270, 271, 272, 273, 274, 25, 275, 276, 277, 278] (by decide +kernel)
set_option maxRecDepth 100000 in
theorem wsL_law0_r7_in : ∀ w ∈ wsL_law0_r7, w ∈ lw_tbl := inPlaces [341, 342, 343, 344, 345, 346, 347, 348, 353, 26, 349, 350, 351, 352, 369, 370, 371, 372, 374, 375, 376, 378, 380, 382] (by decide +kernel)
set_option maxRecDepth 100000 in
theorem wsL_law0_r8_in : ∀ w ∈ wsL_law0_r8, w ∈ lw_tbl := inPlaces [4, 383, 384, 385, 386, 387, 388, 389, 390, 391, 392, 393, 394, 395, 396, 397, 398, 399, 400, 401, 402, 404, 5, 405] (by decide +kernel)
set_option maxRecDepth 100000 in
theorem wsL_law0_r9_in : ∀ w ∈ wsL_law0_r9, w ∈ lw_tbl := inPlaces [407, 408, 409, 410, 411, 412, 413, 415, 416, 417, 418, 422, 423, 424, 425, 426, 427, 428, 430, 433, 435, 6, 436, 437] (by decide +kernel)
set_option maxRecDepth 100000 in
theorem wsL_law0_r10_in : ∀ w ∈ wsL_law0_r10, w ∈ lw_tbl := inPlaces [438, 439, 440, 441, 442, 443, 444, 446, 7, 447, 448, 450, 451, 452, 453, 454, 455, 456, 457, 459, 8, 460, 461, 463] (by decide +kernel)
set_option maxRecDepth 100000 in
theorem wsL_law0_r11_in : ∀ w ∈ wsL_law0_r11, w ∈ lw_tbl := inPlaces [9, 464, 465, 466, 467, 468, 469, 471, 10, 472, 473, 475, 476, 477, 478, 479, 480, 481, 482, 483, 484, 486, 487, 488] (by decide +kernel)
set_option maxRecDepth 100000 in
theorem wsL_law0_r12_in : ∀ w ∈ wsL_law0_r12, w ∈ lw_tbl := inPlaces [489, 490, 491, 492, 493, 494, 496, 497, 498, 499, 500, 501, 502, 503, 504, 506, 11, 507, 508, 509, 510, 511, 512, 513] (by decide +kernel)
set_option maxRecDepth 100000 in
theorem wsL_law0_r13_in : ∀ w ∈ wsL_law0_r13, w ∈ lw_tbl := inPlaces [514, 515, 516, 517, 519, 521, 522, 523, 524, 525, 526, 527, 528, 529, 530, 531, 532, 533, 534, 535, 537, 538, 539, 540] (by decide +kernel)
set_option maxRecDepth 100000 in
theorem wsL_law0_r14_in : ∀ w ∈ wsL_law0_r14, w ∈ lw_tbl := inPlaces [541, 542, 543, 544, 545, 546, 547, 550, 551, 552, 553, 554, 555, 556, 557, 558, 559, 560, 561, 562, 563, 564, 565, 566] (by decide +kernel)
set_option maxRecDepth 100000 in
theorem wsL_law0_r15_in : ∀ w ∈ wsL_law0_r15, w ∈ lw_tbl := inPlaces [567, 568, 569, 570, 571, 572, 573, 574, 575, 576, 577, 578, 580, 581, 582, 583, 129, 584, 586, 587, 588, 589, 590, 591] (by decide +kernel)
set_option maxRecDepth 100000 in
theorem wsL_law0_r16_in : ∀ w ∈ wsL_law0_r16, w ∈ lw_tbl := inPlaces [592, 593, 594, 595, 596, 597, 598, 599, 600, 601, 602, 603, 604, 605, 606, 607, 608, 609, 610, 611, 612, 613, 614, 615] (by decide +kernel)
set_option maxRecDepth 100000 in
theorem wsL_law0_r17_in : ∀ w ∈ wsL_law0_r17, w ∈ lw_tbl := inPlaces [616, 617, 618, 619, 620, 621, 622, 623, 624, 627, 628, 629, 630, 146, 631, 632, 633, 634, 635, 636, 637, 638, 639, 640] (by decide +kernel)
set_option maxRecDepth 100000 in
theorem wsL_law0_r18_in : ∀ w ∈ wsL_law0_r18, w ∈ lw_tbl := inPlaces [648, 641, 642, 643, 644, 645, 646, 647, 649, 650, 651, 652, 653, 654, 655, 656, 657, 658, 659, 660, 661, 662, 663, 185] (by decide +kernel)
set_option maxRecDepth 100000 in
theorem wsL_law0_r19_in : ∀ w ∈ wsL_law0_r19, w ∈ lw_tbl := inPlaces [186, 187, 188, 189, 190, 191, 192, 683, 684, 685, 664, 665, 666, 667, 668, 669, 670, 671, 672, 673, 674, 675, 676, 677] (by decide +kernel)
set_option maxRecDepth 100000 in
theorem wsL_law0_r20_in : ∀ w ∈ wsL_law0_r20, w ∈ lw_tbl := inPlaces [678, 679, 680, 681, 682] (by decide +kernel)
theorem inApp {a b big : List Cond} (h1 : ∀ w ∈ a, w ∈ big) (h2 : ∀ w ∈ b, w ∈ big) : ∀ w ∈ a ++ b, w ∈ big := fun w h => (List.mem_append.mp h).elim (h1 w) (h2 w)
set_option maxRecDepth 100000 in
theorem wsX40_in : ∀ w ∈ wsX40, w ∈ lw_tbl := inPlaces [170, 172, 174, 176, 178, 180, 182] (by decide +kernel)
set_option maxRecDepth 100000 in
theorem wsX10_in : ∀ w ∈ wsX10, w ∈ lw_tbl := inPlaces [85, 87, 89, 91, 93, 95, 97, 99, 101, 103, 105, 107, 109, 111, 113, 115, 117] (by decide +kernel)
set_option maxRecDepth 100000 in
theorem wsX00_in : ∀ w ∈ wsX00, w ∈ lw_tbl := inPlaces [54, 56, 58, 60] (by decide +kernel)
set_option maxRecDepth 100000 in
theorem wsX20_in : ∀ w ∈ wsX20, w ∈ lw_tbl := inPlaces [132, 134, 136] (by decide +kernel)
set_option maxRecDepth 100000 in
theorem wsX30_in : ∀ w ∈ wsX30, w ∈ lw_tbl := inPlaces [148, 150, 152, 154, 156, 158, 160] (by decide +kernel)
set_option maxRecDepth 100000 in
theorem wsL_law_in0 : ∀ w ∈ wsL_law0, w ∈ lw_tbl := (inApp (inApp (inApp (inApp (inApp (inApp (inApp wsL_law0_r1_in (inApp wsL_law0_r2_in (inApp wsL_law0_r3_in (inApp wsL_law0_r4_in (inApp wsL_law0_r5_in (inApp wsL_law0_r6_in (inApp wsL_law0_r7_in (inApp wsL_law0_r8_in (inApp wsL_law0_r9_in (inApp wsL_law0_r10_in (inApp wsL_law0_r11_in (inApp wsL_law0_r12_in (inApp wsL_law0_r13_in (inApp wsL_law0_r14_in (inApp wsL_law0_r15_in (inApp wsL_law0_r16_in (inApp wsL_law0_r17_in (inApp wsL_law0_r18_in (inApp wsL_law0_r19_in wsL_law0_r20_in))))))))))))))))))) wsX40_in) wsX10_in) wsX00_in) wsX20_in) wsX30_in) (fun _ h => absurd h List.not_mem_nil))
