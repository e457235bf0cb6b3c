/-- words of one list among another's, by their places -/
theorem inPlaces {big ws : List Cond} (ps : List Nat) (hp : ws = ps.filterMap (fun i => big[i]?)) : ∀ w ∈ ws, w ∈ big := by
  intro w hw
  rw [hp] at hw
  obtain ⟨i, -, hi⟩ := List.mem_filterMap.mp hw
  exact List.mem_of_getElem? hi
set_option maxRecDepth 100000 in
theorem wsL_law0_r1_in : ∀ w ∈ wsL_law0_r1, w ∈ lw_tbl := inPlaces [56, 57, 41, 724, 725, 46, 93, 1004, 58, 59, 60, 61, 62, 63, 64, 65, 42, 203, 204, 151, 71, 43, 206, 207] (by decide +kernel)
set_option maxRecDepth 100000 in
theorem wsL_law0_r2_in : ∀ w ∈ wsL_law0_r2, w ∈ lw_tbl := inPlaces [153, 154, 44, 208, 169, 170, 45, 209, 67, 68, 69, 94, 92, 105, 107, 110, 111, 112, 70, 113, 73, 74, 75, 77] (by decide +kernel)
set_option maxRecDepth 100000 in
theorem wsL_law0_r3_in : ∀ w ∈ wsL_law0_r3, w ∈ lw_tbl := inPlaces [76, 81, 156, 157, 158, 160, 161, 172, 173, 174, 175, 726, 727, 728, 729, 730, 731, 734, 737, 738, 739, 740, 741, 742] (by decide +kernel)
set_option maxRecDepth 100000 in
theorem wsL_law0_r4_in : ∀ w ∈ wsL_law0_r4, w ∈ lw_tbl := inPlaces [743, 744, 412, 413, 40, 414, 415, 416, 417, 418, 419, 420, 421, 50, 491, 51, 489, 286, 288, 4, 289, 205, 290, 292] (by decide +kernel)
set_option maxRecDepth 100000 in
theorem wsL_law0_r5_in : ∀ w ∈ wsL_law0_r5, w ∈ lw_tbl := inPlaces [5, 293, 294, 295, 296, 297, 95, 98, 99, 100, 101, 102, 103, 104, 106, 108, 299, 300, 301, 256, 52, 257, 302, 304] (by decide +kernel)
set_option maxRecDepth 100000 in
theorem wsL_law0_r6_in : ∀ w ∈ wsL_law0_r6, w ∈ lw_tbl := inPlaces [303, 53, 305, 306, 307, 308, 309, 79, 82, 251, 253, 0, 254, 255, 507, 508, 509, 510, 511, 512, 513, 364, 366, 10] (by decide +kernel)
set_option maxRecDepth 100000 in
theorem wsL_law0_r7_in : ∀ w ∈ wsL_law0_r7, w ∈ lw_tbl := inPlaces [367, 237, 238, 239, 363, 340, 54, 341, 342, 343, 344, 346, 347, 348, 350, 248, 249, 250, 515, 516, 517, 518, 519, 521] (by decide +kernel)
set_option maxRecDepth 100000 in
theorem wsL_law0_r8_in : ∀ w ∈ wsL_law0_r8, w ∈ lw_tbl := inPlaces [13, 522, 523, 525, 14, 526, 527, 528, 529, 530, 531, 533, 15, 534, 339, 535, 803, 804, 805, 806, 810, 807, 808, 809] (by decide +kernel)
set_option maxRecDepth 100000 in
theorem wsL_law0_r9_in : ∀ w ∈ wsL_law0_r9, w ∈ lw_tbl := inPlaces [799, 801, 17, 802, 733, 811, 813, 18, 814, 732, 815, 816, 817, 818, 820, 19, 821, 822, 823, 824, 825, 826, 828, 20] (by decide +kernel)
set_option maxRecDepth 100000 in
theorem wsL_law0_r10_in : ∀ w ∈ wsL_law0_r10, w ∈ lw_tbl := inPlaces [829, 830, 831, 832, 791, 792, 793, 794, 536, 537, 538, 539, 540, 541, 542, 543, 545, 55, 544, 328, 329, 330, 561, 562] (by decide +kernel)
set_option maxRecDepth 100000 in
theorem wsL_law0_r11_in : ∀ w ∈ wsL_law0_r11, w ∈ lw_tbl := inPlaces [563, 319, 320, 321, 322, 323, 324, 325, 326, 327, 331, 332, 333, 334, 335, 337, 8, 338, 352, 353, 354, 355, 356, 357] (by decide +kernel)
set_option maxRecDepth 100000 in
theorem wsL_law0_r12_in : ∀ w ∈ wsL_law0_r12, w ∈ lw_tbl := inPlaces [358, 359, 361, 9, 362, 833, 834, 835, 836, 837, 839, 21, 840, 841, 842, 843, 844, 846, 22, 847, 848, 850, 23, 851] (by decide +kernel)
set_option maxRecDepth 100000 in
theorem wsL_law0_r13_in : ∀ w ∈ wsL_law0_r13, w ∈ lw_tbl := inPlaces [566, 567, 568, 569, 570, 571, 572, 573, 574, 575, 368, 369, 370, 371, 372, 373, 374, 375, 376, 852, 853, 854, 855, 856] (by decide +kernel)
set_option maxRecDepth 100000 in
theorem wsL_law0_r14_in : ∀ w ∈ wsL_law0_r14, w ∈ lw_tbl := inPlaces [857, 858, 859, 861, 24, 862, 863, 865, 25, 866, 578, 579, 580, 581, 582, 583, 584, 377, 378, 379, 380, 867, 868, 869] (by decide +kernel)
set_option maxRecDepth 100000 in
theorem wsL_law0_r15_in : ∀ w ∈ wsL_law0_r15, w ∈ lw_tbl := inPlaces [870, 871, 873, 26, 874, 586, 587, 588, 589, 590, 591, 592, 595, 596, 597, 598, 875, 876, 877, 878, 599, 600, 601, 602] (by decide +kernel)
set_option maxRecDepth 100000 in
theorem wsL_law0_r16_in : ∀ w ∈ wsL_law0_r16, w ∈ lw_tbl := inPlaces [603, 604, 605, 391, 392, 393, 394, 395, 397, 11, 398, 399, 400, 401, 402, 403, 234, 235, 236, 404, 405, 406, 407, 879] (by decide +kernel)
set_option maxRecDepth 100000 in
theorem wsL_law0_r17_in : ∀ w ∈ wsL_law0_r17, w ∈ lw_tbl := inPlaces [880, 881, 882, 883, 885, 27, 886, 736, 887, 889, 28, 890, 891, 893, 29, 894, 895, 897, 30, 898, 899, 901, 31, 902] (by decide +kernel)
set_option maxRecDepth 100000 in
theorem wsL_law0_r18_in : ∀ w ∈ wsL_law0_r18, w ∈ lw_tbl := inPlaces [607, 608, 609, 610, 611, 612, 613, 387, 388, 389, 390, 903, 904, 905, 906, 907, 909, 32, 910, 614, 615, 616, 617, 618] (by decide +kernel)
set_option maxRecDepth 100000 in
theorem wsL_law0_r19_in : ∀ w ∈ wsL_law0_r19, w ∈ lw_tbl := inPlaces [619, 620, 408, 409, 410, 411, 911, 912, 913, 914, 225, 226, 227, 228, 915, 916, 917, 918, 622, 623, 624, 625, 626, 627] (by decide +kernel)
set_option maxRecDepth 100000 in
theorem wsL_law0_r20_in : ∀ w ∈ wsL_law0_r20, w ∈ lw_tbl := inPlaces [628, 244, 245, 246, 247, 919, 920, 921, 922, 629, 630, 631, 632, 633, 634, 635, 923, 924, 925, 926, 229, 230, 231, 232] (by decide +kernel)
set_option maxRecDepth 100000 in
theorem wsL_law0_r21_in : ∀ w ∈ wsL_law0_r21, w ∈ lw_tbl := inPlaces [233, 927, 928, 929, 930, 240, 241, 242, 243, 931, 932, 933, 934, 636, 637, 638, 639, 640, 641, 642, 643, 644, 645, 935] (by decide +kernel)
set_option maxRecDepth 100000 in
theorem wsL_law0_r22_in : ∀ w ∈ wsL_law0_r22, w ∈ lw_tbl := inPlaces [936, 937, 938, 646, 647, 648, 649, 650, 651, 652, 654, 655, 656, 657, 159, 658, 660, 661, 662, 663, 664, 665, 939, 940] (by decide +kernel)
set_option maxRecDepth 100000 in
theorem wsL_law0_r23_in : ∀ w ∈ wsL_law0_r23, w ∈ lw_tbl := inPlaces [941, 942, 943, 945, 33, 946, 666, 667, 668, 669, 670, 671, 672, 673, 674, 675, 676, 677, 678, 679, 947, 948, 949, 950] (by decide +kernel)
set_option maxRecDepth 100000 in
theorem wsL_law0_r24_in : ∀ w ∈ wsL_law0_r24, w ∈ lw_tbl := inPlaces [951, 953, 34, 954, 680, 681, 682, 683, 684, 685, 686, 687, 688, 689, 690, 691, 955, 956, 957, 958, 692, 693, 694, 695] (by decide +kernel)
set_option maxRecDepth 100000 in
theorem wsL_law0_r25_in : ∀ w ∈ wsL_law0_r25, w ∈ lw_tbl := inPlaces [696, 697, 698, 959, 960, 961, 962, 699, 700, 701, 702, 703, 704, 705, 708, 709, 710, 711, 176, 963, 964, 965, 966, 735] (by decide +kernel)
set_option maxRecDepth 100000 in
theorem wsL_law0_r26_in : ∀ w ∈ wsL_law0_r26, w ∈ lw_tbl := inPlaces [258, 259, 260, 261, 967, 968, 969, 970, 262, 263, 264, 265, 266, 267, 268, 269, 178, 270, 271, 272, 273, 180, 182, 274] (by decide +kernel)
set_option maxRecDepth 100000 in
theorem wsL_law0_r27_in : ∀ w ∈ wsL_law0_r27, w ∈ lw_tbl := inPlaces [276, 1, 277, 278, 280, 2, 281, 282, 284, 3, 285, 184, 186, 310, 312, 6, 313, 314, 315, 317, 7, 318, 971, 972] (by decide +kernel)
set_option maxRecDepth 100000 in
theorem wsL_law0_r28_in : ∀ w ∈ wsL_law0_r28, w ∈ lw_tbl := inPlaces [973, 974, 745, 975, 977, 35, 978, 746, 747, 748, 979, 981, 36, 982, 983, 985, 37, 986, 987, 989, 38, 990, 991, 992] (by decide +kernel)
set_option maxRecDepth 100000 in
theorem wsL_law0_r29_in : ∀ w ∈ wsL_law0_r29, w ∈ lw_tbl := inPlaces [993, 712, 713, 714, 715, 716, 717, 718, 720, 722, 16, 723, 795, 796, 797, 798, 381, 382, 383, 384, 385, 386, 994, 995] (by decide +kernel)
set_option maxRecDepth 100000 in
theorem wsL_law0_r30_in : ∀ w ∈ wsL_law0_r30, w ∈ lw_tbl := inPlaces [996, 997, 998, 749, 999, 1001, 39, 1002, 1003] (by decide +kernel)
theorem inApp {a b big : List Cond} (h1 : ∀ w ∈ a, w ∈ big) (h2 : ∀ w ∈ b, w ∈ big) : ∀ w ∈ a ++ b, w ∈ big := fun w h => (List.mem_append.mp h).elim (h1 w) (h2 w)
set_option maxRecDepth 100000 in
theorem wsX40_in : ∀ w ∈ wsX40, w ∈ lw_tbl := inPlaces [210, 212, 214, 216, 218, 220, 222] (by decide +kernel)
set_option maxRecDepth 100000 in
theorem wsX50_in : ∀ w ∈ wsX50, w ∈ lw_tbl := inPlaces [750, 752, 754, 756, 758, 760, 762, 764, 766, 768, 770, 772, 774, 776, 778, 780, 782, 784, 786, 788] (by decide +kernel)
set_option maxRecDepth 100000 in
theorem wsX10_in : ∀ w ∈ wsX10, w ∈ lw_tbl := inPlaces [115, 117, 119, 121, 123, 125, 127, 129, 131, 133, 135, 137, 139, 141, 143, 145, 147] (by decide +kernel)
set_option maxRecDepth 100000 in
theorem wsX00_in : ∀ w ∈ wsX00, w ∈ lw_tbl := inPlaces [83, 85, 87, 89] (by decide +kernel)
set_option maxRecDepth 100000 in
theorem wsX20_in : ∀ w ∈ wsX20, w ∈ lw_tbl := inPlaces [162, 164, 166] (by decide +kernel)
set_option maxRecDepth 100000 in
theorem wsX30_in : ∀ w ∈ wsX30, w ∈ lw_tbl := inPlaces [188, 190, 192, 194, 196, 198, 200] (by decide +kernel)
set_option maxRecDepth 100000 in
theorem wsL_law_in0 : ∀ w ∈ wsL_law0, w ∈ lw_tbl := (inApp (inApp (inApp (inApp (inApp (inApp (inApp (inApp wsL_law0_r1_in (inApp wsL_law0_r2_in (inApp wsL_law0_r3_in (inApp wsL_law0_r4_in (inApp wsL_law0_r5_in (inApp wsL_law0_r6_in (inApp wsL_law0_r7_in (inApp wsL_law0_r8_in (inApp wsL_law0_r9_in (inApp wsL_law0_r10_in (inApp wsL_law0_r11_in (inApp wsL_law0_r12_in (inApp wsL_law0_r13_in (inApp wsL_law0_r14_in (inApp wsL_law0_r15_in (inApp wsL_law0_r16_in (inApp wsL_law0_r17_in (inApp wsL_law0_r18_in (inApp wsL_law0_r19_in (inApp wsL_law0_r20_in (inApp wsL_law0_r21_in (inApp wsL_law0_r22_in (inApp wsL_law0_r23_in (inApp wsL_law0_r24_in (inApp wsL_law0_r25_in (inApp wsL_law0_r26_in (inApp wsL_law0_r27_in (inApp wsL_law0_r28_in (inApp wsL_law0_r29_in wsL_law0_r30_in))))))))))))))))))))))))))))) wsX40_in) wsX50_in) wsX10_in) wsX00_in) wsX20_in) wsX30_in) (fun _ h => absurd h List.not_mem_nil))
