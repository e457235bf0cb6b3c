theorem dX5_isPossible_40 : decode cX5_isPossible 40 = .ok (.aload_n 0, 1) := by decide +kernel
theorem dX5_isPossible_41 : decode cX5_isPossible 41 = .ok (.getfield 7, 3) := by decide +kernel
theorem dX5_isPossible_44 : decode cX5_isPossible 44 = .ok (.bipush 37, 2) := by decide +kernel
theorem dX5_isPossible_46 : decode cX5_isPossible 46 = .ok (.iload_n 1, 1) := by decide +kernel
theorem dX5_isPossible_47 : decode cX5_isPossible 47 = .ok (.iadd, 1) := by decide +kernel
theorem dX5_isPossible_48 : decode cX5_isPossible 48 = .ok (.iaload, 1) := by decide +kernel
theorem dX5_isPossible_49 : decode cX5_isPossible 49 = .ok (.aload_n 0, 1) := by decide +kernel
theorem dX5_isPossible_50 : decode cX5_isPossible 50 = .ok (.getfield 37, 3) := by decide +kernel
theorem dX5_isPossible_53 : decode cX5_isPossible 53 = .ok (.iload_n 1, 1) := by decide +kernel
theorem dX5_isPossible_54 : decode cX5_isPossible 54 = .ok (.iaload, 1) := by decide +kernel
theorem dX5_isPossible_55 : decode cX5_isPossible 55 = .ok (.iand, 1) := by decide +kernel
theorem dX5_isPossible_56 : decode cX5_isPossible 56 = .ok (.ifCond .eq 5, 3) := by decide +kernel
theorem dX5_isPossible_59 : decode cX5_isPossible 59 = .ok (.iconst 0, 1) := by decide +kernel
theorem dX5_isPossible_60 : decode cX5_isPossible 60 = .ok (.ireturn, 1) := by decide +kernel
theorem dX5_isPossible_61 : decode cX5_isPossible 61 = .ok (.iinc 1 1, 3) := by decide +kernel
theorem dX5_isPossible_64 : decode cX5_isPossible 64 = .ok (.goto (-62), 3) := by decide +kernel
theorem dX5_isPossible_67 : decode cX5_isPossible 67 = .ok (.iconst 0, 1) := by decide +kernel
theorem dX5_isPossible_68 : decode cX5_isPossible 68 = .ok (.istore_n 1, 1) := by decide +kernel
theorem dX5_isPossible_69 : decode cX5_isPossible 69 = .ok (.iload_n 1, 1) := by decide +kernel
theorem dX5_isPossible_70 : decode cX5_isPossible 70 = .ok (.aload_n 0, 1) := by decide +kernel
theorem dX5_isPossible_71 : decode cX5_isPossible 71 = .ok (.getfield 7, 3) := by decide +kernel
theorem dX5_isPossible_74 : decode cX5_isPossible 74 = .ok (.bipush 7, 2) := by decide +kernel
theorem dX5_isPossible_76 : decode cX5_isPossible 76 = .ok (.iaload, 1) := by decide +kernel
theorem dX5_isPossible_77 : decode cX5_isPossible 77 = .ok (.if_icmp .ge 78, 3) := by decide +kernel
theorem dX5_isPossible_80 : decode cX5_isPossible 80 = .ok (.bipush 41, 2) := by decide +kernel
theorem dX5_isPossible_82 : decode cX5_isPossible 82 = .ok (.iconst 3, 1) := by decide +kernel
theorem dX5_isPossible_83 : decode cX5_isPossible 83 = .ok (.iload_n 1, 1) := by decide +kernel
theorem dX5_isPossible_84 : decode cX5_isPossible 84 = .ok (.imul, 1) := by decide +kernel
theorem dX5_isPossible_85 : decode cX5_isPossible 85 = .ok (.iadd, 1) := by decide +kernel
theorem dX5_isPossible_86 : decode cX5_isPossible 86 = .ok (.istore_n 2, 1) := by decide +kernel
theorem dX5_isPossible_87 : decode cX5_isPossible 87 = .ok (.aload_n 0, 1) := by decide +kernel
theorem dX5_isPossible_88 : decode cX5_isPossible 88 = .ok (.getfield 7, 3) := by decide +kernel
theorem dX5_isPossible_91 : decode cX5_isPossible 91 = .ok (.iload_n 2, 1) := by decide +kernel
theorem dX5_isPossible_92 : decode cX5_isPossible 92 = .ok (.iaload, 1) := by decide +kernel
theorem dX5_isPossible_93 : decode cX5_isPossible 93 = .ok (.istore_n 3, 1) := by decide +kernel
theorem dX5_isPossible_94 : decode cX5_isPossible 94 = .ok (.aload_n 0, 1) := by decide +kernel
theorem dX5_isPossible_95 : decode cX5_isPossible 95 = .ok (.getfield 40, 3) := by decide +kernel
theorem dX5_isPossible_98 : decode cX5_isPossible 98 = .ok (.iload_n 3, 1) := by decide +kernel
theorem dX5_isPossible_99 : decode cX5_isPossible 99 = .ok (.dup2, 1) := by decide +kernel
theorem dX5_isPossible_100 : decode cX5_isPossible 100 = .ok (.iaload, 1) := by decide +kernel
theorem dX5_isPossible_101 : decode cX5_isPossible 101 = .ok (.aload_n 0, 1) := by decide +kernel
theorem dX5_isPossible_102 : decode cX5_isPossible 102 = .ok (.getfield 37, 3) := by decide +kernel
theorem dX5_isPossible_105 : decode cX5_isPossible 105 = .ok (.iload_n 3, 1) := by decide +kernel
theorem dX5_isPossible_106 : decode cX5_isPossible 106 = .ok (.iaload, 1) := by decide +kernel
theorem dX5_isPossible_107 : decode cX5_isPossible 107 = .ok (.aload_n 0, 1) := by decide +kernel
theorem dX5_isPossible_108 : decode cX5_isPossible 108 = .ok (.getfield 7, 3) := by decide +kernel
theorem dX5_isPossible_111 : decode cX5_isPossible 111 = .ok (.iload_n 2, 1) := by decide +kernel
theorem dX5_isPossible_112 : decode cX5_isPossible 112 = .ok (.iconst 1, 1) := by decide +kernel
theorem dX5_isPossible_113 : decode cX5_isPossible 113 = .ok (.iadd, 1) := by decide +kernel
theorem dX5_isPossible_114 : decode cX5_isPossible 114 = .ok (.iaload, 1) := by decide +kernel
theorem dX5_isPossible_115 : decode cX5_isPossible 115 = .ok (.iand, 1) := by decide +kernel
theorem dX5_isPossible_116 : decode cX5_isPossible 116 = .ok (.invokestatic 65, 3) := by decide +kernel
theorem dX5_isPossible_119 : decode cX5_isPossible 119 = .ok (.aload_n 0, 1) := by decide +kernel
theorem dX5_isPossible_120 : decode cX5_isPossible 120 = .ok (.getfield 7, 3) := by decide +kernel
theorem dX5_isPossible_123 : decode cX5_isPossible 123 = .ok (.iload_n 2, 1) := by decide +kernel
theorem dX5_isPossible_124 : decode cX5_isPossible 124 = .ok (.iconst 2, 1) := by decide +kernel
theorem dX5_isPossible_125 : decode cX5_isPossible 125 = .ok (.iadd, 1) := by decide +kernel
theorem dX5_isPossible_126 : decode cX5_isPossible 126 = .ok (.iaload, 1) := by decide +kernel
theorem dX5_isPossible_127 : decode cX5_isPossible 127 = .ok (.if_icmp .ne 7, 3) := by decide +kernel
theorem dX5_isPossible_130 : decode cX5_isPossible 130 = .ok (.iconst 0, 1) := by decide +kernel
theorem dX5_isPossible_131 : decode cX5_isPossible 131 = .ok (.goto 4, 3) := by decide +kernel
theorem dX5_isPossible_134 : decode cX5_isPossible 134 = .ok (.iconst 1, 1) := by decide +kernel
theorem dX5_isPossible_135 : decode cX5_isPossible 135 = .ok (.iadd, 1) := by decide +kernel
theorem dX5_isPossible_136 : decode cX5_isPossible 136 = .ok (.iastore, 1) := by decide +kernel
theorem dX5_isPossible_137 : decode cX5_isPossible 137 = .ok (.aload_n 0, 1) := by decide +kernel
theorem dX5_isPossible_138 : decode cX5_isPossible 138 = .ok (.getfield 40, 3) := by decide +kernel
theorem dX5_isPossible_141 : decode cX5_isPossible 141 = .ok (.iload_n 3, 1) := by decide +kernel
theorem dX5_isPossible_142 : decode cX5_isPossible 142 = .ok (.iaload, 1) := by decide +kernel
theorem dX5_isPossible_143 : decode cX5_isPossible 143 = .ok (.iconst 1, 1) := by decide +kernel
theorem dX5_isPossible_144 : decode cX5_isPossible 144 = .ok (.if_icmp .le 5, 3) := by decide +kernel
theorem dX5_isPossible_147 : decode cX5_isPossible 147 = .ok (.iconst 0, 1) := by decide +kernel
theorem dX5_isPossible_148 : decode cX5_isPossible 148 = .ok (.ireturn, 1) := by decide +kernel
theorem dX5_isPossible_149 : decode cX5_isPossible 149 = .ok (.iinc 1 1, 3) := by decide +kernel
theorem dX5_isPossible_152 : decode cX5_isPossible 152 = .ok (.goto (-83), 3) := by decide +kernel
theorem dX5_isPossible_155 : decode cX5_isPossible 155 = .ok (.iconst 1, 1) := by decide +kernel
theorem dX5_isPossible_156 : decode cX5_isPossible 156 = .ok (.ireturn, 1) := by decide +kernel
set_option maxRecDepth 20000 in
theorem ggX5_counts_X5_isPossible : GoodIn wsX5_counts wsX5_isPossible := goodIn_r _ [15, 3, 8, 5, 16, 17, 14, 18, 19, 20, 21, 22, 23, 24, 25, 26, 27, 28, 29, 30, 31, 32, 33, 34, 35, 36, 37, 38] (by decide +kernel) (by decide +kernel)
set_option maxRecDepth 20000 in
theorem gX5_counts_X5_isPossible : GoodIn wsX5_counts (wsV RX5 112 RX5 yX5_isPossible wsX5_isPossible) := goodIn_app (goodIn_of _ (by decide +kernel)) ggX5_counts_X5_isPossible
theorem dX5_counts_0 : decode cX5_counts 0 = .ok (.aload_n 0, 1) := by decide +kernel
theorem dX5_counts_1 : decode cX5_counts 1 = .ok (.invokevirtual 112, 3) := by decide +kernel
theorem dX5_counts_4 : decode cX5_counts 4 = .ok (.ifCond .ne 4, 3) := by decide +kernel
theorem dX5_counts_7 : decode cX5_counts 7 = .ok (.return_, 1) := by decide +kernel
theorem dX5_counts_8 : decode cX5_counts 8 = .ok (.aload_n 0, 1) := by decide +kernel
theorem dX5_counts_9 : decode cX5_counts 9 = .ok (.dup, 1) := by decide +kernel
theorem dX5_counts_10 : decode cX5_counts 10 = .ok (.getfield 116, 3) := by decide +kernel
theorem dX5_counts_13 : decode cX5_counts 13 = .ok (.iconst 1, 1) := by decide +kernel
theorem dX5_counts_14 : decode cX5_counts 14 = .ok (.iadd, 1) := by decide +kernel
theorem dX5_counts_15 : decode cX5_counts 15 = .ok (.putfield 116, 3) := by decide +kernel
theorem dX5_counts_18 : decode cX5_counts 18 = .ok (.aload_n 0, 1) := by decide +kernel
theorem dX5_counts_19 : decode cX5_counts 19 = .ok (.getfield 19, 3) := by decide +kernel
theorem dX5_counts_22 : decode cX5_counts 22 = .ok (.iload_n 1, 1) := by decide +kernel
theorem dX5_counts_23 : decode cX5_counts 23 = .ok (.dup2, 1) := by decide +kernel
theorem dX5_counts_24 : decode cX5_counts 24 = .ok (.iaload, 1) := by decide +kernel
theorem dX5_counts_25 : decode cX5_counts 25 = .ok (.iconst 1, 1) := by decide +kernel
theorem dX5_counts_26 : decode cX5_counts 26 = .ok (.iadd, 1) := by decide +kernel
theorem dX5_counts_27 : decode cX5_counts 27 = .ok (.iastore, 1) := by decide +kernel
theorem dX5_counts_28 : decode cX5_counts 28 = .ok (.iconst 0, 1) := by decide +kernel
theorem dX5_counts_29 : decode cX5_counts 29 = .ok (.istore_n 3, 1) := by decide +kernel
theorem dX5_counts_30 : decode cX5_counts 30 = .ok (.iload_n 3, 1) := by decide +kernel
theorem dX5_counts_31 : decode cX5_counts 31 = .ok (.aload_n 0, 1) := by decide +kernel
theorem dX5_counts_32 : decode cX5_counts 32 = .ok (.getfield 7, 3) := by decide +kernel
theorem dX5_counts_35 : decode cX5_counts 35 = .ok (.iconst 0, 1) := by decide +kernel
theorem dX5_counts_36 : decode cX5_counts 36 = .ok (.iaload, 1) := by decide +kernel
theorem dX5_counts_37 : decode cX5_counts 37 = .ok (.if_icmp .ge 96, 3) := by decide +kernel
theorem dX5_counts_40 : decode cX5_counts 40 = .ok (.aload_n 0, 1) := by decide +kernel
theorem dX5_counts_41 : decode cX5_counts 41 = .ok (.getfield 25, 3) := by decide +kernel
theorem dX5_counts_44 : decode cX5_counts 44 = .ok (.iload_n 3, 1) := by decide +kernel
theorem dX5_counts_45 : decode cX5_counts 45 = .ok (.dup2, 1) := by decide +kernel
theorem dX5_counts_46 : decode cX5_counts 46 = .ok (.iaload, 1) := by decide +kernel
theorem dX5_counts_47 : decode cX5_counts 47 = .ok (.aload_n 0, 1) := by decide +kernel
theorem dX5_counts_48 : decode cX5_counts 48 = .ok (.getfield 37, 3) := by decide +kernel
theorem dX5_counts_51 : decode cX5_counts 51 = .ok (.iload_n 3, 1) := by decide +kernel
theorem dX5_counts_52 : decode cX5_counts 52 = .ok (.iaload, 1) := by decide +kernel
theorem dX5_counts_53 : decode cX5_counts 53 = .ok (.iand, 1) := by decide +kernel
theorem dX5_counts_54 : decode cX5_counts 54 = .ok (.iastore, 1) := by decide +kernel
theorem dX5_counts_55 : decode cX5_counts 55 = .ok (.aload_n 0, 1) := by decide +kernel
theorem dX5_counts_56 : decode cX5_counts 56 = .ok (.getfield 28, 3) := by decide +kernel
theorem dX5_counts_59 : decode cX5_counts 59 = .ok (.iload_n 3, 1) := by decide +kernel
theorem dX5_counts_60 : decode cX5_counts 60 = .ok (.dup2, 1) := by decide +kernel
theorem dX5_counts_61 : decode cX5_counts 61 = .ok (.iaload, 1) := by decide +kernel
theorem dX5_counts_62 : decode cX5_counts 62 = .ok (.aload_n 0, 1) := by decide +kernel
theorem dX5_counts_63 : decode cX5_counts 63 = .ok (.getfield 37, 3) := by decide +kernel
theorem dX5_counts_66 : decode cX5_counts 66 = .ok (.iload_n 3, 1) := by decide +kernel
theorem dX5_counts_67 : decode cX5_counts 67 = .ok (.iaload, 1) := by decide +kernel
theorem dX5_counts_68 : decode cX5_counts 68 = .ok (.ior, 1) := by decide +kernel
theorem dX5_counts_69 : decode cX5_counts 69 = .ok (.iastore, 1) := by decide +kernel
theorem dX5_counts_70 : decode cX5_counts 70 = .ok (.aload_n 0, 1) := by decide +kernel
theorem dX5_counts_71 : decode cX5_counts 71 = .ok (.getfield 31, 3) := by decide +kernel
theorem dX5_counts_74 : decode cX5_counts 74 = .ok (.iload_n 3, 1) := by decide +kernel
theorem dX5_counts_75 : decode cX5_counts 75 = .ok (.dup2, 1) := by decide +kernel
theorem dX5_counts_76 : decode cX5_counts 76 = .ok (.iaload, 1) := by decide +kernel
theorem dX5_counts_77 : decode cX5_counts 77 = .ok (.aload_n 0, 1) := by decide +kernel
theorem dX5_counts_78 : decode cX5_counts 78 = .ok (.getfield 40, 3) := by decide +kernel
theorem dX5_counts_81 : decode cX5_counts 81 = .ok (.iload_n 3, 1) := by decide +kernel
theorem dX5_counts_82 : decode cX5_counts 82 = .ok (.iaload, 1) := by decide +kernel
theorem dX5_counts_83 : decode cX5_counts 83 = .ok (.iadd, 1) := by decide +kernel
theorem dX5_counts_84 : decode cX5_counts 84 = .ok (.iastore, 1) := by decide +kernel
theorem dX5_counts_85 : decode cX5_counts 85 = .ok (.iconst 0, 1) := by decide +kernel
theorem dX5_counts_86 : decode cX5_counts 86 = .ok (.istore 4, 2) := by decide +kernel
theorem dX5_counts_88 : decode cX5_counts 88 = .ok (.iload 4, 2) := by decide +kernel
theorem dX5_counts_90 : decode cX5_counts 90 = .ok (.bipush 8, 2) := by decide +kernel
theorem dX5_counts_92 : decode cX5_counts 92 = .ok (.if_icmp .ge 35, 3) := by decide +kernel
theorem dX5_counts_95 : decode cX5_counts 95 = .ok (.aload_n 0, 1) := by decide +kernel
theorem dX5_counts_96 : decode cX5_counts 96 = .ok (.getfield 22, 3) := by decide +kernel
theorem dX5_counts_99 : decode cX5_counts 99 = .ok (.bipush 8, 2) := by decide +kernel
theorem dX5_counts_101 : decode cX5_counts 101 = .ok (.iload_n 3, 1) := by decide +kernel
theorem dX5_counts_102 : decode cX5_counts 102 = .ok (.imul, 1) := by decide +kernel
theorem dX5_counts_103 : decode cX5_counts 103 = .ok (.iload 4, 2) := by decide +kernel
theorem dX5_counts_105 : decode cX5_counts 105 = .ok (.iadd, 1) := by decide +kernel
theorem dX5_counts_106 : decode cX5_counts 106 = .ok (.dup2, 1) := by decide +kernel
theorem dX5_counts_107 : decode cX5_counts 107 = .ok (.iaload, 1) := by decide +kernel
theorem dX5_counts_108 : decode cX5_counts 108 = .ok (.aload_n 0, 1) := by decide +kernel
theorem dX5_counts_109 : decode cX5_counts 109 = .ok (.getfield 37, 3) := by decide +kernel
theorem dX5_counts_112 : decode cX5_counts 112 = .ok (.iload_n 3, 1) := by decide +kernel
theorem dX5_counts_113 : decode cX5_counts 113 = .ok (.iaload, 1) := by decide +kernel
theorem dX5_counts_114 : decode cX5_counts 114 = .ok (.iload 4, 2) := by decide +kernel
theorem dX5_counts_116 : decode cX5_counts 116 = .ok (.ishr, 1) := by decide +kernel
theorem dX5_counts_117 : decode cX5_counts 117 = .ok (.iconst 1, 1) := by decide +kernel
theorem dX5_counts_118 : decode cX5_counts 118 = .ok (.iand, 1) := by decide +kernel
theorem dX5_counts_119 : decode cX5_counts 119 = .ok (.iadd, 1) := by decide +kernel
theorem dX5_counts_120 : decode cX5_counts 120 = .ok (.iastore, 1) := by decide +kernel
theorem dX5_counts_121 : decode cX5_counts 121 = .ok (.iinc 4 1, 3) := by decide +kernel
theorem dX5_counts_124 : decode cX5_counts 124 = .ok (.goto (-36), 3) := by decide +kernel
theorem dX5_counts_127 : decode cX5_counts 127 = .ok (.iinc 3 1, 3) := by decide +kernel
theorem dX5_counts_130 : decode cX5_counts 130 = .ok (.goto (-100), 3) := by decide +kernel
theorem dX5_counts_133 : decode cX5_counts 133 = .ok (.iload_n 2, 1) := by decide +kernel
theorem dX5_counts_134 : decode cX5_counts 134 = .ok (.iconst (-1), 1) := by decide +kernel
theorem dX5_counts_135 : decode cX5_counts 135 = .ok (.if_icmp .eq 27, 3) := by decide +kernel
theorem dX5_counts_138 : decode cX5_counts 138 = .ok (.aload_n 0, 1) := by decide +kernel
theorem dX5_counts_139 : decode cX5_counts 139 = .ok (.getfield 34, 3) := by decide +kernel
theorem dX5_counts_142 : decode cX5_counts 142 = .ok (.iconst 2, 1) := by decide +kernel
theorem dX5_counts_143 : decode cX5_counts 143 = .ok (.aload_n 0, 1) := by decide +kernel
theorem dX5_counts_144 : decode cX5_counts 144 = .ok (.getfield 37, 3) := by decide +kernel
theorem dX5_counts_147 : decode cX5_counts 147 = .ok (.iload_n 2, 1) := by decide +kernel
theorem dX5_counts_148 : decode cX5_counts 148 = .ok (.iaload, 1) := by decide +kernel
theorem dX5_counts_149 : decode cX5_counts 149 = .ok (.imul, 1) := by decide +kernel
theorem dX5_counts_150 : decode cX5_counts 150 = .ok (.aload_n 0, 1) := by decide +kernel
theorem dX5_counts_151 : decode cX5_counts 151 = .ok (.getfield 40, 3) := by decide +kernel
theorem dX5_counts_154 : decode cX5_counts 154 = .ok (.iload_n 2, 1) := by decide +kernel
theorem dX5_counts_155 : decode cX5_counts 155 = .ok (.iaload, 1) := by decide +kernel
theorem dX5_counts_156 : decode cX5_counts 156 = .ok (.iadd, 1) := by decide +kernel
theorem dX5_counts_157 : decode cX5_counts 157 = .ok (.dup2, 1) := by decide +kernel
theorem dX5_counts_158 : decode cX5_counts 158 = .ok (.iaload, 1) := by decide +kernel
theorem dX5_counts_159 : decode cX5_counts 159 = .ok (.iconst 1, 1) := by decide +kernel
theorem dX5_counts_160 : decode cX5_counts 160 = .ok (.iadd, 1) := by decide +kernel
theorem dX5_counts_161 : decode cX5_counts 161 = .ok (.iastore, 1) := by decide +kernel
theorem dX5_counts_162 : decode cX5_counts 162 = .ok (.return_, 1) := by decide +kernel
set_option maxRecDepth 20000 in
theorem ggX5_countsAll_X5_many : GoodIn wsX5_countsAll wsX5_many := goodIn_r _ [13] (by decide +kernel) (by decide +kernel)
set_option maxRecDepth 20000 in
theorem gX5_countsAll_X5_many : GoodIn wsX5_countsAll (va_wsS RX5 65 yX5_many wsX5_many) := goodIn_app (goodIn_of _ (by decide +kernel)) ggX5_countsAll_X5_many
set_option maxRecDepth 20000 in
theorem ggX5_countsAll_X5_countsRest : GoodIn wsX5_countsAll wsX5_countsRest := goodIn_r _ [17, 8, 9, 10, 11, 12, 13, 18, 19, 20, 21, 1, 2, 5, 6, 7, 22, 3, 4, 23, 24, 25, 26, 27, 28, 29, 30, 31, 32, 33, 34, 35, 36, 37, 38, 39, 40, 41, 42, 43, 44, 45, 46] (by decide +kernel) (by decide +kernel)
set_option maxRecDepth 20000 in
theorem gX5_countsAll_X5_countsRest : GoodIn wsX5_countsAll (wsV RX5 119 RX5 yX5_countsRest wsX5_countsRest) := goodIn_app (goodIn_of _ (by decide +kernel)) ggX5_countsAll_X5_countsRest
theorem dX5_countsAll_0 : decode cX5_countsAll 0 = .ok (.aload_n 0, 1) := by decide +kernel
theorem dX5_countsAll_1 : decode cX5_countsAll 1 = .ok (.iconst 0, 1) := by decide +kernel
theorem dX5_countsAll_2 : decode cX5_countsAll 2 = .ok (.putfield 116, 3) := by decide +kernel
theorem dX5_countsAll_5 : decode cX5_countsAll 5 = .ok (.iconst 0, 1) := by decide +kernel
theorem dX5_countsAll_6 : decode cX5_countsAll 6 = .ok (.istore_n 2, 1) := by decide +kernel
theorem dX5_countsAll_7 : decode cX5_countsAll 7 = .ok (.iload_n 2, 1) := by decide +kernel
theorem dX5_countsAll_8 : decode cX5_countsAll 8 = .ok (.bipush 8, 2) := by decide +kernel
theorem dX5_countsAll_10 : decode cX5_countsAll 10 = .ok (.if_icmp .ge 16, 3) := by decide +kernel
theorem dX5_countsAll_13 : decode cX5_countsAll 13 = .ok (.aload_n 0, 1) := by decide +kernel
theorem dX5_countsAll_14 : decode cX5_countsAll 14 = .ok (.getfield 19, 3) := by decide +kernel
theorem dX5_countsAll_17 : decode cX5_countsAll 17 = .ok (.iload_n 2, 1) := by decide +kernel
theorem dX5_countsAll_18 : decode cX5_countsAll 18 = .ok (.iconst 0, 1) := by decide +kernel
theorem dX5_countsAll_19 : decode cX5_countsAll 19 = .ok (.iastore, 1) := by decide +kernel
theorem dX5_countsAll_20 : decode cX5_countsAll 20 = .ok (.iinc 2 1, 3) := by decide +kernel
theorem dX5_countsAll_23 : decode cX5_countsAll 23 = .ok (.goto (-16), 3) := by decide +kernel
theorem dX5_countsAll_26 : decode cX5_countsAll 26 = .ok (.iconst 0, 1) := by decide +kernel
theorem dX5_countsAll_27 : decode cX5_countsAll 27 = .ok (.istore_n 2, 1) := by decide +kernel
theorem dX5_countsAll_28 : decode cX5_countsAll 28 = .ok (.iload_n 2, 1) := by decide +kernel
theorem dX5_countsAll_29 : decode cX5_countsAll 29 = .ok (.bipush 32, 2) := by decide +kernel
theorem dX5_countsAll_31 : decode cX5_countsAll 31 = .ok (.if_icmp .ge 16, 3) := by decide +kernel
theorem dX5_countsAll_34 : decode cX5_countsAll 34 = .ok (.aload_n 0, 1) := by decide +kernel
theorem dX5_countsAll_35 : decode cX5_countsAll 35 = .ok (.getfield 22, 3) := by decide +kernel
theorem dX5_countsAll_38 : decode cX5_countsAll 38 = .ok (.iload_n 2, 1) := by decide +kernel
theorem dX5_countsAll_39 : decode cX5_countsAll 39 = .ok (.iconst 0, 1) := by decide +kernel
theorem dX5_countsAll_40 : decode cX5_countsAll 40 = .ok (.iastore, 1) := by decide +kernel
theorem dX5_countsAll_41 : decode cX5_countsAll 41 = .ok (.iinc 2 1, 3) := by decide +kernel
theorem dX5_countsAll_44 : decode cX5_countsAll 44 = .ok (.goto (-16), 3) := by decide +kernel
theorem dX5_countsAll_47 : decode cX5_countsAll 47 = .ok (.iconst 0, 1) := by decide +kernel
theorem dX5_countsAll_48 : decode cX5_countsAll 48 = .ok (.istore_n 2, 1) := by decide +kernel
theorem dX5_countsAll_49 : decode cX5_countsAll 49 = .ok (.iload_n 2, 1) := by decide +kernel
theorem dX5_countsAll_50 : decode cX5_countsAll 50 = .ok (.sipush 512, 3) := by decide +kernel
theorem dX5_countsAll_53 : decode cX5_countsAll 53 = .ok (.if_icmp .ge 16, 3) := by decide +kernel
theorem dX5_countsAll_56 : decode cX5_countsAll 56 = .ok (.aload_n 0, 1) := by decide +kernel
theorem dX5_countsAll_57 : decode cX5_countsAll 57 = .ok (.getfield 34, 3) := by decide +kernel
theorem dX5_countsAll_60 : decode cX5_countsAll 60 = .ok (.iload_n 2, 1) := by decide +kernel
theorem dX5_countsAll_61 : decode cX5_countsAll 61 = .ok (.iconst 0, 1) := by decide +kernel
theorem dX5_countsAll_62 : decode cX5_countsAll 62 = .ok (.iastore, 1) := by decide +kernel
theorem dX5_countsAll_63 : decode cX5_countsAll 63 = .ok (.iinc 2 1, 3) := by decide +kernel
theorem dX5_countsAll_66 : decode cX5_countsAll 66 = .ok (.goto (-17), 3) := by decide +kernel
theorem dX5_countsAll_69 : decode cX5_countsAll 69 = .ok (.iconst 0, 1) := by decide +kernel
theorem dX5_countsAll_70 : decode cX5_countsAll 70 = .ok (.istore_n 2, 1) := by decide +kernel
theorem dX5_countsAll_71 : decode cX5_countsAll 71 = .ok (.iload_n 2, 1) := by decide +kernel
theorem dX5_countsAll_72 : decode cX5_countsAll 72 = .ok (.iconst 4, 1) := by decide +kernel
theorem dX5_countsAll_73 : decode cX5_countsAll 73 = .ok (.if_icmp .ge 32, 3) := by decide +kernel
theorem dX5_countsAll_76 : decode cX5_countsAll 76 = .ok (.aload_n 0, 1) := by decide +kernel
theorem dX5_countsAll_77 : decode cX5_countsAll 77 = .ok (.getfield 25, 3) := by decide +kernel
theorem dX5_countsAll_80 : decode cX5_countsAll 80 = .ok (.iload_n 2, 1) := by decide +kernel
theorem dX5_countsAll_81 : decode cX5_countsAll 81 = .ok (.sipush 255, 3) := by decide +kernel
theorem dX5_countsAll_84 : decode cX5_countsAll 84 = .ok (.iastore, 1) := by decide +kernel
theorem dX5_countsAll_85 : decode cX5_countsAll 85 = .ok (.aload_n 0, 1) := by decide +kernel
theorem dX5_countsAll_86 : decode cX5_countsAll 86 = .ok (.getfield 28, 3) := by decide +kernel
theorem dX5_countsAll_89 : decode cX5_countsAll 89 = .ok (.iload_n 2, 1) := by decide +kernel
theorem dX5_countsAll_90 : decode cX5_countsAll 90 = .ok (.iconst 0, 1) := by decide +kernel
theorem dX5_countsAll_91 : decode cX5_countsAll 91 = .ok (.iastore, 1) := by decide +kernel
theorem dX5_countsAll_92 : decode cX5_countsAll 92 = .ok (.aload_n 0, 1) := by decide +kernel
theorem dX5_countsAll_93 : decode cX5_countsAll 93 = .ok (.getfield 31, 3) := by decide +kernel
theorem dX5_countsAll_96 : decode cX5_countsAll 96 = .ok (.iload_n 2, 1) := by decide +kernel
theorem dX5_countsAll_97 : decode cX5_countsAll 97 = .ok (.iconst 0, 1) := by decide +kernel
theorem dX5_countsAll_98 : decode cX5_countsAll 98 = .ok (.iastore, 1) := by decide +kernel
theorem dX5_countsAll_99 : decode cX5_countsAll 99 = .ok (.iinc 2 1, 3) := by decide +kernel
theorem dX5_countsAll_102 : decode cX5_countsAll 102 = .ok (.goto (-31), 3) := by decide +kernel
theorem dX5_countsAll_105 : decode cX5_countsAll 105 = .ok (.iconst 0, 1) := by decide +kernel
theorem dX5_countsAll_106 : decode cX5_countsAll 106 = .ok (.istore_n 2, 1) := by decide +kernel
theorem dX5_countsAll_107 : decode cX5_countsAll 107 = .ok (.iload_n 2, 1) := by decide +kernel
theorem dX5_countsAll_108 : decode cX5_countsAll 108 = .ok (.bipush 8, 2) := by decide +kernel
theorem dX5_countsAll_110 : decode cX5_countsAll 110 = .ok (.if_icmp .ge 89, 3) := by decide +kernel
theorem dX5_countsAll_113 : decode cX5_countsAll 113 = .ok (.aload_n 0, 1) := by decide +kernel
theorem dX5_countsAll_114 : decode cX5_countsAll 114 = .ok (.getfield 7, 3) := by decide +kernel
theorem dX5_countsAll_117 : decode cX5_countsAll 117 = .ok (.iconst 0, 1) := by decide +kernel
theorem dX5_countsAll_118 : decode cX5_countsAll 118 = .ok (.iaload, 1) := by decide +kernel
theorem dX5_countsAll_119 : decode cX5_countsAll 119 = .ok (.ifCond .le 80, 3) := by decide +kernel
theorem dX5_countsAll_122 : decode cX5_countsAll 122 = .ok (.sipush 255, 3) := by decide +kernel
theorem dX5_countsAll_125 : decode cX5_countsAll 125 = .ok (.iconst 1, 1) := by decide +kernel
theorem dX5_countsAll_126 : decode cX5_countsAll 126 = .ok (.iload_n 2, 1) := by decide +kernel
theorem dX5_countsAll_127 : decode cX5_countsAll 127 = .ok (.ishl, 1) := by decide +kernel
theorem dX5_countsAll_128 : decode cX5_countsAll 128 = .ok (.iconst (-1), 1) := by decide +kernel
theorem dX5_countsAll_129 : decode cX5_countsAll 129 = .ok (.ixor, 1) := by decide +kernel
theorem dX5_countsAll_130 : decode cX5_countsAll 130 = .ok (.iand, 1) := by decide +kernel
theorem dX5_countsAll_131 : decode cX5_countsAll 131 = .ok (.istore_n 3, 1) := by decide +kernel
theorem dX5_countsAll_132 : decode cX5_countsAll 132 = .ok (.iconst 0, 1) := by decide +kernel
theorem dX5_countsAll_133 : decode cX5_countsAll 133 = .ok (.istore 4, 2) := by decide +kernel
theorem dX5_countsAll_135 : decode cX5_countsAll 135 = .ok (.iload 4, 2) := by decide +kernel
theorem dX5_countsAll_137 : decode cX5_countsAll 137 = .ok (.sipush 256, 3) := by decide +kernel
theorem dX5_countsAll_140 : decode cX5_countsAll 140 = .ok (.if_icmp .ge 53, 3) := by decide +kernel
theorem dX5_countsAll_143 : decode cX5_countsAll 143 = .ok (.iload 4, 2) := by decide +kernel
theorem dX5_countsAll_145 : decode cX5_countsAll 145 = .ok (.iload_n 3, 1) := by decide +kernel
theorem dX5_countsAll_146 : decode cX5_countsAll 146 = .ok (.iconst (-1), 1) := by decide +kernel
theorem dX5_countsAll_147 : decode cX5_countsAll 147 = .ok (.ixor, 1) := by decide +kernel
theorem dX5_countsAll_148 : decode cX5_countsAll 148 = .ok (.iand, 1) := by decide +kernel
theorem dX5_countsAll_149 : decode cX5_countsAll 149 = .ok (.ifCond .ne 38, 3) := by decide +kernel
theorem dX5_countsAll_152 : decode cX5_countsAll 152 = .ok (.iload 4, 2) := by decide +kernel
theorem dX5_countsAll_154 : decode cX5_countsAll 154 = .ok (.invokestatic 65, 3) := by decide +kernel
theorem dX5_countsAll_157 : decode cX5_countsAll 157 = .ok (.aload_n 0, 1) := by decide +kernel
theorem dX5_countsAll_158 : decode cX5_countsAll 158 = .ok (.getfield 7, 3) := by decide +kernel
theorem dX5_countsAll_161 : decode cX5_countsAll 161 = .ok (.bipush 9, 2) := by decide +kernel
theorem dX5_countsAll_163 : decode cX5_countsAll 163 = .ok (.iaload, 1) := by decide +kernel
theorem dX5_countsAll_164 : decode cX5_countsAll 164 = .ok (.if_icmp .ne 23, 3) := by decide +kernel
theorem dX5_countsAll_167 : decode cX5_countsAll 167 = .ok (.aload_n 0, 1) := by decide +kernel
theorem dX5_countsAll_168 : decode cX5_countsAll 168 = .ok (.getfield 37, 3) := by decide +kernel
theorem dX5_countsAll_171 : decode cX5_countsAll 171 = .ok (.iconst 0, 1) := by decide +kernel
theorem dX5_countsAll_172 : decode cX5_countsAll 172 = .ok (.iload 4, 2) := by decide +kernel
theorem dX5_countsAll_174 : decode cX5_countsAll 174 = .ok (.iastore, 1) := by decide +kernel
theorem dX5_countsAll_175 : decode cX5_countsAll 175 = .ok (.aload_n 0, 1) := by decide +kernel
theorem dX5_countsAll_176 : decode cX5_countsAll 176 = .ok (.iload_n 2, 1) := by decide +kernel
theorem dX5_countsAll_177 : decode cX5_countsAll 177 = .ok (.iload_n 3, 1) := by decide +kernel
theorem dX5_countsAll_178 : decode cX5_countsAll 178 = .ok (.iload 4, 2) := by decide +kernel
theorem dX5_countsAll_180 : decode cX5_countsAll 180 = .ok (.iconst (-1), 1) := by decide +kernel
theorem dX5_countsAll_181 : decode cX5_countsAll 181 = .ok (.ixor, 1) := by decide +kernel
theorem dX5_countsAll_182 : decode cX5_countsAll 182 = .ok (.iand, 1) := by decide +kernel
theorem dX5_countsAll_183 : decode cX5_countsAll 183 = .ok (.iload_n 1, 1) := by decide +kernel
theorem dX5_countsAll_184 : decode cX5_countsAll 184 = .ok (.invokevirtual 119, 3) := by decide +kernel
theorem dX5_countsAll_187 : decode cX5_countsAll 187 = .ok (.iinc 4 1, 3) := by decide +kernel
theorem dX5_countsAll_190 : decode cX5_countsAll 190 = .ok (.goto (-55), 3) := by decide +kernel
theorem dX5_countsAll_193 : decode cX5_countsAll 193 = .ok (.iinc 2 1, 3) := by decide +kernel
theorem dX5_countsAll_196 : decode cX5_countsAll 196 = .ok (.goto (-89), 3) := by decide +kernel
theorem dX5_countsAll_199 : decode cX5_countsAll 199 = .ok (.return_, 1) := by decide +kernel
set_option maxRecDepth 20000 in
theorem ggX5_countsRest_X5_many : GoodIn wsX5_countsRest wsX5_many := goodIn_r _ [6] (by decide +kernel) (by decide +kernel)
set_option maxRecDepth 20000 in
theorem gX5_countsRest_X5_many : GoodIn wsX5_countsRest (va_wsS RX5 65 yX5_many wsX5_many) := goodIn_app (goodIn_of _ (by decide +kernel)) ggX5_countsRest_X5_many
set_option maxRecDepth 20000 in
theorem ggX5_countsRest_X5_counts : GoodIn wsX5_countsRest wsX5_counts := goodIn_r _ [10, 11, 12, 1, 13, 2, 14, 15, 16, 17, 18, 19, 20, 21, 5, 22, 3, 4, 6, 23, 24, 25, 26, 27, 28, 29, 30, 31, 32, 33, 34, 35, 36, 37, 38, 39, 40, 41, 42] (by decide +kernel) (by decide +kernel)
set_option maxRecDepth 20000 in
theorem gX5_countsRest_X5_counts : GoodIn wsX5_countsRest (wsV RX5 123 RX5 yX5_counts wsX5_counts) := goodIn_app (goodIn_of _ (by decide +kernel)) ggX5_countsRest_X5_counts
theorem dX5_countsRest_0 : decode cX5_countsRest 0 = .ok (.iconst 0, 1) := by decide +kernel
theorem dX5_countsRest_1 : decode cX5_countsRest 1 = .ok (.istore 4, 2) := by decide +kernel
theorem dX5_countsRest_3 : decode cX5_countsRest 3 = .ok (.iload 4, 2) := by decide +kernel
theorem dX5_countsRest_5 : decode cX5_countsRest 5 = .ok (.sipush 256, 3) := by decide +kernel
theorem dX5_countsRest_8 : decode cX5_countsRest 8 = .ok (.if_icmp .ge 118, 3) := by decide +kernel
theorem dX5_countsRest_11 : decode cX5_countsRest 11 = .ok (.iload 4, 2) := by decide +kernel
theorem dX5_countsRest_13 : decode cX5_countsRest 13 = .ok (.iload_n 2, 1) := by decide +kernel
theorem dX5_countsRest_14 : decode cX5_countsRest 14 = .ok (.iconst (-1), 1) := by decide +kernel
theorem dX5_countsRest_15 : decode cX5_countsRest 15 = .ok (.ixor, 1) := by decide +kernel
theorem dX5_countsRest_16 : decode cX5_countsRest 16 = .ok (.iand, 1) := by decide +kernel
theorem dX5_countsRest_17 : decode cX5_countsRest 17 = .ok (.ifCond .ne 103, 3) := by decide +kernel
theorem dX5_countsRest_20 : decode cX5_countsRest 20 = .ok (.iload 4, 2) := by decide +kernel
theorem dX5_countsRest_22 : decode cX5_countsRest 22 = .ok (.invokestatic 65, 3) := by decide +kernel
theorem dX5_countsRest_25 : decode cX5_countsRest 25 = .ok (.aload_n 0, 1) := by decide +kernel
theorem dX5_countsRest_26 : decode cX5_countsRest 26 = .ok (.getfield 7, 3) := by decide +kernel
theorem dX5_countsRest_29 : decode cX5_countsRest 29 = .ok (.bipush 10, 2) := by decide +kernel
theorem dX5_countsRest_31 : decode cX5_countsRest 31 = .ok (.iaload, 1) := by decide +kernel
theorem dX5_countsRest_32 : decode cX5_countsRest 32 = .ok (.if_icmp .ne 88, 3) := by decide +kernel
theorem dX5_countsRest_35 : decode cX5_countsRest 35 = .ok (.aload_n 0, 1) := by decide +kernel
theorem dX5_countsRest_36 : decode cX5_countsRest 36 = .ok (.getfield 37, 3) := by decide +kernel
theorem dX5_countsRest_39 : decode cX5_countsRest 39 = .ok (.iconst 1, 1) := by decide +kernel
theorem dX5_countsRest_40 : decode cX5_countsRest 40 = .ok (.iload 4, 2) := by decide +kernel
theorem dX5_countsRest_42 : decode cX5_countsRest 42 = .ok (.iastore, 1) := by decide +kernel
theorem dX5_countsRest_43 : decode cX5_countsRest 43 = .ok (.iload_n 2, 1) := by decide +kernel
theorem dX5_countsRest_44 : decode cX5_countsRest 44 = .ok (.iload 4, 2) := by decide +kernel
theorem dX5_countsRest_46 : decode cX5_countsRest 46 = .ok (.iconst (-1), 1) := by decide +kernel
theorem dX5_countsRest_47 : decode cX5_countsRest 47 = .ok (.ixor, 1) := by decide +kernel
theorem dX5_countsRest_48 : decode cX5_countsRest 48 = .ok (.iand, 1) := by decide +kernel
theorem dX5_countsRest_49 : decode cX5_countsRest 49 = .ok (.istore 5, 2) := by decide +kernel
theorem dX5_countsRest_51 : decode cX5_countsRest 51 = .ok (.iconst 0, 1) := by decide +kernel
theorem dX5_countsRest_52 : decode cX5_countsRest 52 = .ok (.istore 6, 2) := by decide +kernel
theorem dX5_countsRest_54 : decode cX5_countsRest 54 = .ok (.iload 6, 2) := by decide +kernel
theorem dX5_countsRest_56 : decode cX5_countsRest 56 = .ok (.sipush 256, 3) := by decide +kernel
theorem dX5_countsRest_59 : decode cX5_countsRest 59 = .ok (.if_icmp .ge 61, 3) := by decide +kernel
theorem dX5_countsRest_62 : decode cX5_countsRest 62 = .ok (.iload 6, 2) := by decide +kernel
theorem dX5_countsRest_64 : decode cX5_countsRest 64 = .ok (.iload 5, 2) := by decide +kernel
theorem dX5_countsRest_66 : decode cX5_countsRest 66 = .ok (.iconst (-1), 1) := by decide +kernel
theorem dX5_countsRest_67 : decode cX5_countsRest 67 = .ok (.ixor, 1) := by decide +kernel
theorem dX5_countsRest_68 : decode cX5_countsRest 68 = .ok (.iand, 1) := by decide +kernel
theorem dX5_countsRest_69 : decode cX5_countsRest 69 = .ok (.ifCond .ne 45, 3) := by decide +kernel
theorem dX5_countsRest_72 : decode cX5_countsRest 72 = .ok (.iload 6, 2) := by decide +kernel
theorem dX5_countsRest_74 : decode cX5_countsRest 74 = .ok (.invokestatic 65, 3) := by decide +kernel
theorem dX5_countsRest_77 : decode cX5_countsRest 77 = .ok (.aload_n 0, 1) := by decide +kernel
theorem dX5_countsRest_78 : decode cX5_countsRest 78 = .ok (.getfield 7, 3) := by decide +kernel
theorem dX5_countsRest_81 : decode cX5_countsRest 81 = .ok (.bipush 11, 2) := by decide +kernel
theorem dX5_countsRest_83 : decode cX5_countsRest 83 = .ok (.iaload, 1) := by decide +kernel
theorem dX5_countsRest_84 : decode cX5_countsRest 84 = .ok (.if_icmp .ne 30, 3) := by decide +kernel
theorem dX5_countsRest_87 : decode cX5_countsRest 87 = .ok (.aload_n 0, 1) := by decide +kernel
theorem dX5_countsRest_88 : decode cX5_countsRest 88 = .ok (.getfield 37, 3) := by decide +kernel
theorem dX5_countsRest_91 : decode cX5_countsRest 91 = .ok (.iconst 2, 1) := by decide +kernel
theorem dX5_countsRest_92 : decode cX5_countsRest 92 = .ok (.iload 6, 2) := by decide +kernel
theorem dX5_countsRest_94 : decode cX5_countsRest 94 = .ok (.iastore, 1) := by decide +kernel
theorem dX5_countsRest_95 : decode cX5_countsRest 95 = .ok (.aload_n 0, 1) := by decide +kernel
theorem dX5_countsRest_96 : decode cX5_countsRest 96 = .ok (.getfield 37, 3) := by decide +kernel
theorem dX5_countsRest_99 : decode cX5_countsRest 99 = .ok (.iconst 3, 1) := by decide +kernel
theorem dX5_countsRest_100 : decode cX5_countsRest 100 = .ok (.iload 5, 2) := by decide +kernel
theorem dX5_countsRest_102 : decode cX5_countsRest 102 = .ok (.iload 6, 2) := by decide +kernel
theorem dX5_countsRest_104 : decode cX5_countsRest 104 = .ok (.iconst (-1), 1) := by decide +kernel
theorem dX5_countsRest_105 : decode cX5_countsRest 105 = .ok (.ixor, 1) := by decide +kernel
theorem dX5_countsRest_106 : decode cX5_countsRest 106 = .ok (.iand, 1) := by decide +kernel
theorem dX5_countsRest_107 : decode cX5_countsRest 107 = .ok (.iastore, 1) := by decide +kernel
theorem dX5_countsRest_108 : decode cX5_countsRest 108 = .ok (.aload_n 0, 1) := by decide +kernel
theorem dX5_countsRest_109 : decode cX5_countsRest 109 = .ok (.iload_n 1, 1) := by decide +kernel
theorem dX5_countsRest_110 : decode cX5_countsRest 110 = .ok (.iload_n 3, 1) := by decide +kernel
theorem dX5_countsRest_111 : decode cX5_countsRest 111 = .ok (.invokevirtual 123, 3) := by decide +kernel
theorem dX5_countsRest_114 : decode cX5_countsRest 114 = .ok (.iinc 6 1, 3) := by decide +kernel
theorem dX5_countsRest_117 : decode cX5_countsRest 117 = .ok (.goto (-63), 3) := by decide +kernel
theorem dX5_countsRest_120 : decode cX5_countsRest 120 = .ok (.iinc 4 1, 3) := by decide +kernel
theorem dX5_countsRest_123 : decode cX5_countsRest 123 = .ok (.goto (-120), 3) := by decide +kernel
theorem dX5_countsRest_126 : decode cX5_countsRest 126 = .ok (.return_, 1) := by decide +kernel
theorem dX5_tellGuest_0 : decode cX5_tellGuest 0 = .ok (.iload_n 2, 1) := by decide +kernel
theorem dX5_tellGuest_1 : decode cX5_tellGuest 1 = .ok (.tableswitch 134 0 6 #[43, 53, 63, 73, 83, 101, 108], 43) := by decide +kernel
theorem dX5_tellGuest_44 : decode cX5_tellGuest 44 = .ok (.aload_n 0, 1) := by decide +kernel
theorem dX5_tellGuest_45 : decode cX5_tellGuest 45 = .ok (.getfield 7, 3) := by decide +kernel
theorem dX5_tellGuest_48 : decode cX5_tellGuest 48 = .ok (.bipush 9, 2) := by decide +kernel
theorem dX5_tellGuest_50 : decode cX5_tellGuest 50 = .ok (.iload_n 1, 1) := by decide +kernel
theorem dX5_tellGuest_51 : decode cX5_tellGuest 51 = .ok (.iadd, 1) := by decide +kernel
theorem dX5_tellGuest_52 : decode cX5_tellGuest 52 = .ok (.iaload, 1) := by decide +kernel
theorem dX5_tellGuest_53 : decode cX5_tellGuest 53 = .ok (.ireturn, 1) := by decide +kernel
theorem dX5_tellGuest_54 : decode cX5_tellGuest 54 = .ok (.aload_n 0, 1) := by decide +kernel
theorem dX5_tellGuest_55 : decode cX5_tellGuest 55 = .ok (.getfield 7, 3) := by decide +kernel
theorem dX5_tellGuest_58 : decode cX5_tellGuest 58 = .ok (.bipush 17, 2) := by decide +kernel
theorem dX5_tellGuest_60 : decode cX5_tellGuest 60 = .ok (.iload_n 1, 1) := by decide +kernel
theorem dX5_tellGuest_61 : decode cX5_tellGuest 61 = .ok (.iadd, 1) := by decide +kernel
theorem dX5_tellGuest_62 : decode cX5_tellGuest 62 = .ok (.iaload, 1) := by decide +kernel
theorem dX5_tellGuest_63 : decode cX5_tellGuest 63 = .ok (.ireturn, 1) := by decide +kernel
theorem dX5_tellGuest_64 : decode cX5_tellGuest 64 = .ok (.aload_n 0, 1) := by decide +kernel
theorem dX5_tellGuest_65 : decode cX5_tellGuest 65 = .ok (.getfield 7, 3) := by decide +kernel
theorem dX5_tellGuest_68 : decode cX5_tellGuest 68 = .ok (.bipush 25, 2) := by decide +kernel
theorem dX5_tellGuest_70 : decode cX5_tellGuest 70 = .ok (.iload_n 1, 1) := by decide +kernel
theorem dX5_tellGuest_71 : decode cX5_tellGuest 71 = .ok (.iadd, 1) := by decide +kernel
theorem dX5_tellGuest_72 : decode cX5_tellGuest 72 = .ok (.iaload, 1) := by decide +kernel
theorem dX5_tellGuest_73 : decode cX5_tellGuest 73 = .ok (.ireturn, 1) := by decide +kernel
theorem dX5_tellGuest_74 : decode cX5_tellGuest 74 = .ok (.aload_n 0, 1) := by decide +kernel
theorem dX5_tellGuest_75 : decode cX5_tellGuest 75 = .ok (.getfield 7, 3) := by decide +kernel
theorem dX5_tellGuest_78 : decode cX5_tellGuest 78 = .ok (.bipush 29, 2) := by decide +kernel
theorem dX5_tellGuest_80 : decode cX5_tellGuest 80 = .ok (.iload_n 1, 1) := by decide +kernel
theorem dX5_tellGuest_81 : decode cX5_tellGuest 81 = .ok (.iadd, 1) := by decide +kernel
theorem dX5_tellGuest_82 : decode cX5_tellGuest 82 = .ok (.iaload, 1) := by decide +kernel
theorem dX5_tellGuest_83 : decode cX5_tellGuest 83 = .ok (.ireturn, 1) := by decide +kernel
theorem dX5_tellGuest_84 : decode cX5_tellGuest 84 = .ok (.aload_n 0, 1) := by decide +kernel
theorem dX5_tellGuest_85 : decode cX5_tellGuest 85 = .ok (.getfield 116, 3) := by decide +kernel
theorem dX5_tellGuest_88 : decode cX5_tellGuest 88 = .ok (.ifCond .ne 7, 3) := by decide +kernel
theorem dX5_tellGuest_91 : decode cX5_tellGuest 91 = .ok (.iconst 0, 1) := by decide +kernel
theorem dX5_tellGuest_92 : decode cX5_tellGuest 92 = .ok (.goto 9, 3) := by decide +kernel
theorem dX5_tellGuest_95 : decode cX5_tellGuest 95 = .ok (.aload_n 0, 1) := by decide +kernel
theorem dX5_tellGuest_96 : decode cX5_tellGuest 96 = .ok (.getfield 25, 3) := by decide +kernel
theorem dX5_tellGuest_99 : decode cX5_tellGuest 99 = .ok (.iload_n 1, 1) := by decide +kernel
theorem dX5_tellGuest_100 : decode cX5_tellGuest 100 = .ok (.iaload, 1) := by decide +kernel
theorem dX5_tellGuest_101 : decode cX5_tellGuest 101 = .ok (.ireturn, 1) := by decide +kernel
theorem dX5_tellGuest_102 : decode cX5_tellGuest 102 = .ok (.aload_n 0, 1) := by decide +kernel
theorem dX5_tellGuest_103 : decode cX5_tellGuest 103 = .ok (.getfield 28, 3) := by decide +kernel
theorem dX5_tellGuest_106 : decode cX5_tellGuest 106 = .ok (.iload_n 1, 1) := by decide +kernel
theorem dX5_tellGuest_107 : decode cX5_tellGuest 107 = .ok (.iaload, 1) := by decide +kernel
theorem dX5_tellGuest_108 : decode cX5_tellGuest 108 = .ok (.ireturn, 1) := by decide +kernel
theorem dX5_tellGuest_109 : decode cX5_tellGuest 109 = .ok (.aload_n 0, 1) := by decide +kernel
theorem dX5_tellGuest_110 : decode cX5_tellGuest 110 = .ok (.getfield 116, 3) := by decide +kernel
theorem dX5_tellGuest_113 : decode cX5_tellGuest 113 = .ok (.ifCond .le 20, 3) := by decide +kernel
theorem dX5_tellGuest_116 : decode cX5_tellGuest 116 = .ok (.aload_n 0, 1) := by decide +kernel
theorem dX5_tellGuest_117 : decode cX5_tellGuest 117 = .ok (.getfield 31, 3) := by decide +kernel
theorem dX5_tellGuest_120 : decode cX5_tellGuest 120 = .ok (.iload_n 1, 1) := by decide +kernel
theorem dX5_tellGuest_121 : decode cX5_tellGuest 121 = .ok (.iaload, 1) := by decide +kernel
theorem dX5_tellGuest_122 : decode cX5_tellGuest 122 = .ok (.aload_n 0, 1) := by decide +kernel
theorem dX5_tellGuest_123 : decode cX5_tellGuest 123 = .ok (.getfield 116, 3) := by decide +kernel
theorem dX5_tellGuest_126 : decode cX5_tellGuest 126 = .ok (.if_icmp .ne 7, 3) := by decide +kernel
theorem dX5_tellGuest_129 : decode cX5_tellGuest 129 = .ok (.iconst 1, 1) := by decide +kernel
theorem dX5_tellGuest_130 : decode cX5_tellGuest 130 = .ok (.goto 4, 3) := by decide +kernel
theorem dX5_tellGuest_133 : decode cX5_tellGuest 133 = .ok (.iconst 0, 1) := by decide +kernel
theorem dX5_tellGuest_134 : decode cX5_tellGuest 134 = .ok (.ireturn, 1) := by decide +kernel
theorem dX5_tellGuest_135 : decode cX5_tellGuest 135 = .ok (.aload_n 0, 1) := by decide +kernel
theorem dX5_tellGuest_136 : decode cX5_tellGuest 136 = .ok (.getfield 7, 3) := by decide +kernel
theorem dX5_tellGuest_139 : decode cX5_tellGuest 139 = .ok (.iconst 1, 1) := by decide +kernel
theorem dX5_tellGuest_140 : decode cX5_tellGuest 140 = .ok (.iaload, 1) := by decide +kernel
theorem dX5_tellGuest_141 : decode cX5_tellGuest 141 = .ok (.iconst 1, 1) := by decide +kernel
theorem dX5_tellGuest_142 : decode cX5_tellGuest 142 = .ok (.if_icmp .ne 7, 3) := by decide +kernel
theorem dX5_tellGuest_145 : decode cX5_tellGuest 145 = .ok (.iconst (-1), 1) := by decide +kernel
theorem dX5_tellGuest_146 : decode cX5_tellGuest 146 = .ok (.goto 12, 3) := by decide +kernel
theorem dX5_tellGuest_149 : decode cX5_tellGuest 149 = .ok (.aload_n 0, 1) := by decide +kernel
theorem dX5_tellGuest_150 : decode cX5_tellGuest 150 = .ok (.getfield 7, 3) := by decide +kernel
theorem dX5_tellGuest_153 : decode cX5_tellGuest 153 = .ok (.bipush 13, 2) := by decide +kernel
theorem dX5_tellGuest_155 : decode cX5_tellGuest 155 = .ok (.iload_n 1, 1) := by decide +kernel
theorem dX5_tellGuest_156 : decode cX5_tellGuest 156 = .ok (.iadd, 1) := by decide +kernel
theorem dX5_tellGuest_157 : decode cX5_tellGuest 157 = .ok (.iaload, 1) := by decide +kernel
theorem dX5_tellGuest_158 : decode cX5_tellGuest 158 = .ok (.ireturn, 1) := by decide +kernel
set_option maxRecDepth 20000 in
theorem ggX5_guest_X5_isGuest : GoodIn wsX5_guest wsX5_isGuest := goodIn_r _ [5, 6, 7, 8, 4, 9, 47, 48, 49, 50, 51, 52, 53, 54, 55, 56, 57, 58, 59, 60, 61, 62, 63, 64, 65, 66] (by decide +kernel) (by decide +kernel)
set_option maxRecDepth 20000 in
theorem gX5_guest_X5_isGuest : GoodIn wsX5_guest (wsV RX5 84 RX5 yX5_isGuest wsX5_isGuest) := goodIn_app (goodIn_of _ (by decide +kernel)) ggX5_guest_X5_isGuest
set_option maxRecDepth 20000 in
theorem ggX5_guest_X5_in : GoodIn wsX5_guest wsX5_in := goodIn_r _ [9] (by decide +kernel) (by decide +kernel)
set_option maxRecDepth 20000 in
theorem gX5_guest_X5_in : GoodIn wsX5_guest (va_wsS RX5 61 yX5_in wsX5_in) := goodIn_app (goodIn_of _ (by decide +kernel)) ggX5_guest_X5_in
set_option maxRecDepth 20000 in
theorem ggX5_guest_X5_refused : GoodIn wsX5_guest wsX5_refused := goodIn_r _ [13, 14, 47, 48, 49, 50, 51, 52, 53, 54, 55, 56, 57, 58, 59, 60, 61, 62, 63, 64, 65, 66] (by decide +kernel) (by decide +kernel)
set_option maxRecDepth 20000 in
theorem gX5_guest_X5_refused : GoodIn wsX5_guest (wsV RX5 50 RX5 yX5_refused wsX5_refused) := goodIn_app (goodIn_of _ (by decide +kernel)) ggX5_guest_X5_refused
set_option maxRecDepth 20000 in
theorem ggX5_guest_X5_countsAll : GoodIn wsX5_guest wsX5_countsAll := goodIn_r _ [18, 19, 20, 21, 22, 23, 24, 25, 6, 26, 27, 28, 4, 29, 30, 31, 32, 33, 34, 35, 36, 37, 38, 39, 40, 41, 42, 47, 48, 49, 50, 51, 52, 53, 54, 55, 56, 57, 58, 59, 60, 61, 62, 63, 64, 65, 66] (by decide +kernel) (by decide +kernel)
set_option maxRecDepth 20000 in
theorem gX5_guest_X5_countsAll : GoodIn wsX5_guest (wsV RX5 126 RX5 yX5_countsAll wsX5_countsAll) := goodIn_app (goodIn_of _ (by decide +kernel)) ggX5_guest_X5_countsAll
set_option maxRecDepth 20000 in
theorem ggX5_guest_X5_tellGuest : GoodIn wsX5_guest wsX5_tellGuest := goodIn_r _ [46, 6, 19, 23, 24, 25, 47, 48, 49, 50, 51, 52, 53, 54, 55, 56, 57, 58, 59, 60, 61, 62, 63, 64, 65, 66] (by decide +kernel) (by decide +kernel)
set_option maxRecDepth 20000 in
theorem gX5_guest_X5_tellGuest : GoodIn wsX5_guest (wsV RX5 130 RX5 yX5_tellGuest wsX5_tellGuest) := goodIn_app (goodIn_of _ (by decide +kernel)) ggX5_guest_X5_tellGuest
theorem dX5_guest_0 : decode cX5_guest 0 = .ok (.aload_n 0, 1) := by decide +kernel
theorem dX5_guest_1 : decode cX5_guest 1 = .ok (.aload_n 0, 1) := by decide +kernel
theorem dX5_guest_2 : decode cX5_guest 2 = .ok (.iload_n 1, 1) := by decide +kernel
theorem dX5_guest_3 : decode cX5_guest 3 = .ok (.invokevirtual 84, 3) := by decide +kernel
theorem dX5_guest_6 : decode cX5_guest 6 = .ok (.ifCond .ne 7, 3) := by decide +kernel
theorem dX5_guest_9 : decode cX5_guest 9 = .ok (.iconst 1, 1) := by decide +kernel
theorem dX5_guest_10 : decode cX5_guest 10 = .ok (.goto 18, 3) := by decide +kernel
theorem dX5_guest_13 : decode cX5_guest 13 = .ok (.iload_n 2, 1) := by decide +kernel
theorem dX5_guest_14 : decode cX5_guest 14 = .ok (.iconst 0, 1) := by decide +kernel
theorem dX5_guest_15 : decode cX5_guest 15 = .ok (.bipush 7, 2) := by decide +kernel
theorem dX5_guest_17 : decode cX5_guest 17 = .ok (.invokestatic 61, 3) := by decide +kernel
theorem dX5_guest_20 : decode cX5_guest 20 = .ok (.ifCond .eq 7, 3) := by decide +kernel
theorem dX5_guest_23 : decode cX5_guest 23 = .ok (.iconst 0, 1) := by decide +kernel
theorem dX5_guest_24 : decode cX5_guest 24 = .ok (.goto 4, 3) := by decide +kernel
theorem dX5_guest_27 : decode cX5_guest 27 = .ok (.iconst 2, 1) := by decide +kernel
theorem dX5_guest_28 : decode cX5_guest 28 = .ok (.invokevirtual 50, 3) := by decide +kernel
theorem dX5_guest_31 : decode cX5_guest 31 = .ok (.ifCond .eq 5, 3) := by decide +kernel
theorem dX5_guest_34 : decode cX5_guest 34 = .ok (.iconst 0, 1) := by decide +kernel
theorem dX5_guest_35 : decode cX5_guest 35 = .ok (.ireturn, 1) := by decide +kernel
theorem dX5_guest_36 : decode cX5_guest 36 = .ok (.aload_n 0, 1) := by decide +kernel
theorem dX5_guest_37 : decode cX5_guest 37 = .ok (.iconst (-1), 1) := by decide +kernel
theorem dX5_guest_38 : decode cX5_guest 38 = .ok (.invokevirtual 126, 3) := by decide +kernel
theorem dX5_guest_41 : decode cX5_guest 41 = .ok (.aload_n 0, 1) := by decide +kernel
theorem dX5_guest_42 : decode cX5_guest 42 = .ok (.iload_n 1, 1) := by decide +kernel
theorem dX5_guest_43 : decode cX5_guest 43 = .ok (.iload_n 2, 1) := by decide +kernel
theorem dX5_guest_44 : decode cX5_guest 44 = .ok (.invokevirtual 130, 3) := by decide +kernel
theorem dX5_guest_47 : decode cX5_guest 47 = .ok (.ireturn, 1) := by decide +kernel
set_option maxRecDepth 20000 in
theorem ggX5_tellValue_X5_present : GoodIn wsX5_tellValue wsX5_present := goodIn_r _ [6, 1, 7, 8, 9, 10, 11, 12, 13, 14, 15, 16, 17, 18, 19, 20, 21, 22, 23, 24, 25, 26] (by decide +kernel) (by decide +kernel)
set_option maxRecDepth 20000 in
theorem gX5_tellValue_X5_present : GoodIn wsX5_tellValue (wsV RX5 108 RX5 yX5_present wsX5_present) := goodIn_app (goodIn_of _ (by decide +kernel)) ggX5_tellValue_X5_present
theorem dX5_tellValue_0 : decode cX5_tellValue 0 = .ok (.iload_n 1, 1) := by decide +kernel
theorem dX5_tellValue_1 : decode cX5_tellValue 1 = .ok (.tableswitch 97 0 8 #[51, 51, 58, 66, 74, 74, 74, 85, 92], 51) := by decide +kernel
theorem dX5_tellValue_52 : decode cX5_tellValue 52 = .ok (.aload_n 0, 1) := by decide +kernel
theorem dX5_tellValue_53 : decode cX5_tellValue 53 = .ok (.getfield 7, 3) := by decide +kernel
theorem dX5_tellValue_56 : decode cX5_tellValue 56 = .ok (.iload_n 1, 1) := by decide +kernel
theorem dX5_tellValue_57 : decode cX5_tellValue 57 = .ok (.iaload, 1) := by decide +kernel
theorem dX5_tellValue_58 : decode cX5_tellValue 58 = .ok (.ireturn, 1) := by decide +kernel
theorem dX5_tellValue_59 : decode cX5_tellValue 59 = .ok (.aload_n 0, 1) := by decide +kernel
theorem dX5_tellValue_60 : decode cX5_tellValue 60 = .ok (.getfield 7, 3) := by decide +kernel
theorem dX5_tellValue_63 : decode cX5_tellValue 63 = .ok (.bipush 7, 2) := by decide +kernel
theorem dX5_tellValue_65 : decode cX5_tellValue 65 = .ok (.iaload, 1) := by decide +kernel
theorem dX5_tellValue_66 : decode cX5_tellValue 66 = .ok (.ireturn, 1) := by decide +kernel
theorem dX5_tellValue_67 : decode cX5_tellValue 67 = .ok (.aload_n 0, 1) := by decide +kernel
theorem dX5_tellValue_68 : decode cX5_tellValue 68 = .ok (.getfield 7, 3) := by decide +kernel
theorem dX5_tellValue_71 : decode cX5_tellValue 71 = .ok (.bipush 8, 2) := by decide +kernel
theorem dX5_tellValue_73 : decode cX5_tellValue 73 = .ok (.iaload, 1) := by decide +kernel
theorem dX5_tellValue_74 : decode cX5_tellValue 74 = .ok (.ireturn, 1) := by decide +kernel
theorem dX5_tellValue_75 : decode cX5_tellValue 75 = .ok (.aload_n 0, 1) := by decide +kernel
theorem dX5_tellValue_76 : decode cX5_tellValue 76 = .ok (.getfield 7, 3) := by decide +kernel
theorem dX5_tellValue_79 : decode cX5_tellValue 79 = .ok (.iconst 4, 1) := by decide +kernel
theorem dX5_tellValue_80 : decode cX5_tellValue 80 = .ok (.iload_n 1, 1) := by decide +kernel
theorem dX5_tellValue_81 : decode cX5_tellValue 81 = .ok (.iadd, 1) := by decide +kernel
theorem dX5_tellValue_82 : decode cX5_tellValue 82 = .ok (.iconst 4, 1) := by decide +kernel
theorem dX5_tellValue_83 : decode cX5_tellValue 83 = .ok (.isub, 1) := by decide +kernel
theorem dX5_tellValue_84 : decode cX5_tellValue 84 = .ok (.iaload, 1) := by decide +kernel
theorem dX5_tellValue_85 : decode cX5_tellValue 85 = .ok (.ireturn, 1) := by decide +kernel
theorem dX5_tellValue_86 : decode cX5_tellValue 86 = .ok (.aload_n 0, 1) := by decide +kernel
theorem dX5_tellValue_87 : decode cX5_tellValue 87 = .ok (.getfield 7, 3) := by decide +kernel
theorem dX5_tellValue_90 : decode cX5_tellValue 90 = .ok (.iconst 3, 1) := by decide +kernel
theorem dX5_tellValue_91 : decode cX5_tellValue 91 = .ok (.iaload, 1) := by decide +kernel
theorem dX5_tellValue_92 : decode cX5_tellValue 92 = .ok (.ireturn, 1) := by decide +kernel
theorem dX5_tellValue_93 : decode cX5_tellValue 93 = .ok (.aload_n 0, 1) := by decide +kernel
theorem dX5_tellValue_94 : decode cX5_tellValue 94 = .ok (.invokevirtual 108, 3) := by decide +kernel
theorem dX5_tellValue_97 : decode cX5_tellValue 97 = .ok (.ireturn, 1) := by decide +kernel
theorem dX5_tellValue_98 : decode cX5_tellValue 98 = .ok (.aload_n 0, 1) := by decide +kernel
theorem dX5_tellValue_99 : decode cX5_tellValue 99 = .ok (.getfield 7, 3) := by decide +kernel
theorem dX5_tellValue_102 : decode cX5_tellValue 102 = .ok (.iconst 1, 1) := by decide +kernel
theorem dX5_tellValue_103 : decode cX5_tellValue 103 = .ok (.iaload, 1) := by decide +kernel
theorem dX5_tellValue_104 : decode cX5_tellValue 104 = .ok (.iconst 1, 1) := by decide +kernel
theorem dX5_tellValue_105 : decode cX5_tellValue 105 = .ok (.if_icmp .ne 7, 3) := by decide +kernel
theorem dX5_tellValue_108 : decode cX5_tellValue 108 = .ok (.iconst (-1), 1) := by decide +kernel
theorem dX5_tellValue_109 : decode cX5_tellValue 109 = .ok (.goto 9, 3) := by decide +kernel
theorem dX5_tellValue_112 : decode cX5_tellValue 112 = .ok (.aload_n 0, 1) := by decide +kernel
theorem dX5_tellValue_113 : decode cX5_tellValue 113 = .ok (.getfield 7, 3) := by decide +kernel
theorem dX5_tellValue_116 : decode cX5_tellValue 116 = .ok (.iconst 2, 1) := by decide +kernel
theorem dX5_tellValue_117 : decode cX5_tellValue 117 = .ok (.iaload, 1) := by decide +kernel
theorem dX5_tellValue_118 : decode cX5_tellValue 118 = .ok (.ireturn, 1) := by decide +kernel
set_option maxRecDepth 20000 in
theorem ggX5_value_X5_in : GoodIn wsX5_value wsX5_in := goodIn_r _ [4] (by decide +kernel) (by decide +kernel)
set_option maxRecDepth 20000 in
theorem gX5_value_X5_in : GoodIn wsX5_value (va_wsS RX5 61 yX5_in wsX5_in) := goodIn_app (goodIn_of _ (by decide +kernel)) ggX5_value_X5_in
set_option maxRecDepth 20000 in
theorem ggX5_value_X5_refused : GoodIn wsX5_value wsX5_refused := goodIn_r _ [8, 9, 19, 20, 21, 22, 23, 24, 25, 26, 27, 28, 29, 30, 31, 32, 33, 34, 35, 36, 37, 38] (by decide +kernel) (by decide +kernel)
set_option maxRecDepth 20000 in
theorem gX5_value_X5_refused : GoodIn wsX5_value (wsV RX5 50 RX5 yX5_refused wsX5_refused) := goodIn_app (goodIn_of _ (by decide +kernel)) ggX5_value_X5_refused
set_option maxRecDepth 20000 in
theorem ggX5_value_X5_tellValue : GoodIn wsX5_value wsX5_tellValue := goodIn_r _ [13, 14, 15, 16, 17, 3, 18, 19, 20, 21, 22, 23, 24, 25, 26, 27, 28, 29, 30, 31, 32, 33, 34, 35, 36, 37, 38] (by decide +kernel) (by decide +kernel)
set_option maxRecDepth 20000 in
theorem gX5_value_X5_tellValue : GoodIn wsX5_value (wsV RX5 133 RX5 yX5_tellValue wsX5_tellValue) := goodIn_app (goodIn_of _ (by decide +kernel)) ggX5_value_X5_tellValue
theorem dX5_value_0 : decode cX5_value 0 = .ok (.aload_n 0, 1) := by decide +kernel
theorem dX5_value_1 : decode cX5_value 1 = .ok (.iload_n 1, 1) := by decide +kernel
theorem dX5_value_2 : decode cX5_value 2 = .ok (.iconst 0, 1) := by decide +kernel
theorem dX5_value_3 : decode cX5_value 3 = .ok (.bipush 9, 2) := by decide +kernel
theorem dX5_value_5 : decode cX5_value 5 = .ok (.invokestatic 61, 3) := by decide +kernel
theorem dX5_value_8 : decode cX5_value 8 = .ok (.ifCond .eq 7, 3) := by decide +kernel
theorem dX5_value_11 : decode cX5_value 11 = .ok (.iconst 0, 1) := by decide +kernel
theorem dX5_value_12 : decode cX5_value 12 = .ok (.goto 4, 3) := by decide +kernel
theorem dX5_value_15 : decode cX5_value 15 = .ok (.iconst 1, 1) := by decide +kernel
theorem dX5_value_16 : decode cX5_value 16 = .ok (.invokevirtual 50, 3) := by decide +kernel
theorem dX5_value_19 : decode cX5_value 19 = .ok (.ifCond .eq 7, 3) := by decide +kernel
theorem dX5_value_22 : decode cX5_value 22 = .ok (.iconst 0, 1) := by decide +kernel
theorem dX5_value_23 : decode cX5_value 23 = .ok (.goto 8, 3) := by decide +kernel
theorem dX5_value_26 : decode cX5_value 26 = .ok (.aload_n 0, 1) := by decide +kernel
theorem dX5_value_27 : decode cX5_value 27 = .ok (.iload_n 1, 1) := by decide +kernel
theorem dX5_value_28 : decode cX5_value 28 = .ok (.invokevirtual 133, 3) := by decide +kernel
theorem dX5_value_31 : decode cX5_value 31 = .ok (.ireturn, 1) := by decide +kernel
set_option maxRecDepth 20000 in
theorem ggX5_question_X5_in : GoodIn wsX5_question wsX5_in := goodIn_r _ [5] (by decide +kernel) (by decide +kernel)
set_option maxRecDepth 20000 in
theorem gX5_question_X5_in : GoodIn wsX5_question (va_wsS RX5 61 yX5_in wsX5_in) := goodIn_app (goodIn_of _ (by decide +kernel)) ggX5_question_X5_in
set_option maxRecDepth 20000 in
theorem ggX5_question_X5_refused : GoodIn wsX5_question wsX5_refused := goodIn_r _ [9, 10, 11, 12, 13, 14, 15, 16, 17, 18, 19, 20, 21, 22, 23, 24, 25, 26, 27, 28, 29, 30] (by decide +kernel) (by decide +kernel)
set_option maxRecDepth 20000 in
theorem gX5_question_X5_refused : GoodIn wsX5_question (wsV RX5 50 RX5 yX5_refused wsX5_refused) := goodIn_app (goodIn_of _ (by decide +kernel)) ggX5_question_X5_refused
theorem dX5_question_0 : decode cX5_question 0 = .ok (.aload_n 0, 1) := by decide +kernel
theorem dX5_question_1 : decode cX5_question 1 = .ok (.iload_n 1, 1) := by decide +kernel
theorem dX5_question_2 : decode cX5_question 2 = .ok (.iconst 0, 1) := by decide +kernel
theorem dX5_question_3 : decode cX5_question 3 = .ok (.aload_n 0, 1) := by decide +kernel
theorem dX5_question_4 : decode cX5_question 4 = .ok (.getfield 7, 3) := by decide +kernel
theorem dX5_question_7 : decode cX5_question 7 = .ok (.bipush 7, 2) := by decide +kernel
theorem dX5_question_9 : decode cX5_question 9 = .ok (.iaload, 1) := by decide +kernel
theorem dX5_question_10 : decode cX5_question 10 = .ok (.iconst 1, 1) := by decide +kernel
theorem dX5_question_11 : decode cX5_question 11 = .ok (.isub, 1) := by decide +kernel
theorem dX5_question_12 : decode cX5_question 12 = .ok (.invokestatic 61, 3) := by decide +kernel
theorem dX5_question_15 : decode cX5_question 15 = .ok (.ifCond .ne 7, 3) := by decide +kernel
theorem dX5_question_18 : decode cX5_question 18 = .ok (.iconst 1, 1) := by decide +kernel
theorem dX5_question_19 : decode cX5_question 19 = .ok (.goto 17, 3) := by decide +kernel
theorem dX5_question_22 : decode cX5_question 22 = .ok (.iload_n 2, 1) := by decide +kernel
theorem dX5_question_23 : decode cX5_question 23 = .ok (.iconst 0, 1) := by decide +kernel
theorem dX5_question_24 : decode cX5_question 24 = .ok (.iconst 2, 1) := by decide +kernel
theorem dX5_question_25 : decode cX5_question 25 = .ok (.invokestatic 61, 3) := by decide +kernel
theorem dX5_question_28 : decode cX5_question 28 = .ok (.ifCond .eq 7, 3) := by decide +kernel
theorem dX5_question_31 : decode cX5_question 31 = .ok (.iconst 0, 1) := by decide +kernel
theorem dX5_question_32 : decode cX5_question 32 = .ok (.goto 4, 3) := by decide +kernel
theorem dX5_question_35 : decode cX5_question 35 = .ok (.iconst 2, 1) := by decide +kernel
theorem dX5_question_36 : decode cX5_question 36 = .ok (.invokevirtual 50, 3) := by decide +kernel
theorem dX5_question_39 : decode cX5_question 39 = .ok (.ifCond .eq 5, 3) := by decide +kernel
theorem dX5_question_42 : decode cX5_question 42 = .ok (.iconst 0, 1) := by decide +kernel
theorem dX5_question_43 : decode cX5_question 43 = .ok (.ireturn, 1) := by decide +kernel
theorem dX5_question_44 : decode cX5_question 44 = .ok (.aload_n 0, 1) := by decide +kernel
theorem dX5_question_45 : decode cX5_question 45 = .ok (.getfield 7, 3) := by decide +kernel
theorem dX5_question_48 : decode cX5_question 48 = .ok (.bipush 41, 2) := by decide +kernel
theorem dX5_question_50 : decode cX5_question 50 = .ok (.iconst 3, 1) := by decide +kernel
theorem dX5_question_51 : decode cX5_question 51 = .ok (.iload_n 1, 1) := by decide +kernel
theorem dX5_question_52 : decode cX5_question 52 = .ok (.imul, 1) := by decide +kernel
theorem dX5_question_53 : decode cX5_question 53 = .ok (.iadd, 1) := by decide +kernel
theorem dX5_question_54 : decode cX5_question 54 = .ok (.iload_n 2, 1) := by decide +kernel
theorem dX5_question_55 : decode cX5_question 55 = .ok (.iadd, 1) := by decide +kernel
theorem dX5_question_56 : decode cX5_question 56 = .ok (.iaload, 1) := by decide +kernel
theorem dX5_question_57 : decode cX5_question 57 = .ok (.ireturn, 1) := by decide +kernel
set_option maxRecDepth 20000 in
theorem ggX5_deals__X5_countsAll : GoodIn wsX5_deals_ wsX5_countsAll := goodIn_r _ [7, 2, 8, 9, 10, 11, 12, 13, 14, 15, 16, 17, 6, 18, 19, 20, 21, 22, 23, 24, 25, 26, 27, 28, 29, 30, 31, 32, 33, 34, 35, 36, 37, 38, 39, 40, 41, 42, 43, 44, 45, 46, 47, 48, 49, 50, 51] (by decide +kernel) (by decide +kernel)
set_option maxRecDepth 20000 in
theorem gX5_deals__X5_countsAll : GoodIn wsX5_deals_ (wsV RX5 126 RX5 yX5_countsAll wsX5_countsAll) := goodIn_app (goodIn_of _ (by decide +kernel)) ggX5_deals__X5_countsAll
theorem dX5_deals__0 : decode cX5_deals_ 0 = .ok (.aload_n 0, 1) := by decide +kernel
theorem dX5_deals__1 : decode cX5_deals_ 1 = .ok (.iconst 0, 1) := by decide +kernel
theorem dX5_deals__2 : decode cX5_deals_ 2 = .ok (.putfield 43, 3) := by decide +kernel
theorem dX5_deals__5 : decode cX5_deals_ 5 = .ok (.aload_n 0, 1) := by decide +kernel
theorem dX5_deals__6 : decode cX5_deals_ 6 = .ok (.iconst (-1), 1) := by decide +kernel
theorem dX5_deals__7 : decode cX5_deals_ 7 = .ok (.invokevirtual 126, 3) := by decide +kernel
theorem dX5_deals__10 : decode cX5_deals_ 10 = .ok (.aload_n 0, 1) := by decide +kernel
theorem dX5_deals__11 : decode cX5_deals_ 11 = .ok (.getfield 116, 3) := by decide +kernel
theorem dX5_deals__14 : decode cX5_deals_ 14 = .ok (.ireturn, 1) := by decide +kernel
set_option maxRecDepth 20000 in
theorem ggX5_dealsWith_X5_isCard : GoodIn wsX5_dealsWith wsX5_isCard := goodIn_r _ [5, 6, 7, 4, 8] (by decide +kernel) (by decide +kernel)
set_option maxRecDepth 20000 in
theorem gX5_dealsWith_X5_isCard : GoodIn wsX5_dealsWith (va_wsS RX5 98 yX5_isCard wsX5_isCard) := goodIn_app (goodIn_of _ (by decide +kernel)) ggX5_dealsWith_X5_isCard
set_option maxRecDepth 20000 in
theorem ggX5_dealsWith_X5_refused : GoodIn wsX5_dealsWith wsX5_refused := goodIn_r _ [12, 13, 42, 43, 44, 45, 46, 47, 48, 49, 50, 51, 52, 53, 54, 55, 56, 57, 58, 59, 60, 61] (by decide +kernel) (by decide +kernel)
set_option maxRecDepth 20000 in
theorem gX5_dealsWith_X5_refused : GoodIn wsX5_dealsWith (wsV RX5 50 RX5 yX5_refused wsX5_refused) := goodIn_app (goodIn_of _ (by decide +kernel)) ggX5_dealsWith_X5_refused
set_option maxRecDepth 20000 in
theorem ggX5_dealsWith_X5_countsAll : GoodIn wsX5_dealsWith wsX5_countsAll := goodIn_r _ [17, 18, 1, 19, 20, 21, 22, 23, 24, 25, 26, 27, 4, 28, 29, 30, 31, 32, 33, 34, 35, 36, 37, 38, 39, 40, 41, 42, 43, 44, 45, 46, 47, 48, 49, 50, 51, 52, 53, 54, 55, 56, 57, 58, 59, 60, 61] (by decide +kernel) (by decide +kernel)
set_option maxRecDepth 20000 in
theorem gX5_dealsWith_X5_countsAll : GoodIn wsX5_dealsWith (wsV RX5 126 RX5 yX5_countsAll wsX5_countsAll) := goodIn_app (goodIn_of _ (by decide +kernel)) ggX5_dealsWith_X5_countsAll
