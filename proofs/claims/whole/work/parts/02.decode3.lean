theorem dX1_isAhead_66 : decode cX1_isAhead 66 = .ok (.iload 9, 2) := by decide +kernel
theorem dX1_isAhead_68 : decode cX1_isAhead 68 = .ok (.ifCond .ne 18, 3) := by decide +kernel
theorem dX1_isAhead_71 : decode cX1_isAhead 71 = .ok (.aload_n 0, 1) := by decide +kernel
theorem dX1_isAhead_72 : decode cX1_isAhead 72 = .ok (.getfield 13, 3) := by decide +kernel
theorem dX1_isAhead_75 : decode cX1_isAhead 75 = .ok (.iload_n 1, 1) := by decide +kernel
theorem dX1_isAhead_76 : decode cX1_isAhead 76 = .ok (.iaload, 1) := by decide +kernel
theorem dX1_isAhead_77 : decode cX1_isAhead 77 = .ok (.iload 7, 2) := by decide +kernel
theorem dX1_isAhead_79 : decode cX1_isAhead 79 = .ok (.if_icmp .ge 7, 3) := by decide +kernel
theorem dX1_isAhead_82 : decode cX1_isAhead 82 = .ok (.iconst 1, 1) := by decide +kernel
theorem dX1_isAhead_83 : decode cX1_isAhead 83 = .ok (.goto 4, 3) := by decide +kernel
theorem dX1_isAhead_86 : decode cX1_isAhead 86 = .ok (.iconst 0, 1) := by decide +kernel
theorem dX1_isAhead_87 : decode cX1_isAhead 87 = .ok (.ireturn, 1) := by decide +kernel
theorem dX1_countAhead_0 : decode cX1_countAhead 0 = .ok (.iconst 0, 1) := by decide +kernel
theorem dX1_countAhead_1 : decode cX1_countAhead 1 = .ok (.istore 7, 2) := by decide +kernel
theorem dX1_countAhead_3 : decode cX1_countAhead 3 = .ok (.iconst 0, 1) := by decide +kernel
theorem dX1_countAhead_4 : decode cX1_countAhead 4 = .ok (.istore 8, 2) := by decide +kernel
theorem dX1_countAhead_6 : decode cX1_countAhead 6 = .ok (.iload 8, 2) := by decide +kernel
theorem dX1_countAhead_8 : decode cX1_countAhead 8 = .ok (.aload_n 0, 1) := by decide +kernel
theorem dX1_countAhead_9 : decode cX1_countAhead 9 = .ok (.getfield 47, 3) := by decide +kernel
theorem dX1_countAhead_12 : decode cX1_countAhead 12 = .ok (.if_icmp .ge 34, 3) := by decide +kernel
theorem dX1_countAhead_15 : decode cX1_countAhead 15 = .ok (.iload 7, 2) := by decide +kernel
theorem dX1_countAhead_17 : decode cX1_countAhead 17 = .ok (.aload_n 0, 1) := by decide +kernel
theorem dX1_countAhead_18 : decode cX1_countAhead 18 = .ok (.iload 8, 2) := by decide +kernel
theorem dX1_countAhead_20 : decode cX1_countAhead 20 = .ok (.iload_n 1, 1) := by decide +kernel
theorem dX1_countAhead_21 : decode cX1_countAhead 21 = .ok (.lload_n 2, 1) := by decide +kernel
theorem dX1_countAhead_22 : decode cX1_countAhead 22 = .ok (.lload 4, 2) := by decide +kernel
theorem dX1_countAhead_24 : decode cX1_countAhead 24 = .ok (.iload 6, 2) := by decide +kernel
theorem dX1_countAhead_26 : decode cX1_countAhead 26 = .ok (.invokevirtual 67, 3) := by decide +kernel
theorem dX1_countAhead_29 : decode cX1_countAhead 29 = .ok (.ifCond .eq 7, 3) := by decide +kernel
theorem dX1_countAhead_32 : decode cX1_countAhead 32 = .ok (.iconst 1, 1) := by decide +kernel
theorem dX1_countAhead_33 : decode cX1_countAhead 33 = .ok (.goto 4, 3) := by decide +kernel
theorem dX1_countAhead_36 : decode cX1_countAhead 36 = .ok (.iconst 0, 1) := by decide +kernel
theorem dX1_countAhead_37 : decode cX1_countAhead 37 = .ok (.iadd, 1) := by decide +kernel
theorem dX1_countAhead_38 : decode cX1_countAhead 38 = .ok (.istore 7, 2) := by decide +kernel
theorem dX1_countAhead_40 : decode cX1_countAhead 40 = .ok (.iinc 8 1, 3) := by decide +kernel
theorem dX1_countAhead_43 : decode cX1_countAhead 43 = .ok (.goto (-37), 3) := by decide +kernel
theorem dX1_countAhead_46 : decode cX1_countAhead 46 = .ok (.iload 7, 2) := by decide +kernel
theorem dX1_countAhead_48 : decode cX1_countAhead 48 = .ok (.ireturn, 1) := by decide +kernel
theorem dX1_ahead_0 : decode cX1_ahead 0 = .ok (.aload_n 0, 1) := by decide +kernel
theorem dX1_ahead_1 : decode cX1_ahead 1 = .ok (.iload_n 1, 1) := by decide +kernel
theorem dX1_ahead_2 : decode cX1_ahead 2 = .ok (.invokevirtual 39, 3) := by decide +kernel
theorem dX1_ahead_5 : decode cX1_ahead 5 = .ok (.ifCond .eq 23, 3) := by decide +kernel
theorem dX1_ahead_8 : decode cX1_ahead 8 = .ok (.aload_n 0, 1) := by decide +kernel
theorem dX1_ahead_9 : decode cX1_ahead 9 = .ok (.aload_n 0, 1) := by decide +kernel
theorem dX1_ahead_10 : decode cX1_ahead 10 = .ok (.getfield 26, 3) := by decide +kernel
theorem dX1_ahead_13 : decode cX1_ahead 13 = .ok (.aload_n 0, 1) := by decide +kernel
theorem dX1_ahead_14 : decode cX1_ahead 14 = .ok (.getfield 32, 3) := by decide +kernel
theorem dX1_ahead_17 : decode cX1_ahead 17 = .ok (.aload_n 0, 1) := by decide +kernel
theorem dX1_ahead_18 : decode cX1_ahead 18 = .ok (.getfield 36, 3) := by decide +kernel
theorem dX1_ahead_21 : decode cX1_ahead 21 = .ok (.iload_n 1, 1) := by decide +kernel
theorem dX1_ahead_22 : decode cX1_ahead 22 = .ok (.invokevirtual 71, 3) := by decide +kernel
theorem dX1_ahead_25 : decode cX1_ahead 25 = .ok (.goto 4, 3) := by decide +kernel
theorem dX1_ahead_28 : decode cX1_ahead 28 = .ok (.iconst (-1), 1) := by decide +kernel
theorem dX1_ahead_29 : decode cX1_ahead 29 = .ok (.ireturn, 1) := by decide +kernel
theorem dX1_at_0 : decode cX1_at 0 = .ok (.iload_n 1, 1) := by decide +kernel
theorem dX1_at_1 : decode cX1_at 1 = .ok (.ifCond .lt 11, 3) := by decide +kernel
theorem dX1_at_4 : decode cX1_at 4 = .ok (.iload_n 1, 1) := by decide +kernel
theorem dX1_at_5 : decode cX1_at 5 = .ok (.aload_n 0, 1) := by decide +kernel
theorem dX1_at_6 : decode cX1_at 6 = .ok (.getfield 47, 3) := by decide +kernel
theorem dX1_at_9 : decode cX1_at 9 = .ok (.if_icmp .lt 5, 3) := by decide +kernel
theorem dX1_at_12 : decode cX1_at 12 = .ok (.iconst (-1), 1) := by decide +kernel
theorem dX1_at_13 : decode cX1_at 13 = .ok (.ireturn, 1) := by decide +kernel
theorem dX1_at_14 : decode cX1_at 14 = .ok (.iconst 0, 1) := by decide +kernel
theorem dX1_at_15 : decode cX1_at 15 = .ok (.istore_n 2, 1) := by decide +kernel
theorem dX1_at_16 : decode cX1_at 16 = .ok (.aload_n 0, 1) := by decide +kernel
theorem dX1_at_17 : decode cX1_at 17 = .ok (.aload_n 0, 1) := by decide +kernel
theorem dX1_at_18 : decode cX1_at 18 = .ok (.getfield 7, 3) := by decide +kernel
theorem dX1_at_21 : decode cX1_at 21 = .ok (.iload_n 2, 1) := by decide +kernel
theorem dX1_at_22 : decode cX1_at 22 = .ok (.iaload, 1) := by decide +kernel
theorem dX1_at_23 : decode cX1_at 23 = .ok (.aload_n 0, 1) := by decide +kernel
theorem dX1_at_24 : decode cX1_at 24 = .ok (.getfield 19, 3) := by decide +kernel
theorem dX1_at_27 : decode cX1_at 27 = .ok (.iload_n 2, 1) := by decide +kernel
theorem dX1_at_28 : decode cX1_at 28 = .ok (.laload, 1) := by decide +kernel
theorem dX1_at_29 : decode cX1_at 29 = .ok (.aload_n 0, 1) := by decide +kernel
theorem dX1_at_30 : decode cX1_at 30 = .ok (.getfield 23, 3) := by decide +kernel
theorem dX1_at_33 : decode cX1_at 33 = .ok (.iload_n 2, 1) := by decide +kernel
theorem dX1_at_34 : decode cX1_at 34 = .ok (.laload, 1) := by decide +kernel
theorem dX1_at_35 : decode cX1_at 35 = .ok (.aload_n 0, 1) := by decide +kernel
theorem dX1_at_36 : decode cX1_at 36 = .ok (.getfield 13, 3) := by decide +kernel
theorem dX1_at_39 : decode cX1_at 39 = .ok (.iload_n 2, 1) := by decide +kernel
theorem dX1_at_40 : decode cX1_at 40 = .ok (.iaload, 1) := by decide +kernel
theorem dX1_at_41 : decode cX1_at 41 = .ok (.invokevirtual 71, 3) := by decide +kernel
theorem dX1_at_44 : decode cX1_at 44 = .ok (.iload_n 1, 1) := by decide +kernel
theorem dX1_at_45 : decode cX1_at 45 = .ok (.if_icmp .eq 9, 3) := by decide +kernel
theorem dX1_at_48 : decode cX1_at 48 = .ok (.iinc 2 1, 3) := by decide +kernel
theorem dX1_at_51 : decode cX1_at 51 = .ok (.goto (-35), 3) := by decide +kernel
theorem dX1_at_54 : decode cX1_at 54 = .ok (.aload_n 0, 1) := by decide +kernel
theorem dX1_at_55 : decode cX1_at 55 = .ok (.aload_n 0, 1) := by decide +kernel
theorem dX1_at_56 : decode cX1_at 56 = .ok (.getfield 7, 3) := by decide +kernel
theorem dX1_at_59 : decode cX1_at 59 = .ok (.iload_n 2, 1) := by decide +kernel
theorem dX1_at_60 : decode cX1_at 60 = .ok (.iaload, 1) := by decide +kernel
theorem dX1_at_61 : decode cX1_at 61 = .ok (.putfield 26, 3) := by decide +kernel
theorem dX1_at_64 : decode cX1_at 64 = .ok (.aload_n 0, 1) := by decide +kernel
theorem dX1_at_65 : decode cX1_at 65 = .ok (.aload_n 0, 1) := by decide +kernel
theorem dX1_at_66 : decode cX1_at 66 = .ok (.getfield 19, 3) := by decide +kernel
theorem dX1_at_69 : decode cX1_at 69 = .ok (.iload_n 2, 1) := by decide +kernel
theorem dX1_at_70 : decode cX1_at 70 = .ok (.laload, 1) := by decide +kernel
theorem dX1_at_71 : decode cX1_at 71 = .ok (.putfield 32, 3) := by decide +kernel
theorem dX1_at_74 : decode cX1_at 74 = .ok (.aload_n 0, 1) := by decide +kernel
theorem dX1_at_75 : decode cX1_at 75 = .ok (.aload_n 0, 1) := by decide +kernel
theorem dX1_at_76 : decode cX1_at 76 = .ok (.getfield 23, 3) := by decide +kernel
theorem dX1_at_79 : decode cX1_at 79 = .ok (.iload_n 2, 1) := by decide +kernel
theorem dX1_at_80 : decode cX1_at 80 = .ok (.laload, 1) := by decide +kernel
theorem dX1_at_81 : decode cX1_at 81 = .ok (.putfield 36, 3) := by decide +kernel
theorem dX1_at_84 : decode cX1_at 84 = .ok (.aload_n 0, 1) := by decide +kernel
theorem dX1_at_85 : decode cX1_at 85 = .ok (.getfield 13, 3) := by decide +kernel
theorem dX1_at_88 : decode cX1_at 88 = .ok (.iload_n 2, 1) := by decide +kernel
theorem dX1_at_89 : decode cX1_at 89 = .ok (.iaload, 1) := by decide +kernel
theorem dX1_at_90 : decode cX1_at 90 = .ok (.ireturn, 1) := by decide +kernel
theorem dX1_size_0 : decode cX1_size 0 = .ok (.aload_n 0, 1) := by decide +kernel
theorem dX1_size_1 : decode cX1_size 1 = .ok (.getfield 47, 3) := by decide +kernel
theorem dX1_size_4 : decode cX1_size 4 = .ok (.ireturn, 1) := by decide +kernel
theorem dX1_told_0 : decode cX1_told 0 = .ok (.iload_n 1, 1) := by decide +kernel
theorem dX1_told_1 : decode cX1_told 1 = .ok (.ifCond .ne 11, 3) := by decide +kernel
theorem dX1_told_4 : decode cX1_told 4 = .ok (.aload_n 0, 1) := by decide +kernel
theorem dX1_told_5 : decode cX1_told 5 = .ok (.getfield 26, 3) := by decide +kernel
theorem dX1_told_8 : decode cX1_told 8 = .ok (.i2l, 1) := by decide +kernel
theorem dX1_told_9 : decode cX1_told 9 = .ok (.goto 28, 3) := by decide +kernel
theorem dX1_told_12 : decode cX1_told 12 = .ok (.iload_n 1, 1) := by decide +kernel
theorem dX1_told_13 : decode cX1_told 13 = .ok (.iconst 1, 1) := by decide +kernel
theorem dX1_told_14 : decode cX1_told 14 = .ok (.if_icmp .ne 10, 3) := by decide +kernel
theorem dX1_told_17 : decode cX1_told 17 = .ok (.aload_n 0, 1) := by decide +kernel
theorem dX1_told_18 : decode cX1_told 18 = .ok (.getfield 32, 3) := by decide +kernel
theorem dX1_told_21 : decode cX1_told 21 = .ok (.goto 16, 3) := by decide +kernel
theorem dX1_told_24 : decode cX1_told 24 = .ok (.iload_n 1, 1) := by decide +kernel
theorem dX1_told_25 : decode cX1_told 25 = .ok (.iconst 2, 1) := by decide +kernel
theorem dX1_told_26 : decode cX1_told 26 = .ok (.if_icmp .ne 10, 3) := by decide +kernel
theorem dX1_told_29 : decode cX1_told 29 = .ok (.aload_n 0, 1) := by decide +kernel
theorem dX1_told_30 : decode cX1_told 30 = .ok (.getfield 36, 3) := by decide +kernel
theorem dX1_told_33 : decode cX1_told 33 = .ok (.goto 4, 3) := by decide +kernel
theorem dX1_told_36 : decode cX1_told 36 = .ok (.lconst 0, 1) := by decide +kernel
theorem dX1_told_37 : decode cX1_told 37 = .ok (.lreturn, 1) := by decide +kernel
theorem dL_law_0 : decode cL_law 0 = .ok (.new 7, 3) := by decide +kernel
theorem dL_law_3 : decode cL_law 3 = .ok (.dup, 1) := by decide +kernel
theorem dL_law_4 : decode cL_law 4 = .ok (.invokespecial 9, 3) := by decide +kernel
theorem dL_law_7 : decode cL_law 7 = .ok (.astore_n 1, 1) := by decide +kernel
theorem dL_law_8 : decode cL_law 8 = .ok (.new 10, 3) := by decide +kernel
theorem dL_law_11 : decode cL_law 11 = .ok (.dup, 1) := by decide +kernel
theorem dL_law_12 : decode cL_law 12 = .ok (.invokespecial 12, 3) := by decide +kernel
theorem dL_law_15 : decode cL_law 15 = .ok (.astore_n 2, 1) := by decide +kernel
theorem dL_law_16 : decode cL_law 16 = .ok (.iconst 0, 1) := by decide +kernel
theorem dL_law_17 : decode cL_law 17 = .ok (.istore_n 3, 1) := by decide +kernel
theorem dL_law_18 : decode cL_law 18 = .ok (.iload_n 3, 1) := by decide +kernel
theorem dL_law_19 : decode cL_law 19 = .ok (.aload_n 0, 1) := by decide +kernel
theorem dL_law_20 : decode cL_law 20 = .ok (.arraylength, 1) := by decide +kernel
theorem dL_law_21 : decode cL_law 21 = .ok (.bipush 6, 2) := by decide +kernel
theorem dL_law_23 : decode cL_law 23 = .ok (.isub, 1) := by decide +kernel
theorem dL_law_24 : decode cL_law 24 = .ok (.if_icmp .gt 361, 3) := by decide +kernel
theorem dL_law_27 : decode cL_law 27 = .ok (.aload_n 0, 1) := by decide +kernel
theorem dL_law_28 : decode cL_law 28 = .ok (.iload_n 3, 1) := by decide +kernel
theorem dL_law_29 : decode cL_law 29 = .ok (.iaload, 1) := by decide +kernel
theorem dL_law_30 : decode cL_law 30 = .ok (.bipush 15, 2) := by decide +kernel
theorem dL_law_32 : decode cL_law 32 = .ok (.iand, 1) := by decide +kernel
theorem dL_law_33 : decode cL_law 33 = .ok (.tableswitch 346 0 9 #[55, 158, 191, 214, 237, 250, 263, 286, 309, 322], 55) := by decide +kernel
theorem dL_law_88 : decode cL_law 88 = .ok (.aload_n 1, 1) := by decide +kernel
theorem dL_law_89 : decode cL_law 89 = .ok (.aload_n 0, 1) := by decide +kernel
theorem dL_law_90 : decode cL_law 90 = .ok (.iload_n 3, 1) := by decide +kernel
theorem dL_law_91 : decode cL_law 91 = .ok (.iconst 1, 1) := by decide +kernel
theorem dL_law_92 : decode cL_law 92 = .ok (.iadd, 1) := by decide +kernel
theorem dL_law_93 : decode cL_law 93 = .ok (.iaload, 1) := by decide +kernel
theorem dL_law_94 : decode cL_law 94 = .ok (.aload_n 0, 1) := by decide +kernel
theorem dL_law_95 : decode cL_law 95 = .ok (.iload_n 3, 1) := by decide +kernel
theorem dL_law_96 : decode cL_law 96 = .ok (.iconst 2, 1) := by decide +kernel
theorem dL_law_97 : decode cL_law 97 = .ok (.iadd, 1) := by decide +kernel
theorem dL_law_98 : decode cL_law 98 = .ok (.iaload, 1) := by decide +kernel
theorem dL_law_99 : decode cL_law 99 = .ok (.i2l, 1) := by decide +kernel
theorem dL_law_100 : decode cL_law 100 = .ok (.bipush 32, 2) := by decide +kernel
theorem dL_law_102 : decode cL_law 102 = .ok (.lshl, 1) := by decide +kernel
theorem dL_law_103 : decode cL_law 103 = .ok (.aload_n 0, 1) := by decide +kernel
theorem dL_law_104 : decode cL_law 104 = .ok (.iload_n 3, 1) := by decide +kernel
theorem dL_law_105 : decode cL_law 105 = .ok (.iconst 3, 1) := by decide +kernel
theorem dL_law_106 : decode cL_law 106 = .ok (.iadd, 1) := by decide +kernel
theorem dL_law_107 : decode cL_law 107 = .ok (.iaload, 1) := by decide +kernel
theorem dL_law_108 : decode cL_law 108 = .ok (.i2l, 1) := by decide +kernel
theorem dL_law_109 : decode cL_law 109 = .ok (.ldc2_w 13, 3) := by decide +kernel
theorem dL_law_112 : decode cL_law 112 = .ok (.land, 1) := by decide +kernel
theorem dL_law_113 : decode cL_law 113 = .ok (.lor, 1) := by decide +kernel
theorem dL_law_114 : decode cL_law 114 = .ok (.aload_n 0, 1) := by decide +kernel
theorem dL_law_115 : decode cL_law 115 = .ok (.iload_n 3, 1) := by decide +kernel
theorem dL_law_116 : decode cL_law 116 = .ok (.iconst 4, 1) := by decide +kernel
theorem dL_law_117 : decode cL_law 117 = .ok (.iadd, 1) := by decide +kernel
theorem dL_law_118 : decode cL_law 118 = .ok (.iaload, 1) := by decide +kernel
theorem dL_law_119 : decode cL_law 119 = .ok (.i2l, 1) := by decide +kernel
theorem dL_law_120 : decode cL_law 120 = .ok (.bipush 32, 2) := by decide +kernel
theorem dL_law_122 : decode cL_law 122 = .ok (.lshl, 1) := by decide +kernel
theorem dL_law_123 : decode cL_law 123 = .ok (.aload_n 0, 1) := by decide +kernel
theorem dL_law_124 : decode cL_law 124 = .ok (.iload_n 3, 1) := by decide +kernel
theorem dL_law_125 : decode cL_law 125 = .ok (.iconst 5, 1) := by decide +kernel
theorem dL_law_126 : decode cL_law 126 = .ok (.iadd, 1) := by decide +kernel
theorem dL_law_127 : decode cL_law 127 = .ok (.iaload, 1) := by decide +kernel
theorem dL_law_128 : decode cL_law 128 = .ok (.i2l, 1) := by decide +kernel
theorem dL_law_129 : decode cL_law 129 = .ok (.ldc2_w 13, 3) := by decide +kernel
theorem dL_law_132 : decode cL_law 132 = .ok (.land, 1) := by decide +kernel
theorem dL_law_133 : decode cL_law 133 = .ok (.lor, 1) := by decide +kernel
theorem dL_law_134 : decode cL_law 134 = .ok (.invokevirtual 15, 3) := by decide +kernel
theorem dL_law_137 : decode cL_law 137 = .ok (.aload_n 2, 1) := by decide +kernel
theorem dL_law_138 : decode cL_law 138 = .ok (.aload_n 0, 1) := by decide +kernel
theorem dL_law_139 : decode cL_law 139 = .ok (.iload_n 3, 1) := by decide +kernel
theorem dL_law_140 : decode cL_law 140 = .ok (.iconst 1, 1) := by decide +kernel
theorem dL_law_141 : decode cL_law 141 = .ok (.iadd, 1) := by decide +kernel
theorem dL_law_142 : decode cL_law 142 = .ok (.iaload, 1) := by decide +kernel
theorem dL_law_143 : decode cL_law 143 = .ok (.aload_n 0, 1) := by decide +kernel
theorem dL_law_144 : decode cL_law 144 = .ok (.iload_n 3, 1) := by decide +kernel
theorem dL_law_145 : decode cL_law 145 = .ok (.iconst 2, 1) := by decide +kernel
theorem dL_law_146 : decode cL_law 146 = .ok (.iadd, 1) := by decide +kernel
theorem dL_law_147 : decode cL_law 147 = .ok (.iaload, 1) := by decide +kernel
theorem dL_law_148 : decode cL_law 148 = .ok (.i2l, 1) := by decide +kernel
theorem dL_law_149 : decode cL_law 149 = .ok (.bipush 32, 2) := by decide +kernel
theorem dL_law_151 : decode cL_law 151 = .ok (.lshl, 1) := by decide +kernel
theorem dL_law_152 : decode cL_law 152 = .ok (.aload_n 0, 1) := by decide +kernel
theorem dL_law_153 : decode cL_law 153 = .ok (.iload_n 3, 1) := by decide +kernel
theorem dL_law_154 : decode cL_law 154 = .ok (.iconst 3, 1) := by decide +kernel
theorem dL_law_155 : decode cL_law 155 = .ok (.iadd, 1) := by decide +kernel
theorem dL_law_156 : decode cL_law 156 = .ok (.iaload, 1) := by decide +kernel
theorem dL_law_157 : decode cL_law 157 = .ok (.i2l, 1) := by decide +kernel
theorem dL_law_158 : decode cL_law 158 = .ok (.ldc2_w 13, 3) := by decide +kernel
theorem dL_law_161 : decode cL_law 161 = .ok (.land, 1) := by decide +kernel
theorem dL_law_162 : decode cL_law 162 = .ok (.lor, 1) := by decide +kernel
theorem dL_law_163 : decode cL_law 163 = .ok (.aload_n 0, 1) := by decide +kernel
theorem dL_law_164 : decode cL_law 164 = .ok (.iload_n 3, 1) := by decide +kernel
theorem dL_law_165 : decode cL_law 165 = .ok (.iconst 4, 1) := by decide +kernel
theorem dL_law_166 : decode cL_law 166 = .ok (.iadd, 1) := by decide +kernel
theorem dL_law_167 : decode cL_law 167 = .ok (.iaload, 1) := by decide +kernel
theorem dL_law_168 : decode cL_law 168 = .ok (.i2l, 1) := by decide +kernel
theorem dL_law_169 : decode cL_law 169 = .ok (.bipush 32, 2) := by decide +kernel
theorem dL_law_171 : decode cL_law 171 = .ok (.lshl, 1) := by decide +kernel
theorem dL_law_172 : decode cL_law 172 = .ok (.aload_n 0, 1) := by decide +kernel
theorem dL_law_173 : decode cL_law 173 = .ok (.iload_n 3, 1) := by decide +kernel
theorem dL_law_174 : decode cL_law 174 = .ok (.iconst 5, 1) := by decide +kernel
theorem dL_law_175 : decode cL_law 175 = .ok (.iadd, 1) := by decide +kernel
theorem dL_law_176 : decode cL_law 176 = .ok (.iaload, 1) := by decide +kernel
theorem dL_law_177 : decode cL_law 177 = .ok (.i2l, 1) := by decide +kernel
theorem dL_law_178 : decode cL_law 178 = .ok (.ldc2_w 13, 3) := by decide +kernel
theorem dL_law_181 : decode cL_law 181 = .ok (.land, 1) := by decide +kernel
theorem dL_law_182 : decode cL_law 182 = .ok (.lor, 1) := by decide +kernel
theorem dL_law_183 : decode cL_law 183 = .ok (.invokevirtual 19, 3) := by decide +kernel
theorem dL_law_186 : decode cL_law 186 = .ok (.if_icmp .eq 193, 3) := by decide +kernel
theorem dL_law_189 : decode cL_law 189 = .ok (.iconst 0, 1) := by decide +kernel
theorem dL_law_190 : decode cL_law 190 = .ok (.ireturn, 1) := by decide +kernel
theorem dL_law_191 : decode cL_law 191 = .ok (.aload_n 1, 1) := by decide +kernel
theorem dL_law_192 : decode cL_law 192 = .ok (.aload_n 0, 1) := by decide +kernel
theorem dL_law_193 : decode cL_law 193 = .ok (.iload_n 3, 1) := by decide +kernel
theorem dL_law_194 : decode cL_law 194 = .ok (.iconst 1, 1) := by decide +kernel
theorem dL_law_195 : decode cL_law 195 = .ok (.iadd, 1) := by decide +kernel
theorem dL_law_196 : decode cL_law 196 = .ok (.iaload, 1) := by decide +kernel
theorem dL_law_197 : decode cL_law 197 = .ok (.aload_n 0, 1) := by decide +kernel
theorem dL_law_198 : decode cL_law 198 = .ok (.iload_n 3, 1) := by decide +kernel
theorem dL_law_199 : decode cL_law 199 = .ok (.iconst 2, 1) := by decide +kernel
theorem dL_law_200 : decode cL_law 200 = .ok (.iadd, 1) := by decide +kernel
theorem dL_law_201 : decode cL_law 201 = .ok (.iaload, 1) := by decide +kernel
theorem dL_law_202 : decode cL_law 202 = .ok (.invokevirtual 20, 3) := by decide +kernel
theorem dL_law_205 : decode cL_law 205 = .ok (.aload_n 2, 1) := by decide +kernel
theorem dL_law_206 : decode cL_law 206 = .ok (.aload_n 0, 1) := by decide +kernel
theorem dL_law_207 : decode cL_law 207 = .ok (.iload_n 3, 1) := by decide +kernel
theorem dL_law_208 : decode cL_law 208 = .ok (.iconst 1, 1) := by decide +kernel
theorem dL_law_209 : decode cL_law 209 = .ok (.iadd, 1) := by decide +kernel
theorem dL_law_210 : decode cL_law 210 = .ok (.iaload, 1) := by decide +kernel
theorem dL_law_211 : decode cL_law 211 = .ok (.aload_n 0, 1) := by decide +kernel
theorem dL_law_212 : decode cL_law 212 = .ok (.iload_n 3, 1) := by decide +kernel
theorem dL_law_213 : decode cL_law 213 = .ok (.iconst 2, 1) := by decide +kernel
theorem dL_law_214 : decode cL_law 214 = .ok (.iadd, 1) := by decide +kernel
theorem dL_law_215 : decode cL_law 215 = .ok (.iaload, 1) := by decide +kernel
theorem dL_law_216 : decode cL_law 216 = .ok (.invokevirtual 24, 3) := by decide +kernel
theorem dL_law_219 : decode cL_law 219 = .ok (.if_icmp .eq 160, 3) := by decide +kernel
theorem dL_law_222 : decode cL_law 222 = .ok (.iconst 0, 1) := by decide +kernel
theorem dL_law_223 : decode cL_law 223 = .ok (.ireturn, 1) := by decide +kernel
theorem dL_law_224 : decode cL_law 224 = .ok (.aload_n 1, 1) := by decide +kernel
theorem dL_law_225 : decode cL_law 225 = .ok (.aload_n 0, 1) := by decide +kernel
theorem dL_law_226 : decode cL_law 226 = .ok (.iload_n 3, 1) := by decide +kernel
theorem dL_law_227 : decode cL_law 227 = .ok (.iconst 1, 1) := by decide +kernel
theorem dL_law_228 : decode cL_law 228 = .ok (.iadd, 1) := by decide +kernel
theorem dL_law_229 : decode cL_law 229 = .ok (.iaload, 1) := by decide +kernel
theorem dL_law_230 : decode cL_law 230 = .ok (.invokevirtual 25, 3) := by decide +kernel
theorem dL_law_233 : decode cL_law 233 = .ok (.aload_n 2, 1) := by decide +kernel
theorem dL_law_234 : decode cL_law 234 = .ok (.aload_n 0, 1) := by decide +kernel
theorem dL_law_235 : decode cL_law 235 = .ok (.iload_n 3, 1) := by decide +kernel
theorem dL_law_236 : decode cL_law 236 = .ok (.iconst 1, 1) := by decide +kernel
theorem dL_law_237 : decode cL_law 237 = .ok (.iadd, 1) := by decide +kernel
theorem dL_law_238 : decode cL_law 238 = .ok (.iaload, 1) := by decide +kernel
theorem dL_law_239 : decode cL_law 239 = .ok (.invokevirtual 29, 3) := by decide +kernel
theorem dL_law_242 : decode cL_law 242 = .ok (.if_icmp .eq 137, 3) := by decide +kernel
theorem dL_law_245 : decode cL_law 245 = .ok (.iconst 0, 1) := by decide +kernel
theorem dL_law_246 : decode cL_law 246 = .ok (.ireturn, 1) := by decide +kernel
theorem dL_law_247 : decode cL_law 247 = .ok (.aload_n 1, 1) := by decide +kernel
theorem dL_law_248 : decode cL_law 248 = .ok (.aload_n 0, 1) := by decide +kernel
theorem dL_law_249 : decode cL_law 249 = .ok (.iload_n 3, 1) := by decide +kernel
theorem dL_law_250 : decode cL_law 250 = .ok (.iconst 1, 1) := by decide +kernel
theorem dL_law_251 : decode cL_law 251 = .ok (.iadd, 1) := by decide +kernel
theorem dL_law_252 : decode cL_law 252 = .ok (.iaload, 1) := by decide +kernel
theorem dL_law_253 : decode cL_law 253 = .ok (.invokevirtual 30, 3) := by decide +kernel
theorem dL_law_256 : decode cL_law 256 = .ok (.aload_n 2, 1) := by decide +kernel
theorem dL_law_257 : decode cL_law 257 = .ok (.aload_n 0, 1) := by decide +kernel
theorem dL_law_258 : decode cL_law 258 = .ok (.iload_n 3, 1) := by decide +kernel
theorem dL_law_259 : decode cL_law 259 = .ok (.iconst 1, 1) := by decide +kernel
theorem dL_law_260 : decode cL_law 260 = .ok (.iadd, 1) := by decide +kernel
theorem dL_law_261 : decode cL_law 261 = .ok (.iaload, 1) := by decide +kernel
theorem dL_law_262 : decode cL_law 262 = .ok (.invokevirtual 33, 3) := by decide +kernel
theorem dL_law_265 : decode cL_law 265 = .ok (.if_icmp .eq 114, 3) := by decide +kernel
theorem dL_law_268 : decode cL_law 268 = .ok (.iconst 0, 1) := by decide +kernel
theorem dL_law_269 : decode cL_law 269 = .ok (.ireturn, 1) := by decide +kernel
theorem dL_law_270 : decode cL_law 270 = .ok (.aload_n 1, 1) := by decide +kernel
theorem dL_law_271 : decode cL_law 271 = .ok (.invokevirtual 34, 3) := by decide +kernel
theorem dL_law_274 : decode cL_law 274 = .ok (.aload_n 2, 1) := by decide +kernel
theorem dL_law_275 : decode cL_law 275 = .ok (.invokevirtual 38, 3) := by decide +kernel
theorem dL_law_278 : decode cL_law 278 = .ok (.if_icmp .eq 101, 3) := by decide +kernel
theorem dL_law_281 : decode cL_law 281 = .ok (.iconst 0, 1) := by decide +kernel
theorem dL_law_282 : decode cL_law 282 = .ok (.ireturn, 1) := by decide +kernel
theorem dL_law_283 : decode cL_law 283 = .ok (.aload_n 1, 1) := by decide +kernel
theorem dL_law_284 : decode cL_law 284 = .ok (.invokevirtual 39, 3) := by decide +kernel
theorem dL_law_287 : decode cL_law 287 = .ok (.aload_n 2, 1) := by decide +kernel
theorem dL_law_288 : decode cL_law 288 = .ok (.invokevirtual 42, 3) := by decide +kernel
theorem dL_law_291 : decode cL_law 291 = .ok (.if_icmp .eq 88, 3) := by decide +kernel
theorem dL_law_294 : decode cL_law 294 = .ok (.iconst 0, 1) := by decide +kernel
theorem dL_law_295 : decode cL_law 295 = .ok (.ireturn, 1) := by decide +kernel
theorem dL_law_296 : decode cL_law 296 = .ok (.aload_n 1, 1) := by decide +kernel
theorem dL_law_297 : decode cL_law 297 = .ok (.aload_n 0, 1) := by decide +kernel
theorem dL_law_298 : decode cL_law 298 = .ok (.iload_n 3, 1) := by decide +kernel
theorem dL_law_299 : decode cL_law 299 = .ok (.iconst 1, 1) := by decide +kernel
theorem dL_law_300 : decode cL_law 300 = .ok (.iadd, 1) := by decide +kernel
theorem dL_law_301 : decode cL_law 301 = .ok (.iaload, 1) := by decide +kernel
theorem dL_law_302 : decode cL_law 302 = .ok (.invokevirtual 43, 3) := by decide +kernel
theorem dL_law_305 : decode cL_law 305 = .ok (.aload_n 2, 1) := by decide +kernel
theorem dL_law_306 : decode cL_law 306 = .ok (.aload_n 0, 1) := by decide +kernel
theorem dL_law_307 : decode cL_law 307 = .ok (.iload_n 3, 1) := by decide +kernel
theorem dL_law_308 : decode cL_law 308 = .ok (.iconst 1, 1) := by decide +kernel
theorem dL_law_309 : decode cL_law 309 = .ok (.iadd, 1) := by decide +kernel
theorem dL_law_310 : decode cL_law 310 = .ok (.iaload, 1) := by decide +kernel
theorem dL_law_311 : decode cL_law 311 = .ok (.invokevirtual 46, 3) := by decide +kernel
theorem dL_law_314 : decode cL_law 314 = .ok (.if_icmp .eq 65, 3) := by decide +kernel
theorem dL_law_317 : decode cL_law 317 = .ok (.iconst 0, 1) := by decide +kernel
theorem dL_law_318 : decode cL_law 318 = .ok (.ireturn, 1) := by decide +kernel
theorem dL_law_319 : decode cL_law 319 = .ok (.aload_n 1, 1) := by decide +kernel
theorem dL_law_320 : decode cL_law 320 = .ok (.aload_n 0, 1) := by decide +kernel
theorem dL_law_321 : decode cL_law 321 = .ok (.iload_n 3, 1) := by decide +kernel
theorem dL_law_322 : decode cL_law 322 = .ok (.iconst 1, 1) := by decide +kernel
theorem dL_law_323 : decode cL_law 323 = .ok (.iadd, 1) := by decide +kernel
theorem dL_law_324 : decode cL_law 324 = .ok (.iaload, 1) := by decide +kernel
theorem dL_law_325 : decode cL_law 325 = .ok (.invokevirtual 47, 3) := by decide +kernel
theorem dL_law_328 : decode cL_law 328 = .ok (.aload_n 2, 1) := by decide +kernel
theorem dL_law_329 : decode cL_law 329 = .ok (.aload_n 0, 1) := by decide +kernel
theorem dL_law_330 : decode cL_law 330 = .ok (.iload_n 3, 1) := by decide +kernel
theorem dL_law_331 : decode cL_law 331 = .ok (.iconst 1, 1) := by decide +kernel
theorem dL_law_332 : decode cL_law 332 = .ok (.iadd, 1) := by decide +kernel
theorem dL_law_333 : decode cL_law 333 = .ok (.iaload, 1) := by decide +kernel
theorem dL_law_334 : decode cL_law 334 = .ok (.invokevirtual 50, 3) := by decide +kernel
theorem dL_law_337 : decode cL_law 337 = .ok (.if_icmp .eq 42, 3) := by decide +kernel
theorem dL_law_340 : decode cL_law 340 = .ok (.iconst 0, 1) := by decide +kernel
theorem dL_law_341 : decode cL_law 341 = .ok (.ireturn, 1) := by decide +kernel
theorem dL_law_342 : decode cL_law 342 = .ok (.aload_n 1, 1) := by decide +kernel
theorem dL_law_343 : decode cL_law 343 = .ok (.invokevirtual 51, 3) := by decide +kernel
theorem dL_law_346 : decode cL_law 346 = .ok (.aload_n 2, 1) := by decide +kernel
theorem dL_law_347 : decode cL_law 347 = .ok (.invokevirtual 54, 3) := by decide +kernel
theorem dL_law_350 : decode cL_law 350 = .ok (.if_icmp .eq 29, 3) := by decide +kernel
theorem dL_law_353 : decode cL_law 353 = .ok (.iconst 0, 1) := by decide +kernel
theorem dL_law_354 : decode cL_law 354 = .ok (.ireturn, 1) := by decide +kernel
theorem dL_law_355 : decode cL_law 355 = .ok (.aload_n 1, 1) := by decide +kernel
theorem dL_law_356 : decode cL_law 356 = .ok (.aload_n 0, 1) := by decide +kernel
theorem dL_law_357 : decode cL_law 357 = .ok (.iload_n 3, 1) := by decide +kernel
theorem dL_law_358 : decode cL_law 358 = .ok (.iconst 1, 1) := by decide +kernel
theorem dL_law_359 : decode cL_law 359 = .ok (.iadd, 1) := by decide +kernel
theorem dL_law_360 : decode cL_law 360 = .ok (.iaload, 1) := by decide +kernel
theorem dL_law_361 : decode cL_law 361 = .ok (.invokevirtual 55, 3) := by decide +kernel
theorem dL_law_364 : decode cL_law 364 = .ok (.aload_n 2, 1) := by decide +kernel
theorem dL_law_365 : decode cL_law 365 = .ok (.aload_n 0, 1) := by decide +kernel
theorem dL_law_366 : decode cL_law 366 = .ok (.iload_n 3, 1) := by decide +kernel
theorem dL_law_367 : decode cL_law 367 = .ok (.iconst 1, 1) := by decide +kernel
theorem dL_law_368 : decode cL_law 368 = .ok (.iadd, 1) := by decide +kernel
theorem dL_law_369 : decode cL_law 369 = .ok (.iaload, 1) := by decide +kernel
theorem dL_law_370 : decode cL_law 370 = .ok (.invokevirtual 59, 3) := by decide +kernel
theorem dL_law_373 : decode cL_law 373 = .ok (.lcmp, 1) := by decide +kernel
theorem dL_law_374 : decode cL_law 374 = .ok (.ifCond .eq 5, 3) := by decide +kernel
theorem dL_law_377 : decode cL_law 377 = .ok (.iconst 0, 1) := by decide +kernel
theorem dL_law_378 : decode cL_law 378 = .ok (.ireturn, 1) := by decide +kernel
theorem dL_law_379 : decode cL_law 379 = .ok (.iinc 3 6, 3) := by decide +kernel
theorem dL_law_382 : decode cL_law 382 = .ok (.goto (-364), 3) := by decide +kernel
theorem dL_law_385 : decode cL_law 385 = .ok (.iconst 1, 1) := by decide +kernel
theorem dL_law_386 : decode cL_law 386 = .ok (.ireturn, 1) := by decide +kernel
