theorem dFR_freeBefore_0 : decode cFR_freeBefore 0 = .ok (.aload_n 0, 1) := by decide +kernel
theorem dFR_freeBefore_1 : decode cFR_freeBefore 1 = .ok (.getfield 9, 3) := by decide +kernel
theorem dFR_freeBefore_4 : decode cFR_freeBefore 4 = .ok (.iload_n 2, 1) := by decide +kernel
theorem dFR_freeBefore_5 : decode cFR_freeBefore 5 = .ok (.iaload, 1) := by decide +kernel
theorem dFR_freeBefore_6 : decode cFR_freeBefore 6 = .ok (.istore 5, 2) := by decide +kernel
theorem dFR_freeBefore_8 : decode cFR_freeBefore 8 = .ok (.iload_n 2, 1) := by decide +kernel
theorem dFR_freeBefore_9 : decode cFR_freeBefore 9 = .ok (.aload_n 1, 1) := by decide +kernel
theorem dFR_freeBefore_10 : decode cFR_freeBefore 10 = .ok (.getfield 21, 3) := by decide +kernel
theorem dFR_freeBefore_13 : decode cFR_freeBefore 13 = .ok (.if_icmp .ne 6, 3) := by decide +kernel
theorem dFR_freeBefore_16 : decode cFR_freeBefore 16 = .ok (.iload 5, 2) := by decide +kernel
theorem dFR_freeBefore_18 : decode cFR_freeBefore 18 = .ok (.ireturn, 1) := by decide +kernel
theorem dFR_freeBefore_19 : decode cFR_freeBefore 19 = .ok (.aload_n 1, 1) := by decide +kernel
theorem dFR_freeBefore_20 : decode cFR_freeBefore 20 = .ok (.getfield 51, 3) := by decide +kernel
theorem dFR_freeBefore_23 : decode cFR_freeBefore 23 = .ok (.iload_n 2, 1) := by decide +kernel
theorem dFR_freeBefore_24 : decode cFR_freeBefore 24 = .ok (.iaload, 1) := by decide +kernel
theorem dFR_freeBefore_25 : decode cFR_freeBefore 25 = .ok (.istore 6, 2) := by decide +kernel
theorem dFR_freeBefore_27 : decode cFR_freeBefore 27 = .ok (.aload_n 1, 1) := by decide +kernel
theorem dFR_freeBefore_28 : decode cFR_freeBefore 28 = .ok (.getfield 54, 3) := by decide +kernel
theorem dFR_freeBefore_31 : decode cFR_freeBefore 31 = .ok (.iload_n 2, 1) := by decide +kernel
theorem dFR_freeBefore_32 : decode cFR_freeBefore 32 = .ok (.iaload, 1) := by decide +kernel
theorem dFR_freeBefore_33 : decode cFR_freeBefore 33 = .ok (.istore 7, 2) := by decide +kernel
theorem dFR_freeBefore_35 : decode cFR_freeBefore 35 = .ok (.aload_n 1, 1) := by decide +kernel
theorem dFR_freeBefore_36 : decode cFR_freeBefore 36 = .ok (.iload_n 2, 1) := by decide +kernel
theorem dFR_freeBefore_37 : decode cFR_freeBefore 37 = .ok (.invokevirtual 57, 3) := by decide +kernel
theorem dFR_freeBefore_40 : decode cFR_freeBefore 40 = .ok (.ifCond .eq 15, 3) := by decide +kernel
theorem dFR_freeBefore_43 : decode cFR_freeBefore 43 = .ok (.iload 5, 2) := by decide +kernel
theorem dFR_freeBefore_45 : decode cFR_freeBefore 45 = .ok (.iconst 1, 1) := by decide +kernel
theorem dFR_freeBefore_46 : decode cFR_freeBefore 46 = .ok (.iload 6, 2) := by decide +kernel
theorem dFR_freeBefore_48 : decode cFR_freeBefore 48 = .ok (.ishl, 1) := by decide +kernel
theorem dFR_freeBefore_49 : decode cFR_freeBefore 49 = .ok (.iconst (-1), 1) := by decide +kernel
theorem dFR_freeBefore_50 : decode cFR_freeBefore 50 = .ok (.ixor, 1) := by decide +kernel
theorem dFR_freeBefore_51 : decode cFR_freeBefore 51 = .ok (.iand, 1) := by decide +kernel
theorem dFR_freeBefore_52 : decode cFR_freeBefore 52 = .ok (.goto 5, 3) := by decide +kernel
theorem dFR_freeBefore_55 : decode cFR_freeBefore 55 = .ok (.iload 5, 2) := by decide +kernel
theorem dFR_freeBefore_57 : decode cFR_freeBefore 57 = .ok (.istore 8, 2) := by decide +kernel
theorem dFR_freeBefore_59 : decode cFR_freeBefore 59 = .ok (.aload_n 1, 1) := by decide +kernel
theorem dFR_freeBefore_60 : decode cFR_freeBefore 60 = .ok (.getfield 34, 3) := by decide +kernel
theorem dFR_freeBefore_63 : decode cFR_freeBefore 63 = .ok (.iload_n 2, 1) := by decide +kernel
theorem dFR_freeBefore_64 : decode cFR_freeBefore 64 = .ok (.iaload, 1) := by decide +kernel
theorem dFR_freeBefore_65 : decode cFR_freeBefore 65 = .ok (.lookupswitch 96 #[(1, 35), (9, 61), (10, 74)], 35) := by decide +kernel
theorem dFR_freeBefore_100 : decode cFR_freeBefore 100 = .ok (.iload 6, 2) := by decide +kernel
theorem dFR_freeBefore_102 : decode cFR_freeBefore 102 = .ok (.iload 7, 2) := by decide +kernel
theorem dFR_freeBefore_104 : decode cFR_freeBefore 104 = .ok (.if_icmp .ne 8, 3) := by decide +kernel
theorem dFR_freeBefore_107 : decode cFR_freeBefore 107 = .ok (.iload 8, 2) := by decide +kernel
theorem dFR_freeBefore_109 : decode cFR_freeBefore 109 = .ok (.goto 16, 3) := by decide +kernel
theorem dFR_freeBefore_112 : decode cFR_freeBefore 112 = .ok (.iload 8, 2) := by decide +kernel
theorem dFR_freeBefore_114 : decode cFR_freeBefore 114 = .ok (.iload 5, 2) := by decide +kernel
theorem dFR_freeBefore_116 : decode cFR_freeBefore 116 = .ok (.iload 6, 2) := by decide +kernel
theorem dFR_freeBefore_118 : decode cFR_freeBefore 118 = .ok (.ishr, 1) := by decide +kernel
theorem dFR_freeBefore_119 : decode cFR_freeBefore 119 = .ok (.iconst 1, 1) := by decide +kernel
theorem dFR_freeBefore_120 : decode cFR_freeBefore 120 = .ok (.iand, 1) := by decide +kernel
theorem dFR_freeBefore_121 : decode cFR_freeBefore 121 = .ok (.iload 7, 2) := by decide +kernel
theorem dFR_freeBefore_123 : decode cFR_freeBefore 123 = .ok (.ishl, 1) := by decide +kernel
theorem dFR_freeBefore_124 : decode cFR_freeBefore 124 = .ok (.ior, 1) := by decide +kernel
theorem dFR_freeBefore_125 : decode cFR_freeBefore 125 = .ok (.ireturn, 1) := by decide +kernel
theorem dFR_freeBefore_126 : decode cFR_freeBefore 126 = .ok (.iload 8, 2) := by decide +kernel
theorem dFR_freeBefore_128 : decode cFR_freeBefore 128 = .ok (.aload_n 3, 1) := by decide +kernel
theorem dFR_freeBefore_129 : decode cFR_freeBefore 129 = .ok (.getfield 61, 3) := by decide +kernel
theorem dFR_freeBefore_132 : decode cFR_freeBefore 132 = .ok (.iload 7, 2) := by decide +kernel
theorem dFR_freeBefore_134 : decode cFR_freeBefore 134 = .ok (.iaload, 1) := by decide +kernel
theorem dFR_freeBefore_135 : decode cFR_freeBefore 135 = .ok (.iconst (-1), 1) := by decide +kernel
theorem dFR_freeBefore_136 : decode cFR_freeBefore 136 = .ok (.ixor, 1) := by decide +kernel
theorem dFR_freeBefore_137 : decode cFR_freeBefore 137 = .ok (.iand, 1) := by decide +kernel
theorem dFR_freeBefore_138 : decode cFR_freeBefore 138 = .ok (.ireturn, 1) := by decide +kernel
theorem dFR_freeBefore_139 : decode cFR_freeBefore 139 = .ok (.iload 8, 2) := by decide +kernel
theorem dFR_freeBefore_141 : decode cFR_freeBefore 141 = .ok (.aload 4, 2) := by decide +kernel
theorem dFR_freeBefore_143 : decode cFR_freeBefore 143 = .ok (.getfield 64, 3) := by decide +kernel
theorem dFR_freeBefore_146 : decode cFR_freeBefore 146 = .ok (.iload_n 2, 1) := by decide +kernel
theorem dFR_freeBefore_147 : decode cFR_freeBefore 147 = .ok (.aaload, 1) := by decide +kernel
theorem dFR_freeBefore_148 : decode cFR_freeBefore 148 = .ok (.getfield 68, 3) := by decide +kernel
theorem dFR_freeBefore_151 : decode cFR_freeBefore 151 = .ok (.iload 6, 2) := by decide +kernel
theorem dFR_freeBefore_153 : decode cFR_freeBefore 153 = .ok (.iaload, 1) := by decide +kernel
theorem dFR_freeBefore_154 : decode cFR_freeBefore 154 = .ok (.ior, 1) := by decide +kernel
theorem dFR_freeBefore_155 : decode cFR_freeBefore 155 = .ok (.iconst 1, 1) := by decide +kernel
theorem dFR_freeBefore_156 : decode cFR_freeBefore 156 = .ok (.iload 6, 2) := by decide +kernel
theorem dFR_freeBefore_158 : decode cFR_freeBefore 158 = .ok (.ishl, 1) := by decide +kernel
theorem dFR_freeBefore_159 : decode cFR_freeBefore 159 = .ok (.ior, 1) := by decide +kernel
theorem dFR_freeBefore_160 : decode cFR_freeBefore 160 = .ok (.ireturn, 1) := by decide +kernel
theorem dFR_freeBefore_161 : decode cFR_freeBefore 161 = .ok (.iload 8, 2) := by decide +kernel
theorem dFR_freeBefore_163 : decode cFR_freeBefore 163 = .ok (.ireturn, 1) := by decide +kernel
theorem dFR_freeBeforeNext_0 : decode cFR_freeBeforeNext 0 = .ok (.ldc 32, 2) := by decide +kernel
theorem dFR_freeBeforeNext_2 : decode cFR_freeBeforeNext 2 = .ok (.istore 5, 2) := by decide +kernel
theorem dFR_freeBeforeNext_4 : decode cFR_freeBeforeNext 4 = .ok (.aload_n 1, 1) := by decide +kernel
theorem dFR_freeBeforeNext_5 : decode cFR_freeBeforeNext 5 = .ok (.iload_n 2, 1) := by decide +kernel
theorem dFR_freeBeforeNext_6 : decode cFR_freeBeforeNext 6 = .ok (.invokevirtual 41, 3) := by decide +kernel
theorem dFR_freeBeforeNext_9 : decode cFR_freeBeforeNext 9 = .ok (.istore 6, 2) := by decide +kernel
theorem dFR_freeBeforeNext_11 : decode cFR_freeBeforeNext 11 = .ok (.iload 6, 2) := by decide +kernel
theorem dFR_freeBeforeNext_13 : decode cFR_freeBeforeNext 13 = .ok (.iconst (-1), 1) := by decide +kernel
theorem dFR_freeBeforeNext_14 : decode cFR_freeBeforeNext 14 = .ok (.if_icmp .eq 18, 3) := by decide +kernel
theorem dFR_freeBeforeNext_17 : decode cFR_freeBeforeNext 17 = .ok (.iload 5, 2) := by decide +kernel
theorem dFR_freeBeforeNext_19 : decode cFR_freeBeforeNext 19 = .ok (.aload_n 0, 1) := by decide +kernel
theorem dFR_freeBeforeNext_20 : decode cFR_freeBeforeNext 20 = .ok (.aload_n 1, 1) := by decide +kernel
theorem dFR_freeBeforeNext_21 : decode cFR_freeBeforeNext 21 = .ok (.iload 6, 2) := by decide +kernel
theorem dFR_freeBeforeNext_23 : decode cFR_freeBeforeNext 23 = .ok (.aload_n 3, 1) := by decide +kernel
theorem dFR_freeBeforeNext_24 : decode cFR_freeBeforeNext 24 = .ok (.aload 4, 2) := by decide +kernel
theorem dFR_freeBeforeNext_26 : decode cFR_freeBeforeNext 26 = .ok (.invokevirtual 45, 3) := by decide +kernel
theorem dFR_freeBeforeNext_29 : decode cFR_freeBeforeNext 29 = .ok (.iand, 1) := by decide +kernel
theorem dFR_freeBeforeNext_30 : decode cFR_freeBeforeNext 30 = .ok (.istore 5, 2) := by decide +kernel
theorem dFR_freeBeforeNext_32 : decode cFR_freeBeforeNext 32 = .ok (.aload_n 1, 1) := by decide +kernel
theorem dFR_freeBeforeNext_33 : decode cFR_freeBeforeNext 33 = .ok (.iload_n 2, 1) := by decide +kernel
theorem dFR_freeBeforeNext_34 : decode cFR_freeBeforeNext 34 = .ok (.invokevirtual 48, 3) := by decide +kernel
theorem dFR_freeBeforeNext_37 : decode cFR_freeBeforeNext 37 = .ok (.istore 7, 2) := by decide +kernel
theorem dFR_freeBeforeNext_39 : decode cFR_freeBeforeNext 39 = .ok (.iload 7, 2) := by decide +kernel
theorem dFR_freeBeforeNext_41 : decode cFR_freeBeforeNext 41 = .ok (.iconst (-1), 1) := by decide +kernel
theorem dFR_freeBeforeNext_42 : decode cFR_freeBeforeNext 42 = .ok (.if_icmp .eq 18, 3) := by decide +kernel
theorem dFR_freeBeforeNext_45 : decode cFR_freeBeforeNext 45 = .ok (.iload 5, 2) := by decide +kernel
theorem dFR_freeBeforeNext_47 : decode cFR_freeBeforeNext 47 = .ok (.aload_n 0, 1) := by decide +kernel
theorem dFR_freeBeforeNext_48 : decode cFR_freeBeforeNext 48 = .ok (.aload_n 1, 1) := by decide +kernel
theorem dFR_freeBeforeNext_49 : decode cFR_freeBeforeNext 49 = .ok (.iload 7, 2) := by decide +kernel
theorem dFR_freeBeforeNext_51 : decode cFR_freeBeforeNext 51 = .ok (.aload_n 3, 1) := by decide +kernel
theorem dFR_freeBeforeNext_52 : decode cFR_freeBeforeNext 52 = .ok (.aload 4, 2) := by decide +kernel
theorem dFR_freeBeforeNext_54 : decode cFR_freeBeforeNext 54 = .ok (.invokevirtual 45, 3) := by decide +kernel
theorem dFR_freeBeforeNext_57 : decode cFR_freeBeforeNext 57 = .ok (.iand, 1) := by decide +kernel
theorem dFR_freeBeforeNext_58 : decode cFR_freeBeforeNext 58 = .ok (.istore 5, 2) := by decide +kernel
theorem dFR_freeBeforeNext_60 : decode cFR_freeBeforeNext 60 = .ok (.iload 5, 2) := by decide +kernel
theorem dFR_freeBeforeNext_62 : decode cFR_freeBeforeNext 62 = .ok (.ireturn, 1) := by decide +kernel
theorem dFR_find_0 : decode cFR_find 0 = .ok (.aload_n 2, 1) := by decide +kernel
theorem dFR_find_1 : decode cFR_find 1 = .ok (.getfield 15, 3) := by decide +kernel
theorem dFR_find_4 : decode cFR_find 4 = .ok (.istore 4, 2) := by decide +kernel
theorem dFR_find_6 : decode cFR_find 6 = .ok (.iconst 0, 1) := by decide +kernel
theorem dFR_find_7 : decode cFR_find 7 = .ok (.istore 5, 2) := by decide +kernel
theorem dFR_find_9 : decode cFR_find 9 = .ok (.iload 5, 2) := by decide +kernel
theorem dFR_find_11 : decode cFR_find 11 = .ok (.aload_n 1, 1) := by decide +kernel
theorem dFR_find_12 : decode cFR_find 12 = .ok (.getfield 21, 3) := by decide +kernel
theorem dFR_find_15 : decode cFR_find 15 = .ok (.if_icmp .ge 32, 3) := by decide +kernel
theorem dFR_find_18 : decode cFR_find 18 = .ok (.aload_n 0, 1) := by decide +kernel
theorem dFR_find_19 : decode cFR_find 19 = .ok (.getfield 9, 3) := by decide +kernel
theorem dFR_find_22 : decode cFR_find 22 = .ok (.iload 5, 2) := by decide +kernel
theorem dFR_find_24 : decode cFR_find 24 = .ok (.aload_n 3, 1) := by decide +kernel
theorem dFR_find_25 : decode cFR_find 25 = .ok (.getfield 26, 3) := by decide +kernel
theorem dFR_find_28 : decode cFR_find 28 = .ok (.iload 5, 2) := by decide +kernel
theorem dFR_find_30 : decode cFR_find 30 = .ok (.baload, 1) := by decide +kernel
theorem dFR_find_31 : decode cFR_find 31 = .ok (.ifCond .eq 8, 3) := by decide +kernel
theorem dFR_find_34 : decode cFR_find 34 = .ok (.ldc 32, 2) := by decide +kernel
theorem dFR_find_36 : decode cFR_find 36 = .ok (.goto 4, 3) := by decide +kernel
theorem dFR_find_39 : decode cFR_find 39 = .ok (.iconst 0, 1) := by decide +kernel
theorem dFR_find_40 : decode cFR_find 40 = .ok (.iastore, 1) := by decide +kernel
theorem dFR_find_41 : decode cFR_find 41 = .ok (.iinc 5 1, 3) := by decide +kernel
theorem dFR_find_44 : decode cFR_find 44 = .ok (.goto (-35), 3) := by decide +kernel
theorem dFR_find_47 : decode cFR_find 47 = .ok (.aload_n 0, 1) := by decide +kernel
theorem dFR_find_48 : decode cFR_find 48 = .ok (.getfield 9, 3) := by decide +kernel
theorem dFR_find_51 : decode cFR_find 51 = .ok (.aload_n 1, 1) := by decide +kernel
theorem dFR_find_52 : decode cFR_find 52 = .ok (.getfield 21, 3) := by decide +kernel
theorem dFR_find_55 : decode cFR_find 55 = .ok (.aload_n 3, 1) := by decide +kernel
theorem dFR_find_56 : decode cFR_find 56 = .ok (.getfield 26, 3) := by decide +kernel
theorem dFR_find_59 : decode cFR_find 59 = .ok (.aload_n 1, 1) := by decide +kernel
theorem dFR_find_60 : decode cFR_find 60 = .ok (.getfield 21, 3) := by decide +kernel
theorem dFR_find_63 : decode cFR_find 63 = .ok (.baload, 1) := by decide +kernel
theorem dFR_find_64 : decode cFR_find 64 = .ok (.ifCond .eq 8, 3) := by decide +kernel
theorem dFR_find_67 : decode cFR_find 67 = .ok (.iload 4, 2) := by decide +kernel
theorem dFR_find_69 : decode cFR_find 69 = .ok (.goto 4, 3) := by decide +kernel
theorem dFR_find_72 : decode cFR_find 72 = .ok (.iconst 0, 1) := by decide +kernel
theorem dFR_find_73 : decode cFR_find 73 = .ok (.iastore, 1) := by decide +kernel
theorem dFR_find_74 : decode cFR_find 74 = .ok (.iconst 1, 1) := by decide +kernel
theorem dFR_find_75 : decode cFR_find 75 = .ok (.istore 5, 2) := by decide +kernel
theorem dFR_find_77 : decode cFR_find 77 = .ok (.iconst 0, 1) := by decide +kernel
theorem dFR_find_78 : decode cFR_find 78 = .ok (.istore 6, 2) := by decide +kernel
theorem dFR_find_80 : decode cFR_find 80 = .ok (.iload 5, 2) := by decide +kernel
theorem dFR_find_82 : decode cFR_find 82 = .ok (.ifCond .eq 114, 3) := by decide +kernel
theorem dFR_find_85 : decode cFR_find 85 = .ok (.iload 6, 2) := by decide +kernel
theorem dFR_find_87 : decode cFR_find 87 = .ok (.ldc 33, 2) := by decide +kernel
theorem dFR_find_89 : decode cFR_find 89 = .ok (.if_icmp .ge 107, 3) := by decide +kernel
theorem dFR_find_92 : decode cFR_find 92 = .ok (.iconst 0, 1) := by decide +kernel
theorem dFR_find_93 : decode cFR_find 93 = .ok (.istore 5, 2) := by decide +kernel
theorem dFR_find_95 : decode cFR_find 95 = .ok (.aload_n 1, 1) := by decide +kernel
theorem dFR_find_96 : decode cFR_find 96 = .ok (.getfield 21, 3) := by decide +kernel
theorem dFR_find_99 : decode cFR_find 99 = .ok (.iconst 1, 1) := by decide +kernel
theorem dFR_find_100 : decode cFR_find 100 = .ok (.isub, 1) := by decide +kernel
theorem dFR_find_101 : decode cFR_find 101 = .ok (.istore 7, 2) := by decide +kernel
theorem dFR_find_103 : decode cFR_find 103 = .ok (.iload 7, 2) := by decide +kernel
theorem dFR_find_105 : decode cFR_find 105 = .ok (.ifCond .lt 85, 3) := by decide +kernel
theorem dFR_find_108 : decode cFR_find 108 = .ok (.aload_n 3, 1) := by decide +kernel
theorem dFR_find_109 : decode cFR_find 109 = .ok (.getfield 26, 3) := by decide +kernel
theorem dFR_find_112 : decode cFR_find 112 = .ok (.iload 7, 2) := by decide +kernel
theorem dFR_find_114 : decode cFR_find 114 = .ok (.baload, 1) := by decide +kernel
theorem dFR_find_115 : decode cFR_find 115 = .ok (.ifCond .eq 69, 3) := by decide +kernel
theorem dFR_find_118 : decode cFR_find 118 = .ok (.aload_n 0, 1) := by decide +kernel
theorem dFR_find_119 : decode cFR_find 119 = .ok (.getfield 9, 3) := by decide +kernel
theorem dFR_find_122 : decode cFR_find 122 = .ok (.iload 7, 2) := by decide +kernel
theorem dFR_find_124 : decode cFR_find 124 = .ok (.iaload, 1) := by decide +kernel
theorem dFR_find_125 : decode cFR_find 125 = .ok (.istore 8, 2) := by decide +kernel
theorem dFR_find_127 : decode cFR_find 127 = .ok (.aload_n 0, 1) := by decide +kernel
theorem dFR_find_128 : decode cFR_find 128 = .ok (.getfield 9, 3) := by decide +kernel
theorem dFR_find_131 : decode cFR_find 131 = .ok (.iload 7, 2) := by decide +kernel
theorem dFR_find_133 : decode cFR_find 133 = .ok (.aload_n 1, 1) := by decide +kernel
theorem dFR_find_134 : decode cFR_find 134 = .ok (.getfield 34, 3) := by decide +kernel
theorem dFR_find_137 : decode cFR_find 137 = .ok (.iload 7, 2) := by decide +kernel
theorem dFR_find_139 : decode cFR_find 139 = .ok (.iaload, 1) := by decide +kernel
theorem dFR_find_140 : decode cFR_find 140 = .ok (.bipush 14, 2) := by decide +kernel
theorem dFR_find_142 : decode cFR_find 142 = .ok (.if_icmp .ne 8, 3) := by decide +kernel
theorem dFR_find_145 : decode cFR_find 145 = .ok (.iload 4, 2) := by decide +kernel
theorem dFR_find_147 : decode cFR_find 147 = .ok (.goto 12, 3) := by decide +kernel
theorem dFR_find_150 : decode cFR_find 150 = .ok (.aload_n 0, 1) := by decide +kernel
theorem dFR_find_151 : decode cFR_find 151 = .ok (.aload_n 1, 1) := by decide +kernel
theorem dFR_find_152 : decode cFR_find 152 = .ok (.iload 7, 2) := by decide +kernel
theorem dFR_find_154 : decode cFR_find 154 = .ok (.aload_n 2, 1) := by decide +kernel
theorem dFR_find_155 : decode cFR_find 155 = .ok (.aload_n 3, 1) := by decide +kernel
theorem dFR_find_156 : decode cFR_find 156 = .ok (.invokevirtual 37, 3) := by decide +kernel
theorem dFR_find_159 : decode cFR_find 159 = .ok (.iastore, 1) := by decide +kernel
theorem dFR_find_160 : decode cFR_find 160 = .ok (.iload 5, 2) := by decide +kernel
theorem dFR_find_162 : decode cFR_find 162 = .ok (.ifCond .ne 15, 3) := by decide +kernel
theorem dFR_find_165 : decode cFR_find 165 = .ok (.aload_n 0, 1) := by decide +kernel
theorem dFR_find_166 : decode cFR_find 166 = .ok (.getfield 9, 3) := by decide +kernel
theorem dFR_find_169 : decode cFR_find 169 = .ok (.iload 7, 2) := by decide +kernel
theorem dFR_find_171 : decode cFR_find 171 = .ok (.iaload, 1) := by decide +kernel
theorem dFR_find_172 : decode cFR_find 172 = .ok (.iload 8, 2) := by decide +kernel
theorem dFR_find_174 : decode cFR_find 174 = .ok (.if_icmp .eq 7, 3) := by decide +kernel
theorem dFR_find_177 : decode cFR_find 177 = .ok (.iconst 1, 1) := by decide +kernel
theorem dFR_find_178 : decode cFR_find 178 = .ok (.goto 4, 3) := by decide +kernel
theorem dFR_find_181 : decode cFR_find 181 = .ok (.iconst 0, 1) := by decide +kernel
theorem dFR_find_182 : decode cFR_find 182 = .ok (.istore 5, 2) := by decide +kernel
theorem dFR_find_184 : decode cFR_find 184 = .ok (.iinc 7 (-1), 3) := by decide +kernel
theorem dFR_find_187 : decode cFR_find 187 = .ok (.goto (-84), 3) := by decide +kernel
theorem dFR_find_190 : decode cFR_find 190 = .ok (.iinc 6 1, 3) := by decide +kernel
theorem dFR_find_193 : decode cFR_find 193 = .ok (.goto (-113), 3) := by decide +kernel
theorem dFR_find_196 : decode cFR_find 196 = .ok (.return_, 1) := by decide +kernel
theorem dFR_isFreeBehind_0 : decode cFR_isFreeBehind 0 = .ok (.aload_n 0, 1) := by decide +kernel
theorem dFR_isFreeBehind_1 : decode cFR_isFreeBehind 1 = .ok (.getfield 9, 3) := by decide +kernel
theorem dFR_isFreeBehind_4 : decode cFR_isFreeBehind 4 = .ok (.iload_n 1, 1) := by decide +kernel
theorem dFR_isFreeBehind_5 : decode cFR_isFreeBehind 5 = .ok (.iaload, 1) := by decide +kernel
theorem dFR_isFreeBehind_6 : decode cFR_isFreeBehind 6 = .ok (.iload_n 2, 1) := by decide +kernel
theorem dFR_isFreeBehind_7 : decode cFR_isFreeBehind 7 = .ok (.ishr, 1) := by decide +kernel
theorem dFR_isFreeBehind_8 : decode cFR_isFreeBehind 8 = .ok (.iconst 1, 1) := by decide +kernel
theorem dFR_isFreeBehind_9 : decode cFR_isFreeBehind 9 = .ok (.iand, 1) := by decide +kernel
theorem dFR_isFreeBehind_10 : decode cFR_isFreeBehind 10 = .ok (.ifCond .eq 7, 3) := by decide +kernel
theorem dFR_isFreeBehind_13 : decode cFR_isFreeBehind 13 = .ok (.iconst 1, 1) := by decide +kernel
theorem dFR_isFreeBehind_14 : decode cFR_isFreeBehind 14 = .ok (.goto 4, 3) := by decide +kernel
theorem dFR_isFreeBehind_17 : decode cFR_isFreeBehind 17 = .ok (.iconst 0, 1) := by decide +kernel
theorem dFR_isFreeBehind_18 : decode cFR_isFreeBehind 18 = .ok (.ireturn, 1) := by decide +kernel
