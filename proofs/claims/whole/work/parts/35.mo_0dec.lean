theorem dMO_freeBefore_0 : decode cMO_freeBefore 0 = .ok (.aload_n 0, 1) := by decide +kernel
theorem dMO_freeBefore_1 : decode cMO_freeBefore 1 = .ok (.getfield 46, 3) := by decide +kernel
theorem dMO_freeBefore_4 : decode cMO_freeBefore 4 = .ok (.bipush 16, 2) := by decide +kernel
theorem dMO_freeBefore_6 : decode cMO_freeBefore 6 = .ok (.iload_n 1, 1) := by decide +kernel
theorem dMO_freeBefore_7 : decode cMO_freeBefore 7 = .ok (.imul, 1) := by decide +kernel
theorem dMO_freeBefore_8 : decode cMO_freeBefore 8 = .ok (.iload_n 2, 1) := by decide +kernel
theorem dMO_freeBefore_9 : decode cMO_freeBefore 9 = .ok (.iadd, 1) := by decide +kernel
theorem dMO_freeBefore_10 : decode cMO_freeBefore 10 = .ok (.baload, 1) := by decide +kernel
theorem dMO_freeBefore_11 : decode cMO_freeBefore 11 = .ok (.istore_n 3, 1) := by decide +kernel
theorem dMO_freeBefore_12 : decode cMO_freeBefore 12 = .ok (.iload_n 1, 1) := by decide +kernel
theorem dMO_freeBefore_13 : decode cMO_freeBefore 13 = .ok (.aload_n 0, 1) := by decide +kernel
theorem dMO_freeBefore_14 : decode cMO_freeBefore 14 = .ok (.getfield 94, 3) := by decide +kernel
theorem dMO_freeBefore_17 : decode cMO_freeBefore 17 = .ok (.if_icmp .eq 19, 3) := by decide +kernel
theorem dMO_freeBefore_20 : decode cMO_freeBefore 20 = .ok (.aload_n 0, 1) := by decide +kernel
theorem dMO_freeBefore_21 : decode cMO_freeBefore 21 = .ok (.getfield 7, 3) := by decide +kernel
theorem dMO_freeBefore_24 : decode cMO_freeBefore 24 = .ok (.aload_n 0, 1) := by decide +kernel
theorem dMO_freeBefore_25 : decode cMO_freeBefore 25 = .ok (.getfield 101, 3) := by decide +kernel
theorem dMO_freeBefore_28 : decode cMO_freeBefore 28 = .ok (.iload_n 1, 1) := by decide +kernel
theorem dMO_freeBefore_29 : decode cMO_freeBefore 29 = .ok (.iadd, 1) := by decide +kernel
theorem dMO_freeBefore_30 : decode cMO_freeBefore 30 = .ok (.iaload, 1) := by decide +kernel
theorem dMO_freeBefore_31 : decode cMO_freeBefore 31 = .ok (.bipush 14, 2) := by decide +kernel
theorem dMO_freeBefore_33 : decode cMO_freeBefore 33 = .ok (.if_icmp .ne 5, 3) := by decide +kernel
theorem dMO_freeBefore_36 : decode cMO_freeBefore 36 = .ok (.iload_n 3, 1) := by decide +kernel
theorem dMO_freeBefore_37 : decode cMO_freeBefore 37 = .ok (.ireturn, 1) := by decide +kernel
theorem dMO_freeBefore_38 : decode cMO_freeBefore 38 = .ok (.aload_n 0, 1) := by decide +kernel
theorem dMO_freeBefore_39 : decode cMO_freeBefore 39 = .ok (.getfield 7, 3) := by decide +kernel
theorem dMO_freeBefore_42 : decode cMO_freeBefore 42 = .ok (.aload_n 0, 1) := by decide +kernel
theorem dMO_freeBefore_43 : decode cMO_freeBefore 43 = .ok (.getfield 101, 3) := by decide +kernel
theorem dMO_freeBefore_46 : decode cMO_freeBefore 46 = .ok (.iload_n 1, 1) := by decide +kernel
theorem dMO_freeBefore_47 : decode cMO_freeBefore 47 = .ok (.iadd, 1) := by decide +kernel
theorem dMO_freeBefore_48 : decode cMO_freeBefore 48 = .ok (.iaload, 1) := by decide +kernel
theorem dMO_freeBefore_49 : decode cMO_freeBefore 49 = .ok (.istore 4, 2) := by decide +kernel
theorem dMO_freeBefore_51 : decode cMO_freeBefore 51 = .ok (.aload_n 0, 1) := by decide +kernel
theorem dMO_freeBefore_52 : decode cMO_freeBefore 52 = .ok (.iload_n 1, 1) := by decide +kernel
theorem dMO_freeBefore_53 : decode cMO_freeBefore 53 = .ok (.invokevirtual 118, 3) := by decide +kernel
theorem dMO_freeBefore_56 : decode cMO_freeBefore 56 = .ok (.ifCond .eq 20, 3) := by decide +kernel
theorem dMO_freeBefore_59 : decode cMO_freeBefore 59 = .ok (.iload_n 2, 1) := by decide +kernel
theorem dMO_freeBefore_60 : decode cMO_freeBefore 60 = .ok (.aload_n 0, 1) := by decide +kernel
theorem dMO_freeBefore_61 : decode cMO_freeBefore 61 = .ok (.getfield 13, 3) := by decide +kernel
theorem dMO_freeBefore_64 : decode cMO_freeBefore 64 = .ok (.aload_n 0, 1) := by decide +kernel
theorem dMO_freeBefore_65 : decode cMO_freeBefore 65 = .ok (.getfield 101, 3) := by decide +kernel
theorem dMO_freeBefore_68 : decode cMO_freeBefore 68 = .ok (.iload_n 1, 1) := by decide +kernel
theorem dMO_freeBefore_69 : decode cMO_freeBefore 69 = .ok (.iadd, 1) := by decide +kernel
theorem dMO_freeBefore_70 : decode cMO_freeBefore 70 = .ok (.iaload, 1) := by decide +kernel
theorem dMO_freeBefore_71 : decode cMO_freeBefore 71 = .ok (.if_icmp .ne 5, 3) := by decide +kernel
theorem dMO_freeBefore_74 : decode cMO_freeBefore 74 = .ok (.iconst 0, 1) := by decide +kernel
theorem dMO_freeBefore_75 : decode cMO_freeBefore 75 = .ok (.ireturn, 1) := by decide +kernel
theorem dMO_freeBefore_76 : decode cMO_freeBefore 76 = .ok (.iload 4, 2) := by decide +kernel
theorem dMO_freeBefore_78 : decode cMO_freeBefore 78 = .ok (.iconst 1, 1) := by decide +kernel
theorem dMO_freeBefore_79 : decode cMO_freeBefore 79 = .ok (.if_icmp .ne 52, 3) := by decide +kernel
theorem dMO_freeBefore_82 : decode cMO_freeBefore 82 = .ok (.iload_n 2, 1) := by decide +kernel
theorem dMO_freeBefore_83 : decode cMO_freeBefore 83 = .ok (.aload_n 0, 1) := by decide +kernel
theorem dMO_freeBefore_84 : decode cMO_freeBefore 84 = .ok (.getfield 16, 3) := by decide +kernel
theorem dMO_freeBefore_87 : decode cMO_freeBefore 87 = .ok (.aload_n 0, 1) := by decide +kernel
theorem dMO_freeBefore_88 : decode cMO_freeBefore 88 = .ok (.getfield 101, 3) := by decide +kernel
theorem dMO_freeBefore_91 : decode cMO_freeBefore 91 = .ok (.iload_n 1, 1) := by decide +kernel
theorem dMO_freeBefore_92 : decode cMO_freeBefore 92 = .ok (.iadd, 1) := by decide +kernel
theorem dMO_freeBefore_93 : decode cMO_freeBefore 93 = .ok (.iaload, 1) := by decide +kernel
theorem dMO_freeBefore_94 : decode cMO_freeBefore 94 = .ok (.if_icmp .ne 37, 3) := by decide +kernel
theorem dMO_freeBefore_97 : decode cMO_freeBefore 97 = .ok (.iload_n 3, 1) := by decide +kernel
theorem dMO_freeBefore_98 : decode cMO_freeBefore 98 = .ok (.ifCond .ne 27, 3) := by decide +kernel
theorem dMO_freeBefore_101 : decode cMO_freeBefore 101 = .ok (.aload_n 0, 1) := by decide +kernel
theorem dMO_freeBefore_102 : decode cMO_freeBefore 102 = .ok (.getfield 46, 3) := by decide +kernel
theorem dMO_freeBefore_105 : decode cMO_freeBefore 105 = .ok (.bipush 16, 2) := by decide +kernel
theorem dMO_freeBefore_107 : decode cMO_freeBefore 107 = .ok (.iload_n 1, 1) := by decide +kernel
theorem dMO_freeBefore_108 : decode cMO_freeBefore 108 = .ok (.imul, 1) := by decide +kernel
theorem dMO_freeBefore_109 : decode cMO_freeBefore 109 = .ok (.aload_n 0, 1) := by decide +kernel
theorem dMO_freeBefore_110 : decode cMO_freeBefore 110 = .ok (.getfield 13, 3) := by decide +kernel
theorem dMO_freeBefore_113 : decode cMO_freeBefore 113 = .ok (.aload_n 0, 1) := by decide +kernel
theorem dMO_freeBefore_114 : decode cMO_freeBefore 114 = .ok (.getfield 101, 3) := by decide +kernel
theorem dMO_freeBefore_117 : decode cMO_freeBefore 117 = .ok (.iload_n 1, 1) := by decide +kernel
theorem dMO_freeBefore_118 : decode cMO_freeBefore 118 = .ok (.iadd, 1) := by decide +kernel
theorem dMO_freeBefore_119 : decode cMO_freeBefore 119 = .ok (.iaload, 1) := by decide +kernel
theorem dMO_freeBefore_120 : decode cMO_freeBefore 120 = .ok (.iadd, 1) := by decide +kernel
theorem dMO_freeBefore_121 : decode cMO_freeBefore 121 = .ok (.baload, 1) := by decide +kernel
theorem dMO_freeBefore_122 : decode cMO_freeBefore 122 = .ok (.ifCond .eq 7, 3) := by decide +kernel
theorem dMO_freeBefore_125 : decode cMO_freeBefore 125 = .ok (.iconst 1, 1) := by decide +kernel
theorem dMO_freeBefore_126 : decode cMO_freeBefore 126 = .ok (.goto 4, 3) := by decide +kernel
theorem dMO_freeBefore_129 : decode cMO_freeBefore 129 = .ok (.iconst 0, 1) := by decide +kernel
theorem dMO_freeBefore_130 : decode cMO_freeBefore 130 = .ok (.istore_n 3, 1) := by decide +kernel
theorem dMO_freeBefore_131 : decode cMO_freeBefore 131 = .ok (.iload 4, 2) := by decide +kernel
theorem dMO_freeBefore_133 : decode cMO_freeBefore 133 = .ok (.bipush 9, 2) := by decide +kernel
theorem dMO_freeBefore_135 : decode cMO_freeBefore 135 = .ok (.if_icmp .ne 24, 3) := by decide +kernel
theorem dMO_freeBefore_138 : decode cMO_freeBefore 138 = .ok (.aload_n 0, 1) := by decide +kernel
theorem dMO_freeBefore_139 : decode cMO_freeBefore 139 = .ok (.iload_n 2, 1) := by decide +kernel
theorem dMO_freeBefore_140 : decode cMO_freeBefore 140 = .ok (.aload_n 0, 1) := by decide +kernel
theorem dMO_freeBefore_141 : decode cMO_freeBefore 141 = .ok (.getfield 16, 3) := by decide +kernel
theorem dMO_freeBefore_144 : decode cMO_freeBefore 144 = .ok (.aload_n 0, 1) := by decide +kernel
theorem dMO_freeBefore_145 : decode cMO_freeBefore 145 = .ok (.getfield 101, 3) := by decide +kernel
theorem dMO_freeBefore_148 : decode cMO_freeBefore 148 = .ok (.iload_n 1, 1) := by decide +kernel
theorem dMO_freeBefore_149 : decode cMO_freeBefore 149 = .ok (.iadd, 1) := by decide +kernel
theorem dMO_freeBefore_150 : decode cMO_freeBefore 150 = .ok (.iaload, 1) := by decide +kernel
theorem dMO_freeBefore_151 : decode cMO_freeBefore 151 = .ok (.invokevirtual 125, 3) := by decide +kernel
theorem dMO_freeBefore_154 : decode cMO_freeBefore 154 = .ok (.ifCond .eq 5, 3) := by decide +kernel
theorem dMO_freeBefore_157 : decode cMO_freeBefore 157 = .ok (.iconst 0, 1) := by decide +kernel
theorem dMO_freeBefore_158 : decode cMO_freeBefore 158 = .ok (.istore_n 3, 1) := by decide +kernel
theorem dMO_freeBefore_159 : decode cMO_freeBefore 159 = .ok (.iload_n 3, 1) := by decide +kernel
theorem dMO_freeBefore_160 : decode cMO_freeBefore 160 = .ok (.ifCond .ne 30, 3) := by decide +kernel
theorem dMO_freeBefore_163 : decode cMO_freeBefore 163 = .ok (.iload 4, 2) := by decide +kernel
theorem dMO_freeBefore_165 : decode cMO_freeBefore 165 = .ok (.bipush 10, 2) := by decide +kernel
theorem dMO_freeBefore_167 : decode cMO_freeBefore 167 = .ok (.if_icmp .ne 27, 3) := by decide +kernel
theorem dMO_freeBefore_170 : decode cMO_freeBefore 170 = .ok (.aload_n 0, 1) := by decide +kernel
theorem dMO_freeBefore_171 : decode cMO_freeBefore 171 = .ok (.iload_n 1, 1) := by decide +kernel
theorem dMO_freeBefore_172 : decode cMO_freeBefore 172 = .ok (.iload_n 2, 1) := by decide +kernel
theorem dMO_freeBefore_173 : decode cMO_freeBefore 173 = .ok (.aload_n 0, 1) := by decide +kernel
theorem dMO_freeBefore_174 : decode cMO_freeBefore 174 = .ok (.getfield 13, 3) := by decide +kernel
theorem dMO_freeBefore_177 : decode cMO_freeBefore 177 = .ok (.aload_n 0, 1) := by decide +kernel
theorem dMO_freeBefore_178 : decode cMO_freeBefore 178 = .ok (.getfield 101, 3) := by decide +kernel
theorem dMO_freeBefore_181 : decode cMO_freeBefore 181 = .ok (.iload_n 1, 1) := by decide +kernel
theorem dMO_freeBefore_182 : decode cMO_freeBefore 182 = .ok (.iadd, 1) := by decide +kernel
theorem dMO_freeBefore_183 : decode cMO_freeBefore 183 = .ok (.iaload, 1) := by decide +kernel
theorem dMO_freeBefore_184 : decode cMO_freeBefore 184 = .ok (.invokevirtual 128, 3) := by decide +kernel
theorem dMO_freeBefore_187 : decode cMO_freeBefore 187 = .ok (.ifCond .eq 7, 3) := by decide +kernel
theorem dMO_freeBefore_190 : decode cMO_freeBefore 190 = .ok (.iconst 1, 1) := by decide +kernel
theorem dMO_freeBefore_191 : decode cMO_freeBefore 191 = .ok (.goto 4, 3) := by decide +kernel
theorem dMO_freeBefore_194 : decode cMO_freeBefore 194 = .ok (.iconst 0, 1) := by decide +kernel
theorem dMO_freeBefore_195 : decode cMO_freeBefore 195 = .ok (.ireturn, 1) := by decide +kernel
theorem dMO_findFree_0 : decode cMO_findFree 0 = .ok (.iconst 0, 1) := by decide +kernel
theorem dMO_findFree_1 : decode cMO_findFree 1 = .ok (.istore_n 1, 1) := by decide +kernel
theorem dMO_findFree_2 : decode cMO_findFree 2 = .ok (.iload_n 1, 1) := by decide +kernel
theorem dMO_findFree_3 : decode cMO_findFree 3 = .ok (.aload_n 0, 1) := by decide +kernel
theorem dMO_findFree_4 : decode cMO_findFree 4 = .ok (.getfield 94, 3) := by decide +kernel
theorem dMO_findFree_7 : decode cMO_findFree 7 = .ok (.if_icmp .gt 129, 3) := by decide +kernel
theorem dMO_findFree_10 : decode cMO_findFree 10 = .ok (.iconst 0, 1) := by decide +kernel
theorem dMO_findFree_11 : decode cMO_findFree 11 = .ok (.istore_n 2, 1) := by decide +kernel
theorem dMO_findFree_12 : decode cMO_findFree 12 = .ok (.iload_n 2, 1) := by decide +kernel
theorem dMO_findFree_13 : decode cMO_findFree 13 = .ok (.bipush 16, 2) := by decide +kernel
theorem dMO_findFree_15 : decode cMO_findFree 15 = .ok (.if_icmp .ge 115, 3) := by decide +kernel
theorem dMO_findFree_18 : decode cMO_findFree 18 = .ok (.aload_n 0, 1) := by decide +kernel
theorem dMO_findFree_19 : decode cMO_findFree 19 = .ok (.getfield 33, 3) := by decide +kernel
theorem dMO_findFree_22 : decode cMO_findFree 22 = .ok (.iload_n 1, 1) := by decide +kernel
theorem dMO_findFree_23 : decode cMO_findFree 23 = .ok (.baload, 1) := by decide +kernel
theorem dMO_findFree_24 : decode cMO_findFree 24 = .ok (.istore_n 3, 1) := by decide +kernel
theorem dMO_findFree_25 : decode cMO_findFree 25 = .ok (.iconst 0, 1) := by decide +kernel
theorem dMO_findFree_26 : decode cMO_findFree 26 = .ok (.istore 4, 2) := by decide +kernel
theorem dMO_findFree_28 : decode cMO_findFree 28 = .ok (.iload 4, 2) := by decide +kernel
theorem dMO_findFree_30 : decode cMO_findFree 30 = .ok (.aload_n 0, 1) := by decide +kernel
theorem dMO_findFree_31 : decode cMO_findFree 31 = .ok (.getfield 94, 3) := by decide +kernel
theorem dMO_findFree_34 : decode cMO_findFree 34 = .ok (.if_icmp .ge 78, 3) := by decide +kernel
theorem dMO_findFree_37 : decode cMO_findFree 37 = .ok (.aload_n 0, 1) := by decide +kernel
theorem dMO_findFree_38 : decode cMO_findFree 38 = .ok (.iload_n 1, 1) := by decide +kernel
theorem dMO_findFree_39 : decode cMO_findFree 39 = .ok (.iconst 0, 1) := by decide +kernel
theorem dMO_findFree_40 : decode cMO_findFree 40 = .ok (.invokevirtual 114, 3) := by decide +kernel
theorem dMO_findFree_43 : decode cMO_findFree 43 = .ok (.iconst (-1), 1) := by decide +kernel
theorem dMO_findFree_44 : decode cMO_findFree 44 = .ok (.if_icmp .ne 68, 3) := by decide +kernel
theorem dMO_findFree_47 : decode cMO_findFree 47 = .ok (.iload_n 3, 1) := by decide +kernel
theorem dMO_findFree_48 : decode cMO_findFree 48 = .ok (.ifCond .eq 56, 3) := by decide +kernel
theorem dMO_findFree_51 : decode cMO_findFree 51 = .ok (.aload_n 0, 1) := by decide +kernel
theorem dMO_findFree_52 : decode cMO_findFree 52 = .ok (.getfield 25, 3) := by decide +kernel
theorem dMO_findFree_55 : decode cMO_findFree 55 = .ok (.sipush 200, 3) := by decide +kernel
theorem dMO_findFree_58 : decode cMO_findFree 58 = .ok (.iload_n 2, 1) := by decide +kernel
theorem dMO_findFree_59 : decode cMO_findFree 59 = .ok (.imul, 1) := by decide +kernel
theorem dMO_findFree_60 : decode cMO_findFree 60 = .ok (.iload 4, 2) := by decide +kernel
theorem dMO_findFree_62 : decode cMO_findFree 62 = .ok (.iadd, 1) := by decide +kernel
theorem dMO_findFree_63 : decode cMO_findFree 63 = .ok (.baload, 1) := by decide +kernel
theorem dMO_findFree_64 : decode cMO_findFree 64 = .ok (.ifCond .eq 36, 3) := by decide +kernel
theorem dMO_findFree_67 : decode cMO_findFree 67 = .ok (.aload_n 0, 1) := by decide +kernel
theorem dMO_findFree_68 : decode cMO_findFree 68 = .ok (.getfield 7, 3) := by decide +kernel
theorem dMO_findFree_71 : decode cMO_findFree 71 = .ok (.aload_n 0, 1) := by decide +kernel
theorem dMO_findFree_72 : decode cMO_findFree 72 = .ok (.getfield 101, 3) := by decide +kernel
theorem dMO_findFree_75 : decode cMO_findFree 75 = .ok (.iload 4, 2) := by decide +kernel
theorem dMO_findFree_77 : decode cMO_findFree 77 = .ok (.iadd, 1) := by decide +kernel
theorem dMO_findFree_78 : decode cMO_findFree 78 = .ok (.iaload, 1) := by decide +kernel
theorem dMO_findFree_79 : decode cMO_findFree 79 = .ok (.bipush 8, 2) := by decide +kernel
theorem dMO_findFree_81 : decode cMO_findFree 81 = .ok (.if_icmp .ne 19, 3) := by decide +kernel
theorem dMO_findFree_84 : decode cMO_findFree 84 = .ok (.aload_n 0, 1) := by decide +kernel
theorem dMO_findFree_85 : decode cMO_findFree 85 = .ok (.getfield 19, 3) := by decide +kernel
theorem dMO_findFree_88 : decode cMO_findFree 88 = .ok (.aload_n 0, 1) := by decide +kernel
theorem dMO_findFree_89 : decode cMO_findFree 89 = .ok (.getfield 101, 3) := by decide +kernel
theorem dMO_findFree_92 : decode cMO_findFree 92 = .ok (.iload 4, 2) := by decide +kernel
theorem dMO_findFree_94 : decode cMO_findFree 94 = .ok (.iadd, 1) := by decide +kernel
theorem dMO_findFree_95 : decode cMO_findFree 95 = .ok (.iaload, 1) := by decide +kernel
theorem dMO_findFree_96 : decode cMO_findFree 96 = .ok (.iconst 1, 1) := by decide +kernel
theorem dMO_findFree_97 : decode cMO_findFree 97 = .ok (.if_icmp .eq 7, 3) := by decide +kernel
theorem dMO_findFree_100 : decode cMO_findFree 100 = .ok (.iconst 1, 1) := by decide +kernel
theorem dMO_findFree_101 : decode cMO_findFree 101 = .ok (.goto 4, 3) := by decide +kernel
theorem dMO_findFree_104 : decode cMO_findFree 104 = .ok (.iconst 0, 1) := by decide +kernel
theorem dMO_findFree_105 : decode cMO_findFree 105 = .ok (.istore_n 3, 1) := by decide +kernel
theorem dMO_findFree_106 : decode cMO_findFree 106 = .ok (.iinc 4 1, 3) := by decide +kernel
theorem dMO_findFree_109 : decode cMO_findFree 109 = .ok (.goto (-81), 3) := by decide +kernel
theorem dMO_findFree_112 : decode cMO_findFree 112 = .ok (.aload_n 0, 1) := by decide +kernel
theorem dMO_findFree_113 : decode cMO_findFree 113 = .ok (.getfield 46, 3) := by decide +kernel
theorem dMO_findFree_116 : decode cMO_findFree 116 = .ok (.bipush 16, 2) := by decide +kernel
theorem dMO_findFree_118 : decode cMO_findFree 118 = .ok (.iload_n 1, 1) := by decide +kernel
theorem dMO_findFree_119 : decode cMO_findFree 119 = .ok (.imul, 1) := by decide +kernel
theorem dMO_findFree_120 : decode cMO_findFree 120 = .ok (.iload_n 2, 1) := by decide +kernel
theorem dMO_findFree_121 : decode cMO_findFree 121 = .ok (.iadd, 1) := by decide +kernel
theorem dMO_findFree_122 : decode cMO_findFree 122 = .ok (.iload_n 3, 1) := by decide +kernel
theorem dMO_findFree_123 : decode cMO_findFree 123 = .ok (.bastore, 1) := by decide +kernel
theorem dMO_findFree_124 : decode cMO_findFree 124 = .ok (.iinc 2 1, 3) := by decide +kernel
theorem dMO_findFree_127 : decode cMO_findFree 127 = .ok (.goto (-115), 3) := by decide +kernel
theorem dMO_findFree_130 : decode cMO_findFree 130 = .ok (.iinc 1 1, 3) := by decide +kernel
theorem dMO_findFree_133 : decode cMO_findFree 133 = .ok (.goto (-131), 3) := by decide +kernel
theorem dMO_findFree_136 : decode cMO_findFree 136 = .ok (.iconst 1, 1) := by decide +kernel
theorem dMO_findFree_137 : decode cMO_findFree 137 = .ok (.istore_n 1, 1) := by decide +kernel
theorem dMO_findFree_138 : decode cMO_findFree 138 = .ok (.iload_n 1, 1) := by decide +kernel
theorem dMO_findFree_139 : decode cMO_findFree 139 = .ok (.ifCond .eq 142, 3) := by decide +kernel
theorem dMO_findFree_142 : decode cMO_findFree 142 = .ok (.iconst 0, 1) := by decide +kernel
theorem dMO_findFree_143 : decode cMO_findFree 143 = .ok (.istore_n 1, 1) := by decide +kernel
theorem dMO_findFree_144 : decode cMO_findFree 144 = .ok (.aload_n 0, 1) := by decide +kernel
theorem dMO_findFree_145 : decode cMO_findFree 145 = .ok (.getfield 94, 3) := by decide +kernel
theorem dMO_findFree_148 : decode cMO_findFree 148 = .ok (.istore_n 2, 1) := by decide +kernel
theorem dMO_findFree_149 : decode cMO_findFree 149 = .ok (.iload_n 2, 1) := by decide +kernel
theorem dMO_findFree_150 : decode cMO_findFree 150 = .ok (.ifCond .lt 128, 3) := by decide +kernel
theorem dMO_findFree_153 : decode cMO_findFree 153 = .ok (.iconst 0, 1) := by decide +kernel
theorem dMO_findFree_154 : decode cMO_findFree 154 = .ok (.istore_n 3, 1) := by decide +kernel
theorem dMO_findFree_155 : decode cMO_findFree 155 = .ok (.iload_n 3, 1) := by decide +kernel
theorem dMO_findFree_156 : decode cMO_findFree 156 = .ok (.bipush 16, 2) := by decide +kernel
theorem dMO_findFree_158 : decode cMO_findFree 158 = .ok (.if_icmp .ge 114, 3) := by decide +kernel
theorem dMO_findFree_161 : decode cMO_findFree 161 = .ok (.aload_n 0, 1) := by decide +kernel
theorem dMO_findFree_162 : decode cMO_findFree 162 = .ok (.getfield 46, 3) := by decide +kernel
theorem dMO_findFree_165 : decode cMO_findFree 165 = .ok (.bipush 16, 2) := by decide +kernel
theorem dMO_findFree_167 : decode cMO_findFree 167 = .ok (.iload_n 2, 1) := by decide +kernel
theorem dMO_findFree_168 : decode cMO_findFree 168 = .ok (.imul, 1) := by decide +kernel
theorem dMO_findFree_169 : decode cMO_findFree 169 = .ok (.iload_n 3, 1) := by decide +kernel
theorem dMO_findFree_170 : decode cMO_findFree 170 = .ok (.iadd, 1) := by decide +kernel
theorem dMO_findFree_171 : decode cMO_findFree 171 = .ok (.baload, 1) := by decide +kernel
theorem dMO_findFree_172 : decode cMO_findFree 172 = .ok (.istore 4, 2) := by decide +kernel
theorem dMO_findFree_174 : decode cMO_findFree 174 = .ok (.iconst 0, 1) := by decide +kernel
theorem dMO_findFree_175 : decode cMO_findFree 175 = .ok (.istore 5, 2) := by decide +kernel
theorem dMO_findFree_177 : decode cMO_findFree 177 = .ok (.iload 5, 2) := by decide +kernel
theorem dMO_findFree_179 : decode cMO_findFree 179 = .ok (.iconst 2, 1) := by decide +kernel
theorem dMO_findFree_180 : decode cMO_findFree 180 = .ok (.if_icmp .ge 47, 3) := by decide +kernel
theorem dMO_findFree_183 : decode cMO_findFree 183 = .ok (.iload 4, 2) := by decide +kernel
theorem dMO_findFree_185 : decode cMO_findFree 185 = .ok (.ifCond .eq 33, 3) := by decide +kernel
theorem dMO_findFree_188 : decode cMO_findFree 188 = .ok (.aload_n 0, 1) := by decide +kernel
theorem dMO_findFree_189 : decode cMO_findFree 189 = .ok (.iload_n 2, 1) := by decide +kernel
theorem dMO_findFree_190 : decode cMO_findFree 190 = .ok (.iload 5, 2) := by decide +kernel
theorem dMO_findFree_192 : decode cMO_findFree 192 = .ok (.invokevirtual 114, 3) := by decide +kernel
theorem dMO_findFree_195 : decode cMO_findFree 195 = .ok (.iconst (-1), 1) := by decide +kernel
theorem dMO_findFree_196 : decode cMO_findFree 196 = .ok (.if_icmp .eq 18, 3) := by decide +kernel
theorem dMO_findFree_199 : decode cMO_findFree 199 = .ok (.aload_n 0, 1) := by decide +kernel
theorem dMO_findFree_200 : decode cMO_findFree 200 = .ok (.aload_n 0, 1) := by decide +kernel
theorem dMO_findFree_201 : decode cMO_findFree 201 = .ok (.iload_n 2, 1) := by decide +kernel
theorem dMO_findFree_202 : decode cMO_findFree 202 = .ok (.iload 5, 2) := by decide +kernel
theorem dMO_findFree_204 : decode cMO_findFree 204 = .ok (.invokevirtual 114, 3) := by decide +kernel
theorem dMO_findFree_207 : decode cMO_findFree 207 = .ok (.iload_n 3, 1) := by decide +kernel
theorem dMO_findFree_208 : decode cMO_findFree 208 = .ok (.invokevirtual 152, 3) := by decide +kernel
theorem dMO_findFree_211 : decode cMO_findFree 211 = .ok (.ifCond .eq 7, 3) := by decide +kernel
theorem dMO_findFree_214 : decode cMO_findFree 214 = .ok (.iconst 1, 1) := by decide +kernel
theorem dMO_findFree_215 : decode cMO_findFree 215 = .ok (.goto 4, 3) := by decide +kernel
theorem dMO_findFree_218 : decode cMO_findFree 218 = .ok (.iconst 0, 1) := by decide +kernel
theorem dMO_findFree_219 : decode cMO_findFree 219 = .ok (.istore 4, 2) := by decide +kernel
theorem dMO_findFree_221 : decode cMO_findFree 221 = .ok (.iinc 5 1, 3) := by decide +kernel
theorem dMO_findFree_224 : decode cMO_findFree 224 = .ok (.goto (-47), 3) := by decide +kernel
theorem dMO_findFree_227 : decode cMO_findFree 227 = .ok (.iload_n 1, 1) := by decide +kernel
theorem dMO_findFree_228 : decode cMO_findFree 228 = .ok (.ifCond .ne 19, 3) := by decide +kernel
theorem dMO_findFree_231 : decode cMO_findFree 231 = .ok (.iload 4, 2) := by decide +kernel
theorem dMO_findFree_233 : decode cMO_findFree 233 = .ok (.aload_n 0, 1) := by decide +kernel
theorem dMO_findFree_234 : decode cMO_findFree 234 = .ok (.getfield 46, 3) := by decide +kernel
theorem dMO_findFree_237 : decode cMO_findFree 237 = .ok (.bipush 16, 2) := by decide +kernel
theorem dMO_findFree_239 : decode cMO_findFree 239 = .ok (.iload_n 2, 1) := by decide +kernel
theorem dMO_findFree_240 : decode cMO_findFree 240 = .ok (.imul, 1) := by decide +kernel
theorem dMO_findFree_241 : decode cMO_findFree 241 = .ok (.iload_n 3, 1) := by decide +kernel
theorem dMO_findFree_242 : decode cMO_findFree 242 = .ok (.iadd, 1) := by decide +kernel
theorem dMO_findFree_243 : decode cMO_findFree 243 = .ok (.baload, 1) := by decide +kernel
theorem dMO_findFree_244 : decode cMO_findFree 244 = .ok (.if_icmp .eq 7, 3) := by decide +kernel
theorem dMO_findFree_247 : decode cMO_findFree 247 = .ok (.iconst 1, 1) := by decide +kernel
theorem dMO_findFree_248 : decode cMO_findFree 248 = .ok (.goto 4, 3) := by decide +kernel
theorem dMO_findFree_251 : decode cMO_findFree 251 = .ok (.iconst 0, 1) := by decide +kernel
theorem dMO_findFree_252 : decode cMO_findFree 252 = .ok (.istore_n 1, 1) := by decide +kernel
theorem dMO_findFree_253 : decode cMO_findFree 253 = .ok (.aload_n 0, 1) := by decide +kernel
theorem dMO_findFree_254 : decode cMO_findFree 254 = .ok (.getfield 46, 3) := by decide +kernel
theorem dMO_findFree_257 : decode cMO_findFree 257 = .ok (.bipush 16, 2) := by decide +kernel
theorem dMO_findFree_259 : decode cMO_findFree 259 = .ok (.iload_n 2, 1) := by decide +kernel
theorem dMO_findFree_260 : decode cMO_findFree 260 = .ok (.imul, 1) := by decide +kernel
theorem dMO_findFree_261 : decode cMO_findFree 261 = .ok (.iload_n 3, 1) := by decide +kernel
theorem dMO_findFree_262 : decode cMO_findFree 262 = .ok (.iadd, 1) := by decide +kernel
theorem dMO_findFree_263 : decode cMO_findFree 263 = .ok (.iload 4, 2) := by decide +kernel
theorem dMO_findFree_265 : decode cMO_findFree 265 = .ok (.bastore, 1) := by decide +kernel
theorem dMO_findFree_266 : decode cMO_findFree 266 = .ok (.iinc 3 1, 3) := by decide +kernel
theorem dMO_findFree_269 : decode cMO_findFree 269 = .ok (.goto (-114), 3) := by decide +kernel
theorem dMO_findFree_272 : decode cMO_findFree 272 = .ok (.iinc 2 (-1), 3) := by decide +kernel
theorem dMO_findFree_275 : decode cMO_findFree 275 = .ok (.goto (-126), 3) := by decide +kernel
theorem dMO_findFree_278 : decode cMO_findFree 278 = .ok (.goto (-140), 3) := by decide +kernel
theorem dMO_findFree_281 : decode cMO_findFree 281 = .ok (.return_, 1) := by decide +kernel
theorem dMO_find_0 : decode cMO_find 0 = .ok (.aload_n 0, 1) := by decide +kernel
theorem dMO_find_1 : decode cMO_find 1 = .ok (.iload_n 1, 1) := by decide +kernel
theorem dMO_find_2 : decode cMO_find 2 = .ok (.putfield 101, 3) := by decide +kernel
theorem dMO_find_5 : decode cMO_find 5 = .ok (.aload_n 0, 1) := by decide +kernel
theorem dMO_find_6 : decode cMO_find 6 = .ok (.invokevirtual 155, 3) := by decide +kernel
theorem dMO_find_9 : decode cMO_find 9 = .ok (.aload_n 0, 1) := by decide +kernel
theorem dMO_find_10 : decode cMO_find 10 = .ok (.invokevirtual 158, 3) := by decide +kernel
theorem dMO_find_13 : decode cMO_find 13 = .ok (.aload_n 0, 1) := by decide +kernel
theorem dMO_find_14 : decode cMO_find 14 = .ok (.invokevirtual 161, 3) := by decide +kernel
theorem dMO_find_17 : decode cMO_find 17 = .ok (.aload_n 0, 1) := by decide +kernel
theorem dMO_find_18 : decode cMO_find 18 = .ok (.invokevirtual 164, 3) := by decide +kernel
theorem dMO_find_21 : decode cMO_find 21 = .ok (.return_, 1) := by decide +kernel
theorem dMO_change_0 : decode cMO_change 0 = .ok (.aload_n 0, 1) := by decide +kernel
theorem dMO_change_1 : decode cMO_change 1 = .ok (.getfield 7, 3) := by decide +kernel
theorem dMO_change_4 : decode cMO_change 4 = .ok (.sipush 200, 3) := by decide +kernel
theorem dMO_change_7 : decode cMO_change 7 = .ok (.iload_n 1, 1) := by decide +kernel
theorem dMO_change_8 : decode cMO_change 8 = .ok (.iadd, 1) := by decide +kernel
theorem dMO_change_9 : decode cMO_change 9 = .ok (.iload_n 2, 1) := by decide +kernel
theorem dMO_change_10 : decode cMO_change 10 = .ok (.iastore, 1) := by decide +kernel
theorem dMO_change_11 : decode cMO_change 11 = .ok (.aload_n 0, 1) := by decide +kernel
theorem dMO_change_12 : decode cMO_change 12 = .ok (.getfield 13, 3) := by decide +kernel
theorem dMO_change_15 : decode cMO_change 15 = .ok (.sipush 200, 3) := by decide +kernel
theorem dMO_change_18 : decode cMO_change 18 = .ok (.iload_n 1, 1) := by decide +kernel
theorem dMO_change_19 : decode cMO_change 19 = .ok (.iadd, 1) := by decide +kernel
theorem dMO_change_20 : decode cMO_change 20 = .ok (.iload_n 3, 1) := by decide +kernel
theorem dMO_change_21 : decode cMO_change 21 = .ok (.iastore, 1) := by decide +kernel
theorem dMO_change_22 : decode cMO_change 22 = .ok (.aload_n 0, 1) := by decide +kernel
theorem dMO_change_23 : decode cMO_change 23 = .ok (.getfield 16, 3) := by decide +kernel
theorem dMO_change_26 : decode cMO_change 26 = .ok (.sipush 200, 3) := by decide +kernel
theorem dMO_change_29 : decode cMO_change 29 = .ok (.iload_n 1, 1) := by decide +kernel
theorem dMO_change_30 : decode cMO_change 30 = .ok (.iadd, 1) := by decide +kernel
theorem dMO_change_31 : decode cMO_change 31 = .ok (.iload 4, 2) := by decide +kernel
theorem dMO_change_33 : decode cMO_change 33 = .ok (.iastore, 1) := by decide +kernel
theorem dMO_change_34 : decode cMO_change 34 = .ok (.aload_n 0, 1) := by decide +kernel
theorem dMO_change_35 : decode cMO_change 35 = .ok (.getfield 19, 3) := by decide +kernel
theorem dMO_change_38 : decode cMO_change 38 = .ok (.sipush 200, 3) := by decide +kernel
theorem dMO_change_41 : decode cMO_change 41 = .ok (.iload_n 1, 1) := by decide +kernel
theorem dMO_change_42 : decode cMO_change 42 = .ok (.iadd, 1) := by decide +kernel
theorem dMO_change_43 : decode cMO_change 43 = .ok (.iconst 0, 1) := by decide +kernel
theorem dMO_change_44 : decode cMO_change 44 = .ok (.iastore, 1) := by decide +kernel
theorem dMO_change_45 : decode cMO_change 45 = .ok (.aload_n 0, 1) := by decide +kernel
theorem dMO_change_46 : decode cMO_change 46 = .ok (.getfield 22, 3) := by decide +kernel
theorem dMO_change_49 : decode cMO_change 49 = .ok (.iload_n 1, 1) := by decide +kernel
theorem dMO_change_50 : decode cMO_change 50 = .ok (.iload 5, 2) := by decide +kernel
theorem dMO_change_52 : decode cMO_change 52 = .ok (.iastore, 1) := by decide +kernel
theorem dMO_change_53 : decode cMO_change 53 = .ok (.iconst 1, 1) := by decide +kernel
theorem dMO_change_54 : decode cMO_change 54 = .ok (.ireturn, 1) := by decide +kernel
theorem dMO_forward_0 : decode cMO_forward 0 = .ok (.aload_n 0, 1) := by decide +kernel
theorem dMO_forward_1 : decode cMO_forward 1 = .ok (.sipush 200, 3) := by decide +kernel
theorem dMO_forward_4 : decode cMO_forward 4 = .ok (.invokevirtual 167, 3) := by decide +kernel
theorem dMO_forward_7 : decode cMO_forward 7 = .ok (.iconst 0, 1) := by decide +kernel
theorem dMO_forward_8 : decode cMO_forward 8 = .ok (.istore_n 1, 1) := by decide +kernel
theorem dMO_forward_9 : decode cMO_forward 9 = .ok (.iconst 0, 1) := by decide +kernel
theorem dMO_forward_10 : decode cMO_forward 10 = .ok (.istore_n 2, 1) := by decide +kernel
theorem dMO_forward_11 : decode cMO_forward 11 = .ok (.iload_n 2, 1) := by decide +kernel
theorem dMO_forward_12 : decode cMO_forward 12 = .ok (.aload_n 0, 1) := by decide +kernel
theorem dMO_forward_13 : decode cMO_forward 13 = .ok (.getfield 94, 3) := by decide +kernel
theorem dMO_forward_16 : decode cMO_forward 16 = .ok (.if_icmp .ge 159, 3) := by decide +kernel
theorem dMO_forward_19 : decode cMO_forward 19 = .ok (.aload_n 0, 1) := by decide +kernel
theorem dMO_forward_20 : decode cMO_forward 20 = .ok (.getfield 13, 3) := by decide +kernel
theorem dMO_forward_23 : decode cMO_forward 23 = .ok (.sipush 200, 3) := by decide +kernel
theorem dMO_forward_26 : decode cMO_forward 26 = .ok (.iload_n 2, 1) := by decide +kernel
theorem dMO_forward_27 : decode cMO_forward 27 = .ok (.iadd, 1) := by decide +kernel
theorem dMO_forward_28 : decode cMO_forward 28 = .ok (.iaload, 1) := by decide +kernel
theorem dMO_forward_29 : decode cMO_forward 29 = .ok (.istore_n 3, 1) := by decide +kernel
theorem dMO_forward_30 : decode cMO_forward 30 = .ok (.aload_n 0, 1) := by decide +kernel
theorem dMO_forward_31 : decode cMO_forward 31 = .ok (.getfield 16, 3) := by decide +kernel
theorem dMO_forward_34 : decode cMO_forward 34 = .ok (.sipush 200, 3) := by decide +kernel
theorem dMO_forward_37 : decode cMO_forward 37 = .ok (.iload_n 2, 1) := by decide +kernel
theorem dMO_forward_38 : decode cMO_forward 38 = .ok (.iadd, 1) := by decide +kernel
theorem dMO_forward_39 : decode cMO_forward 39 = .ok (.iaload, 1) := by decide +kernel
theorem dMO_forward_40 : decode cMO_forward 40 = .ok (.istore 4, 2) := by decide +kernel
theorem dMO_forward_42 : decode cMO_forward 42 = .ok (.aload_n 0, 1) := by decide +kernel
theorem dMO_forward_43 : decode cMO_forward 43 = .ok (.getfield 33, 3) := by decide +kernel
theorem dMO_forward_46 : decode cMO_forward 46 = .ok (.iload_n 2, 1) := by decide +kernel
theorem dMO_forward_47 : decode cMO_forward 47 = .ok (.baload, 1) := by decide +kernel
theorem dMO_forward_48 : decode cMO_forward 48 = .ok (.ifCond .eq 73, 3) := by decide +kernel
theorem dMO_forward_51 : decode cMO_forward 51 = .ok (.aload_n 0, 1) := by decide +kernel
theorem dMO_forward_52 : decode cMO_forward 52 = .ok (.getfield 7, 3) := by decide +kernel
theorem dMO_forward_55 : decode cMO_forward 55 = .ok (.sipush 200, 3) := by decide +kernel
theorem dMO_forward_58 : decode cMO_forward 58 = .ok (.iload_n 2, 1) := by decide +kernel
theorem dMO_forward_59 : decode cMO_forward 59 = .ok (.iadd, 1) := by decide +kernel
theorem dMO_forward_60 : decode cMO_forward 60 = .ok (.iaload, 1) := by decide +kernel
theorem dMO_forward_61 : decode cMO_forward 61 = .ok (.bipush 9, 2) := by decide +kernel
theorem dMO_forward_63 : decode cMO_forward 63 = .ok (.if_icmp .ne 58, 3) := by decide +kernel
theorem dMO_forward_66 : decode cMO_forward 66 = .ok (.iconst 0, 1) := by decide +kernel
theorem dMO_forward_67 : decode cMO_forward 67 = .ok (.istore 5, 2) := by decide +kernel
theorem dMO_forward_69 : decode cMO_forward 69 = .ok (.iload 5, 2) := by decide +kernel
theorem dMO_forward_71 : decode cMO_forward 71 = .ok (.bipush 16, 2) := by decide +kernel
theorem dMO_forward_73 : decode cMO_forward 73 = .ok (.if_icmp .ge 21, 3) := by decide +kernel
theorem dMO_forward_76 : decode cMO_forward 76 = .ok (.aload_n 0, 1) := by decide +kernel
theorem dMO_forward_77 : decode cMO_forward 77 = .ok (.iload_n 2, 1) := by decide +kernel
theorem dMO_forward_78 : decode cMO_forward 78 = .ok (.iload 4, 2) := by decide +kernel
theorem dMO_forward_80 : decode cMO_forward 80 = .ok (.iload 5, 2) := by decide +kernel
theorem dMO_forward_82 : decode cMO_forward 82 = .ok (.invokevirtual 121, 3) := by decide +kernel
theorem dMO_forward_85 : decode cMO_forward 85 = .ok (.ifCond .ne 9, 3) := by decide +kernel
theorem dMO_forward_88 : decode cMO_forward 88 = .ok (.iinc 5 1, 3) := by decide +kernel
theorem dMO_forward_91 : decode cMO_forward 91 = .ok (.goto (-22), 3) := by decide +kernel
theorem dMO_forward_94 : decode cMO_forward 94 = .ok (.iload 5, 2) := by decide +kernel
theorem dMO_forward_96 : decode cMO_forward 96 = .ok (.bipush 16, 2) := by decide +kernel
theorem dMO_forward_98 : decode cMO_forward 98 = .ok (.if_icmp .ge 18, 3) := by decide +kernel
theorem dMO_forward_101 : decode cMO_forward 101 = .ok (.iload_n 1, 1) := by decide +kernel
theorem dMO_forward_102 : decode cMO_forward 102 = .ok (.aload_n 0, 1) := by decide +kernel
theorem dMO_forward_103 : decode cMO_forward 103 = .ok (.iload_n 2, 1) := by decide +kernel
theorem dMO_forward_104 : decode cMO_forward 104 = .ok (.iconst 1, 1) := by decide +kernel
theorem dMO_forward_105 : decode cMO_forward 105 = .ok (.iload_n 3, 1) := by decide +kernel
theorem dMO_forward_106 : decode cMO_forward 106 = .ok (.iload 5, 2) := by decide +kernel
theorem dMO_forward_108 : decode cMO_forward 108 = .ok (.iconst 1, 1) := by decide +kernel
theorem dMO_forward_109 : decode cMO_forward 109 = .ok (.invokevirtual 170, 3) := by decide +kernel
theorem dMO_forward_112 : decode cMO_forward 112 = .ok (.iadd, 1) := by decide +kernel
theorem dMO_forward_113 : decode cMO_forward 113 = .ok (.goto 4, 3) := by decide +kernel
theorem dMO_forward_116 : decode cMO_forward 116 = .ok (.iload_n 1, 1) := by decide +kernel
theorem dMO_forward_117 : decode cMO_forward 117 = .ok (.istore_n 1, 1) := by decide +kernel
theorem dMO_forward_118 : decode cMO_forward 118 = .ok (.goto 51, 3) := by decide +kernel
theorem dMO_forward_121 : decode cMO_forward 121 = .ok (.aload_n 0, 1) := by decide +kernel
theorem dMO_forward_122 : decode cMO_forward 122 = .ok (.getfield 33, 3) := by decide +kernel
theorem dMO_forward_125 : decode cMO_forward 125 = .ok (.iload_n 2, 1) := by decide +kernel
theorem dMO_forward_126 : decode cMO_forward 126 = .ok (.baload, 1) := by decide +kernel
theorem dMO_forward_127 : decode cMO_forward 127 = .ok (.ifCond .eq 42, 3) := by decide +kernel
theorem dMO_forward_130 : decode cMO_forward 130 = .ok (.aload_n 0, 1) := by decide +kernel
theorem dMO_forward_131 : decode cMO_forward 131 = .ok (.getfield 7, 3) := by decide +kernel
theorem dMO_forward_134 : decode cMO_forward 134 = .ok (.sipush 200, 3) := by decide +kernel
theorem dMO_forward_137 : decode cMO_forward 137 = .ok (.iload_n 2, 1) := by decide +kernel
theorem dMO_forward_138 : decode cMO_forward 138 = .ok (.iadd, 1) := by decide +kernel
theorem dMO_forward_139 : decode cMO_forward 139 = .ok (.iaload, 1) := by decide +kernel
theorem dMO_forward_140 : decode cMO_forward 140 = .ok (.bipush 10, 2) := by decide +kernel
theorem dMO_forward_142 : decode cMO_forward 142 = .ok (.if_icmp .ne 27, 3) := by decide +kernel
theorem dMO_forward_145 : decode cMO_forward 145 = .ok (.aload_n 0, 1) := by decide +kernel
theorem dMO_forward_146 : decode cMO_forward 146 = .ok (.iload_n 2, 1) := by decide +kernel
theorem dMO_forward_147 : decode cMO_forward 147 = .ok (.iload_n 3, 1) := by decide +kernel
theorem dMO_forward_148 : decode cMO_forward 148 = .ok (.iload 4, 2) := by decide +kernel
theorem dMO_forward_150 : decode cMO_forward 150 = .ok (.invokevirtual 121, 3) := by decide +kernel
theorem dMO_forward_153 : decode cMO_forward 153 = .ok (.ifCond .eq 16, 3) := by decide +kernel
theorem dMO_forward_156 : decode cMO_forward 156 = .ok (.iload_n 1, 1) := by decide +kernel
theorem dMO_forward_157 : decode cMO_forward 157 = .ok (.aload_n 0, 1) := by decide +kernel
theorem dMO_forward_158 : decode cMO_forward 158 = .ok (.iload_n 2, 1) := by decide +kernel
theorem dMO_forward_159 : decode cMO_forward 159 = .ok (.bipush 15, 2) := by decide +kernel
theorem dMO_forward_161 : decode cMO_forward 161 = .ok (.iconst 0, 1) := by decide +kernel
theorem dMO_forward_162 : decode cMO_forward 162 = .ok (.iconst 0, 1) := by decide +kernel
theorem dMO_forward_163 : decode cMO_forward 163 = .ok (.iconst 2, 1) := by decide +kernel
theorem dMO_forward_164 : decode cMO_forward 164 = .ok (.invokevirtual 170, 3) := by decide +kernel
theorem dMO_forward_167 : decode cMO_forward 167 = .ok (.iadd, 1) := by decide +kernel
theorem dMO_forward_168 : decode cMO_forward 168 = .ok (.istore_n 1, 1) := by decide +kernel
theorem dMO_forward_169 : decode cMO_forward 169 = .ok (.iinc 2 1, 3) := by decide +kernel
theorem dMO_forward_172 : decode cMO_forward 172 = .ok (.goto (-161), 3) := by decide +kernel
theorem dMO_forward_175 : decode cMO_forward 175 = .ok (.iload_n 1, 1) := by decide +kernel
theorem dMO_forward_176 : decode cMO_forward 176 = .ok (.ireturn, 1) := by decide +kernel
theorem dMO_dead_0 : decode cMO_dead 0 = .ok (.aload_n 0, 1) := by decide +kernel
theorem dMO_dead_1 : decode cMO_dead 1 = .ok (.sipush 200, 3) := by decide +kernel
theorem dMO_dead_4 : decode cMO_dead 4 = .ok (.invokevirtual 167, 3) := by decide +kernel
theorem dMO_dead_7 : decode cMO_dead 7 = .ok (.iconst 0, 1) := by decide +kernel
theorem dMO_dead_8 : decode cMO_dead 8 = .ok (.istore_n 1, 1) := by decide +kernel
theorem dMO_dead_9 : decode cMO_dead 9 = .ok (.iconst 0, 1) := by decide +kernel
theorem dMO_dead_10 : decode cMO_dead 10 = .ok (.istore_n 2, 1) := by decide +kernel
theorem dMO_dead_11 : decode cMO_dead 11 = .ok (.iload_n 2, 1) := by decide +kernel
theorem dMO_dead_12 : decode cMO_dead 12 = .ok (.aload_n 0, 1) := by decide +kernel
theorem dMO_dead_13 : decode cMO_dead 13 = .ok (.getfield 94, 3) := by decide +kernel
theorem dMO_dead_16 : decode cMO_dead 16 = .ok (.if_icmp .ge 85, 3) := by decide +kernel
theorem dMO_dead_19 : decode cMO_dead 19 = .ok (.aload_n 0, 1) := by decide +kernel
theorem dMO_dead_20 : decode cMO_dead 20 = .ok (.getfield 13, 3) := by decide +kernel
theorem dMO_dead_23 : decode cMO_dead 23 = .ok (.sipush 200, 3) := by decide +kernel
theorem dMO_dead_26 : decode cMO_dead 26 = .ok (.iload_n 2, 1) := by decide +kernel
theorem dMO_dead_27 : decode cMO_dead 27 = .ok (.iadd, 1) := by decide +kernel
theorem dMO_dead_28 : decode cMO_dead 28 = .ok (.iaload, 1) := by decide +kernel
theorem dMO_dead_29 : decode cMO_dead 29 = .ok (.istore_n 3, 1) := by decide +kernel
theorem dMO_dead_30 : decode cMO_dead 30 = .ok (.aload_n 0, 1) := by decide +kernel
theorem dMO_dead_31 : decode cMO_dead 31 = .ok (.getfield 33, 3) := by decide +kernel
theorem dMO_dead_34 : decode cMO_dead 34 = .ok (.iload_n 2, 1) := by decide +kernel
theorem dMO_dead_35 : decode cMO_dead 35 = .ok (.baload, 1) := by decide +kernel
theorem dMO_dead_36 : decode cMO_dead 36 = .ok (.ifCond .eq 59, 3) := by decide +kernel
theorem dMO_dead_39 : decode cMO_dead 39 = .ok (.aload_n 0, 1) := by decide +kernel
theorem dMO_dead_40 : decode cMO_dead 40 = .ok (.getfield 7, 3) := by decide +kernel
theorem dMO_dead_43 : decode cMO_dead 43 = .ok (.sipush 200, 3) := by decide +kernel
theorem dMO_dead_46 : decode cMO_dead 46 = .ok (.iload_n 2, 1) := by decide +kernel
theorem dMO_dead_47 : decode cMO_dead 47 = .ok (.iadd, 1) := by decide +kernel
theorem dMO_dead_48 : decode cMO_dead 48 = .ok (.iaload, 1) := by decide +kernel
theorem dMO_dead_49 : decode cMO_dead 49 = .ok (.bipush 10, 2) := by decide +kernel
theorem dMO_dead_51 : decode cMO_dead 51 = .ok (.if_icmp .ne 44, 3) := by decide +kernel
theorem dMO_dead_54 : decode cMO_dead 54 = .ok (.aload_n 0, 1) := by decide +kernel
theorem dMO_dead_55 : decode cMO_dead 55 = .ok (.getfield 43, 3) := by decide +kernel
theorem dMO_dead_58 : decode cMO_dead 58 = .ok (.bipush 16, 2) := by decide +kernel
theorem dMO_dead_60 : decode cMO_dead 60 = .ok (.iload_n 2, 1) := by decide +kernel
theorem dMO_dead_61 : decode cMO_dead 61 = .ok (.imul, 1) := by decide +kernel
theorem dMO_dead_62 : decode cMO_dead 62 = .ok (.iload_n 3, 1) := by decide +kernel
theorem dMO_dead_63 : decode cMO_dead 63 = .ok (.iadd, 1) := by decide +kernel
theorem dMO_dead_64 : decode cMO_dead 64 = .ok (.baload, 1) := by decide +kernel
theorem dMO_dead_65 : decode cMO_dead 65 = .ok (.ifCond .eq 30, 3) := by decide +kernel
theorem dMO_dead_68 : decode cMO_dead 68 = .ok (.aload_n 0, 1) := by decide +kernel
theorem dMO_dead_69 : decode cMO_dead 69 = .ok (.getfield 46, 3) := by decide +kernel
theorem dMO_dead_72 : decode cMO_dead 72 = .ok (.bipush 16, 2) := by decide +kernel
theorem dMO_dead_74 : decode cMO_dead 74 = .ok (.iload_n 2, 1) := by decide +kernel
theorem dMO_dead_75 : decode cMO_dead 75 = .ok (.imul, 1) := by decide +kernel
theorem dMO_dead_76 : decode cMO_dead 76 = .ok (.iload_n 3, 1) := by decide +kernel
theorem dMO_dead_77 : decode cMO_dead 77 = .ok (.iadd, 1) := by decide +kernel
theorem dMO_dead_78 : decode cMO_dead 78 = .ok (.baload, 1) := by decide +kernel
theorem dMO_dead_79 : decode cMO_dead 79 = .ok (.ifCond .eq 16, 3) := by decide +kernel
theorem dMO_dead_82 : decode cMO_dead 82 = .ok (.iload_n 1, 1) := by decide +kernel
theorem dMO_dead_83 : decode cMO_dead 83 = .ok (.aload_n 0, 1) := by decide +kernel
theorem dMO_dead_84 : decode cMO_dead 84 = .ok (.iload_n 2, 1) := by decide +kernel
theorem dMO_dead_85 : decode cMO_dead 85 = .ok (.bipush 15, 2) := by decide +kernel
theorem dMO_dead_87 : decode cMO_dead 87 = .ok (.iconst 0, 1) := by decide +kernel
theorem dMO_dead_88 : decode cMO_dead 88 = .ok (.iconst 0, 1) := by decide +kernel
theorem dMO_dead_89 : decode cMO_dead 89 = .ok (.iconst 3, 1) := by decide +kernel
theorem dMO_dead_90 : decode cMO_dead 90 = .ok (.invokevirtual 170, 3) := by decide +kernel
theorem dMO_dead_93 : decode cMO_dead 93 = .ok (.iadd, 1) := by decide +kernel
theorem dMO_dead_94 : decode cMO_dead 94 = .ok (.istore_n 1, 1) := by decide +kernel
theorem dMO_dead_95 : decode cMO_dead 95 = .ok (.iinc 2 1, 3) := by decide +kernel
theorem dMO_dead_98 : decode cMO_dead 98 = .ok (.goto (-87), 3) := by decide +kernel
theorem dMO_dead_101 : decode cMO_dead 101 = .ok (.iload_n 1, 1) := by decide +kernel
theorem dMO_dead_102 : decode cMO_dead 102 = .ok (.ireturn, 1) := by decide +kernel
theorem dMO_thrift_0 : decode cMO_thrift 0 = .ok (.aload_n 0, 1) := by decide +kernel
theorem dMO_thrift_1 : decode cMO_thrift 1 = .ok (.aload_n 0, 1) := by decide +kernel
theorem dMO_thrift_2 : decode cMO_thrift 2 = .ok (.getfield 97, 3) := by decide +kernel
theorem dMO_thrift_5 : decode cMO_thrift 5 = .ok (.ifCond .eq 7, 3) := by decide +kernel
theorem dMO_thrift_8 : decode cMO_thrift 8 = .ok (.iconst 1, 1) := by decide +kernel
theorem dMO_thrift_9 : decode cMO_thrift 9 = .ok (.goto 4, 3) := by decide +kernel
theorem dMO_thrift_12 : decode cMO_thrift 12 = .ok (.iconst 0, 1) := by decide +kernel
theorem dMO_thrift_13 : decode cMO_thrift 13 = .ok (.putfield 83, 3) := by decide +kernel
theorem dMO_thrift_16 : decode cMO_thrift 16 = .ok (.aload_n 0, 1) := by decide +kernel
theorem dMO_thrift_17 : decode cMO_thrift 17 = .ok (.getfield 83, 3) := by decide +kernel
theorem dMO_thrift_20 : decode cMO_thrift 20 = .ok (.ifCond .le 5, 3) := by decide +kernel
theorem dMO_thrift_23 : decode cMO_thrift 23 = .ok (.iconst 0, 1) := by decide +kernel
theorem dMO_thrift_24 : decode cMO_thrift 24 = .ok (.ireturn, 1) := by decide +kernel
theorem dMO_thrift_25 : decode cMO_thrift 25 = .ok (.iconst 0, 1) := by decide +kernel
theorem dMO_thrift_26 : decode cMO_thrift 26 = .ok (.istore_n 1, 1) := by decide +kernel
theorem dMO_thrift_27 : decode cMO_thrift 27 = .ok (.iload_n 1, 1) := by decide +kernel
theorem dMO_thrift_28 : decode cMO_thrift 28 = .ok (.aload_n 0, 1) := by decide +kernel
theorem dMO_thrift_29 : decode cMO_thrift 29 = .ok (.getfield 94, 3) := by decide +kernel
theorem dMO_thrift_32 : decode cMO_thrift 32 = .ok (.if_icmp .ge 80, 3) := by decide +kernel
theorem dMO_thrift_35 : decode cMO_thrift 35 = .ok (.aload_n 0, 1) := by decide +kernel
theorem dMO_thrift_36 : decode cMO_thrift 36 = .ok (.getfield 7, 3) := by decide +kernel
theorem dMO_thrift_39 : decode cMO_thrift 39 = .ok (.sipush 200, 3) := by decide +kernel
theorem dMO_thrift_42 : decode cMO_thrift 42 = .ok (.iload_n 1, 1) := by decide +kernel
theorem dMO_thrift_43 : decode cMO_thrift 43 = .ok (.iadd, 1) := by decide +kernel
theorem dMO_thrift_44 : decode cMO_thrift 44 = .ok (.aload_n 0, 1) := by decide +kernel
theorem dMO_thrift_45 : decode cMO_thrift 45 = .ok (.getfield 7, 3) := by decide +kernel
theorem dMO_thrift_48 : decode cMO_thrift 48 = .ok (.iload_n 1, 1) := by decide +kernel
theorem dMO_thrift_49 : decode cMO_thrift 49 = .ok (.iaload, 1) := by decide +kernel
theorem dMO_thrift_50 : decode cMO_thrift 50 = .ok (.iastore, 1) := by decide +kernel
theorem dMO_thrift_51 : decode cMO_thrift 51 = .ok (.aload_n 0, 1) := by decide +kernel
theorem dMO_thrift_52 : decode cMO_thrift 52 = .ok (.getfield 13, 3) := by decide +kernel
theorem dMO_thrift_55 : decode cMO_thrift 55 = .ok (.sipush 200, 3) := by decide +kernel
theorem dMO_thrift_58 : decode cMO_thrift 58 = .ok (.iload_n 1, 1) := by decide +kernel
theorem dMO_thrift_59 : decode cMO_thrift 59 = .ok (.iadd, 1) := by decide +kernel
theorem dMO_thrift_60 : decode cMO_thrift 60 = .ok (.aload_n 0, 1) := by decide +kernel
theorem dMO_thrift_61 : decode cMO_thrift 61 = .ok (.getfield 13, 3) := by decide +kernel
theorem dMO_thrift_64 : decode cMO_thrift 64 = .ok (.iload_n 1, 1) := by decide +kernel
theorem dMO_thrift_65 : decode cMO_thrift 65 = .ok (.iaload, 1) := by decide +kernel
theorem dMO_thrift_66 : decode cMO_thrift 66 = .ok (.iastore, 1) := by decide +kernel
theorem dMO_thrift_67 : decode cMO_thrift 67 = .ok (.aload_n 0, 1) := by decide +kernel
theorem dMO_thrift_68 : decode cMO_thrift 68 = .ok (.getfield 16, 3) := by decide +kernel
theorem dMO_thrift_71 : decode cMO_thrift 71 = .ok (.sipush 200, 3) := by decide +kernel
theorem dMO_thrift_74 : decode cMO_thrift 74 = .ok (.iload_n 1, 1) := by decide +kernel
theorem dMO_thrift_75 : decode cMO_thrift 75 = .ok (.iadd, 1) := by decide +kernel
theorem dMO_thrift_76 : decode cMO_thrift 76 = .ok (.aload_n 0, 1) := by decide +kernel
theorem dMO_thrift_77 : decode cMO_thrift 77 = .ok (.getfield 16, 3) := by decide +kernel
theorem dMO_thrift_80 : decode cMO_thrift 80 = .ok (.iload_n 1, 1) := by decide +kernel
theorem dMO_thrift_81 : decode cMO_thrift 81 = .ok (.iaload, 1) := by decide +kernel
theorem dMO_thrift_82 : decode cMO_thrift 82 = .ok (.iastore, 1) := by decide +kernel
theorem dMO_thrift_83 : decode cMO_thrift 83 = .ok (.aload_n 0, 1) := by decide +kernel
theorem dMO_thrift_84 : decode cMO_thrift 84 = .ok (.getfield 19, 3) := by decide +kernel
theorem dMO_thrift_87 : decode cMO_thrift 87 = .ok (.sipush 200, 3) := by decide +kernel
theorem dMO_thrift_90 : decode cMO_thrift 90 = .ok (.iload_n 1, 1) := by decide +kernel
theorem dMO_thrift_91 : decode cMO_thrift 91 = .ok (.iadd, 1) := by decide +kernel
theorem dMO_thrift_92 : decode cMO_thrift 92 = .ok (.aload_n 0, 1) := by decide +kernel
theorem dMO_thrift_93 : decode cMO_thrift 93 = .ok (.getfield 19, 3) := by decide +kernel
theorem dMO_thrift_96 : decode cMO_thrift 96 = .ok (.iload_n 1, 1) := by decide +kernel
theorem dMO_thrift_97 : decode cMO_thrift 97 = .ok (.iaload, 1) := by decide +kernel
theorem dMO_thrift_98 : decode cMO_thrift 98 = .ok (.iastore, 1) := by decide +kernel
theorem dMO_thrift_99 : decode cMO_thrift 99 = .ok (.aload_n 0, 1) := by decide +kernel
theorem dMO_thrift_100 : decode cMO_thrift 100 = .ok (.getfield 22, 3) := by decide +kernel
theorem dMO_thrift_103 : decode cMO_thrift 103 = .ok (.iload_n 1, 1) := by decide +kernel
theorem dMO_thrift_104 : decode cMO_thrift 104 = .ok (.iconst 0, 1) := by decide +kernel
theorem dMO_thrift_105 : decode cMO_thrift 105 = .ok (.iastore, 1) := by decide +kernel
theorem dMO_thrift_106 : decode cMO_thrift 106 = .ok (.iinc 1 1, 3) := by decide +kernel
theorem dMO_thrift_109 : decode cMO_thrift 109 = .ok (.goto (-82), 3) := by decide +kernel
theorem dMO_thrift_112 : decode cMO_thrift 112 = .ok (.aload_n 0, 1) := by decide +kernel
theorem dMO_thrift_113 : decode cMO_thrift 113 = .ok (.iconst 0, 1) := by decide +kernel
theorem dMO_thrift_114 : decode cMO_thrift 114 = .ok (.putfield 174, 3) := by decide +kernel
theorem dMO_thrift_117 : decode cMO_thrift 117 = .ok (.iconst 0, 1) := by decide +kernel
theorem dMO_thrift_118 : decode cMO_thrift 118 = .ok (.istore_n 1, 1) := by decide +kernel
theorem dMO_thrift_119 : decode cMO_thrift 119 = .ok (.iconst 1, 1) := by decide +kernel
theorem dMO_thrift_120 : decode cMO_thrift 120 = .ok (.istore_n 2, 1) := by decide +kernel
theorem dMO_thrift_121 : decode cMO_thrift 121 = .ok (.iload_n 2, 1) := by decide +kernel
theorem dMO_thrift_122 : decode cMO_thrift 122 = .ok (.ifCond .le 32, 3) := by decide +kernel
theorem dMO_thrift_125 : decode cMO_thrift 125 = .ok (.aload_n 0, 1) := by decide +kernel
theorem dMO_thrift_126 : decode cMO_thrift 126 = .ok (.invokevirtual 177, 3) := by decide +kernel
theorem dMO_thrift_129 : decode cMO_thrift 129 = .ok (.istore_n 2, 1) := by decide +kernel
theorem dMO_thrift_130 : decode cMO_thrift 130 = .ok (.iload_n 2, 1) := by decide +kernel
theorem dMO_thrift_131 : decode cMO_thrift 131 = .ok (.aload_n 0, 1) := by decide +kernel
theorem dMO_thrift_132 : decode cMO_thrift 132 = .ok (.invokevirtual 181, 3) := by decide +kernel
theorem dMO_thrift_135 : decode cMO_thrift 135 = .ok (.iadd, 1) := by decide +kernel
theorem dMO_thrift_136 : decode cMO_thrift 136 = .ok (.istore_n 2, 1) := by decide +kernel
theorem dMO_thrift_137 : decode cMO_thrift 137 = .ok (.iload_n 1, 1) := by decide +kernel
theorem dMO_thrift_138 : decode cMO_thrift 138 = .ok (.iload_n 2, 1) := by decide +kernel
theorem dMO_thrift_139 : decode cMO_thrift 139 = .ok (.iadd, 1) := by decide +kernel
theorem dMO_thrift_140 : decode cMO_thrift 140 = .ok (.istore_n 1, 1) := by decide +kernel
theorem dMO_thrift_141 : decode cMO_thrift 141 = .ok (.aload_n 0, 1) := by decide +kernel
theorem dMO_thrift_142 : decode cMO_thrift 142 = .ok (.dup, 1) := by decide +kernel
theorem dMO_thrift_143 : decode cMO_thrift 143 = .ok (.getfield 174, 3) := by decide +kernel
theorem dMO_thrift_146 : decode cMO_thrift 146 = .ok (.iconst 1, 1) := by decide +kernel
theorem dMO_thrift_147 : decode cMO_thrift 147 = .ok (.iadd, 1) := by decide +kernel
theorem dMO_thrift_148 : decode cMO_thrift 148 = .ok (.putfield 174, 3) := by decide +kernel
theorem dMO_thrift_151 : decode cMO_thrift 151 = .ok (.goto (-30), 3) := by decide +kernel
theorem dMO_thrift_154 : decode cMO_thrift 154 = .ok (.aload_n 0, 1) := by decide +kernel
theorem dMO_thrift_155 : decode cMO_thrift 155 = .ok (.iconst 0, 1) := by decide +kernel
theorem dMO_thrift_156 : decode cMO_thrift 156 = .ok (.invokevirtual 167, 3) := by decide +kernel
theorem dMO_thrift_159 : decode cMO_thrift 159 = .ok (.aload_n 0, 1) := by decide +kernel
theorem dMO_thrift_160 : decode cMO_thrift 160 = .ok (.iconst 1, 1) := by decide +kernel
theorem dMO_thrift_161 : decode cMO_thrift 161 = .ok (.putfield 97, 3) := by decide +kernel
theorem dMO_thrift_164 : decode cMO_thrift 164 = .ok (.iload_n 1, 1) := by decide +kernel
theorem dMO_thrift_165 : decode cMO_thrift 165 = .ok (.ireturn, 1) := by decide +kernel
