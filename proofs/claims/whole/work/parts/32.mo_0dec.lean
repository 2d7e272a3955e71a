theorem dMO_put_0 : decode cMO_put 0 = .ok (.aload_n 0, 1) := by decide +kernel
theorem dMO_put_1 : decode cMO_put 1 = .ok (.getfield 58, 3) := by decide +kernel
theorem dMO_put_4 : decode cMO_put 4 = .ok (.iload_n 1, 1) := by decide +kernel
theorem dMO_put_5 : decode cMO_put 5 = .ok (.iload_n 2, 1) := by decide +kernel
theorem dMO_put_6 : decode cMO_put 6 = .ok (.iastore, 1) := by decide +kernel
theorem dMO_put_7 : decode cMO_put 7 = .ok (.aload_n 0, 1) := by decide +kernel
theorem dMO_put_8 : decode cMO_put 8 = .ok (.getfield 61, 3) := by decide +kernel
theorem dMO_put_11 : decode cMO_put 11 = .ok (.iload_n 1, 1) := by decide +kernel
theorem dMO_put_12 : decode cMO_put 12 = .ok (.iload_n 3, 1) := by decide +kernel
theorem dMO_put_13 : decode cMO_put 13 = .ok (.iastore, 1) := by decide +kernel
theorem dMO_put_14 : decode cMO_put 14 = .ok (.return_, 1) := by decide +kernel
theorem dMO_make_0 : decode cMO_make 0 = .ok (.aload_n 0, 1) := by decide +kernel
theorem dMO_make_1 : decode cMO_make 1 = .ok (.getfield 197, 3) := by decide +kernel
theorem dMO_make_4 : decode cMO_make 4 = .ok (.sipush 300, 3) := by decide +kernel
theorem dMO_make_7 : decode cMO_make 7 = .ok (.if_icmp .ne 9, 3) := by decide +kernel
theorem dMO_make_10 : decode cMO_make 10 = .ok (.aload_n 0, 1) := by decide +kernel
theorem dMO_make_11 : decode cMO_make 11 = .ok (.iconst 3, 1) := by decide +kernel
theorem dMO_make_12 : decode cMO_make 12 = .ok (.putfield 79, 3) := by decide +kernel
theorem dMO_make_15 : decode cMO_make 15 = .ok (.return_, 1) := by decide +kernel
theorem dMO_make_16 : decode cMO_make 16 = .ok (.aload_n 0, 1) := by decide +kernel
theorem dMO_make_17 : decode cMO_make 17 = .ok (.getfield 70, 3) := by decide +kernel
theorem dMO_make_20 : decode cMO_make 20 = .ok (.aload_n 0, 1) := by decide +kernel
theorem dMO_make_21 : decode cMO_make 21 = .ok (.getfield 197, 3) := by decide +kernel
theorem dMO_make_24 : decode cMO_make 24 = .ok (.iload_n 2, 1) := by decide +kernel
theorem dMO_make_25 : decode cMO_make 25 = .ok (.iastore, 1) := by decide +kernel
theorem dMO_make_26 : decode cMO_make 26 = .ok (.aload_n 0, 1) := by decide +kernel
theorem dMO_make_27 : decode cMO_make 27 = .ok (.getfield 73, 3) := by decide +kernel
theorem dMO_make_30 : decode cMO_make 30 = .ok (.aload_n 0, 1) := by decide +kernel
theorem dMO_make_31 : decode cMO_make 31 = .ok (.getfield 197, 3) := by decide +kernel
theorem dMO_make_34 : decode cMO_make 34 = .ok (.iload_n 3, 1) := by decide +kernel
theorem dMO_make_35 : decode cMO_make 35 = .ok (.iconst 1, 1) := by decide +kernel
theorem dMO_make_36 : decode cMO_make 36 = .ok (.if_icmp .ne 7, 3) := by decide +kernel
theorem dMO_make_39 : decode cMO_make 39 = .ok (.iconst 1, 1) := by decide +kernel
theorem dMO_make_40 : decode cMO_make 40 = .ok (.goto 4, 3) := by decide +kernel
theorem dMO_make_43 : decode cMO_make 43 = .ok (.iconst 0, 1) := by decide +kernel
theorem dMO_make_44 : decode cMO_make 44 = .ok (.bastore, 1) := by decide +kernel
theorem dMO_make_45 : decode cMO_make 45 = .ok (.iconst 0, 1) := by decide +kernel
theorem dMO_make_46 : decode cMO_make 46 = .ok (.istore 4, 2) := by decide +kernel
theorem dMO_make_48 : decode cMO_make 48 = .ok (.iload 4, 2) := by decide +kernel
theorem dMO_make_50 : decode cMO_make 50 = .ok (.iload_n 2, 1) := by decide +kernel
theorem dMO_make_51 : decode cMO_make 51 = .ok (.if_icmp .ge 41, 3) := by decide +kernel
theorem dMO_make_54 : decode cMO_make 54 = .ok (.aload_n 0, 1) := by decide +kernel
theorem dMO_make_55 : decode cMO_make 55 = .ok (.getfield 64, 3) := by decide +kernel
theorem dMO_make_58 : decode cMO_make 58 = .ok (.bipush 16, 2) := by decide +kernel
theorem dMO_make_60 : decode cMO_make 60 = .ok (.aload_n 0, 1) := by decide +kernel
theorem dMO_make_61 : decode cMO_make 61 = .ok (.getfield 197, 3) := by decide +kernel
theorem dMO_make_64 : decode cMO_make 64 = .ok (.imul, 1) := by decide +kernel
theorem dMO_make_65 : decode cMO_make 65 = .ok (.iload 4, 2) := by decide +kernel
theorem dMO_make_67 : decode cMO_make 67 = .ok (.iadd, 1) := by decide +kernel
theorem dMO_make_68 : decode cMO_make 68 = .ok (.iconst (-1), 1) := by decide +kernel
theorem dMO_make_69 : decode cMO_make 69 = .ok (.iastore, 1) := by decide +kernel
theorem dMO_make_70 : decode cMO_make 70 = .ok (.aload_n 0, 1) := by decide +kernel
theorem dMO_make_71 : decode cMO_make 71 = .ok (.getfield 67, 3) := by decide +kernel
theorem dMO_make_74 : decode cMO_make 74 = .ok (.bipush 16, 2) := by decide +kernel
theorem dMO_make_76 : decode cMO_make 76 = .ok (.aload_n 0, 1) := by decide +kernel
theorem dMO_make_77 : decode cMO_make 77 = .ok (.getfield 197, 3) := by decide +kernel
theorem dMO_make_80 : decode cMO_make 80 = .ok (.imul, 1) := by decide +kernel
theorem dMO_make_81 : decode cMO_make 81 = .ok (.iload 4, 2) := by decide +kernel
theorem dMO_make_83 : decode cMO_make 83 = .ok (.iadd, 1) := by decide +kernel
theorem dMO_make_84 : decode cMO_make 84 = .ok (.iconst 0, 1) := by decide +kernel
theorem dMO_make_85 : decode cMO_make 85 = .ok (.iastore, 1) := by decide +kernel
theorem dMO_make_86 : decode cMO_make 86 = .ok (.iinc 4 1, 3) := by decide +kernel
theorem dMO_make_89 : decode cMO_make 89 = .ok (.goto (-41), 3) := by decide +kernel
theorem dMO_make_92 : decode cMO_make 92 = .ok (.aload_n 0, 1) := by decide +kernel
theorem dMO_make_93 : decode cMO_make 93 = .ok (.iload_n 1, 1) := by decide +kernel
theorem dMO_make_94 : decode cMO_make 94 = .ok (.aload_n 0, 1) := by decide +kernel
theorem dMO_make_95 : decode cMO_make 95 = .ok (.getfield 197, 3) := by decide +kernel
theorem dMO_make_98 : decode cMO_make 98 = .ok (.iconst 0, 1) := by decide +kernel
theorem dMO_make_99 : decode cMO_make 99 = .ok (.invokevirtual 187, 3) := by decide +kernel
theorem dMO_make_102 : decode cMO_make 102 = .ok (.aload_n 0, 1) := by decide +kernel
theorem dMO_make_103 : decode cMO_make 103 = .ok (.dup, 1) := by decide +kernel
theorem dMO_make_104 : decode cMO_make 104 = .ok (.getfield 197, 3) := by decide +kernel
theorem dMO_make_107 : decode cMO_make 107 = .ok (.iconst 1, 1) := by decide +kernel
theorem dMO_make_108 : decode cMO_make 108 = .ok (.iadd, 1) := by decide +kernel
theorem dMO_make_109 : decode cMO_make 109 = .ok (.putfield 197, 3) := by decide +kernel
theorem dMO_make_112 : decode cMO_make 112 = .ok (.return_, 1) := by decide +kernel
theorem dMO_printNumber_0 : decode cMO_printNumber 0 = .ok (.aload_n 0, 1) := by decide +kernel
theorem dMO_printNumber_1 : decode cMO_printNumber 1 = .ok (.iload_n 1, 1) := by decide +kernel
theorem dMO_printNumber_2 : decode cMO_printNumber 2 = .ok (.ifCond .eq 7, 3) := by decide +kernel
theorem dMO_printNumber_5 : decode cMO_printNumber 5 = .ok (.iconst 1, 1) := by decide +kernel
theorem dMO_printNumber_6 : decode cMO_printNumber 6 = .ok (.goto 21, 3) := by decide +kernel
theorem dMO_printNumber_9 : decode cMO_printNumber 9 = .ok (.aload_n 0, 1) := by decide +kernel
theorem dMO_printNumber_10 : decode cMO_printNumber 10 = .ok (.getfield 200, 3) := by decide +kernel
theorem dMO_printNumber_13 : decode cMO_printNumber 13 = .ok (.sipush 200, 3) := by decide +kernel
theorem dMO_printNumber_16 : decode cMO_printNumber 16 = .ok (.if_icmp .ne 7, 3) := by decide +kernel
theorem dMO_printNumber_19 : decode cMO_printNumber 19 = .ok (.iconst 3, 1) := by decide +kernel
theorem dMO_printNumber_20 : decode cMO_printNumber 20 = .ok (.goto 7, 3) := by decide +kernel
theorem dMO_printNumber_23 : decode cMO_printNumber 23 = .ok (.aload_n 0, 1) := by decide +kernel
theorem dMO_printNumber_24 : decode cMO_printNumber 24 = .ok (.getfield 79, 3) := by decide +kernel
theorem dMO_printNumber_27 : decode cMO_printNumber 27 = .ok (.putfield 79, 3) := by decide +kernel
theorem dMO_printNumber_30 : decode cMO_printNumber 30 = .ok (.aload_n 0, 1) := by decide +kernel
theorem dMO_printNumber_31 : decode cMO_printNumber 31 = .ok (.getfield 79, 3) := by decide +kernel
theorem dMO_printNumber_34 : decode cMO_printNumber 34 = .ok (.iconst (-1), 1) := by decide +kernel
theorem dMO_printNumber_35 : decode cMO_printNumber 35 = .ok (.if_icmp .eq 4, 3) := by decide +kernel
theorem dMO_printNumber_38 : decode cMO_printNumber 38 = .ok (.return_, 1) := by decide +kernel
theorem dMO_printNumber_39 : decode cMO_printNumber 39 = .ok (.aload_n 0, 1) := by decide +kernel
theorem dMO_printNumber_40 : decode cMO_printNumber 40 = .ok (.getfield 76, 3) := by decide +kernel
theorem dMO_printNumber_43 : decode cMO_printNumber 43 = .ok (.aload_n 0, 1) := by decide +kernel
theorem dMO_printNumber_44 : decode cMO_printNumber 44 = .ok (.getfield 200, 3) := by decide +kernel
theorem dMO_printNumber_47 : decode cMO_printNumber 47 = .ok (.iload_n 2, 1) := by decide +kernel
theorem dMO_printNumber_48 : decode cMO_printNumber 48 = .ok (.iastore, 1) := by decide +kernel
theorem dMO_printNumber_49 : decode cMO_printNumber 49 = .ok (.aload_n 0, 1) := by decide +kernel
theorem dMO_printNumber_50 : decode cMO_printNumber 50 = .ok (.dup, 1) := by decide +kernel
theorem dMO_printNumber_51 : decode cMO_printNumber 51 = .ok (.getfield 200, 3) := by decide +kernel
theorem dMO_printNumber_54 : decode cMO_printNumber 54 = .ok (.iconst 1, 1) := by decide +kernel
theorem dMO_printNumber_55 : decode cMO_printNumber 55 = .ok (.iadd, 1) := by decide +kernel
theorem dMO_printNumber_56 : decode cMO_printNumber 56 = .ok (.putfield 200, 3) := by decide +kernel
theorem dMO_printNumber_59 : decode cMO_printNumber 59 = .ok (.return_, 1) := by decide +kernel
theorem dMO_step_0 : decode cMO_step 0 = .ok (.aload_n 0, 1) := by decide +kernel
theorem dMO_step_1 : decode cMO_step 1 = .ok (.getfield 13, 3) := by decide +kernel
theorem dMO_step_4 : decode cMO_step 4 = .ok (.aload_n 0, 1) := by decide +kernel
theorem dMO_step_5 : decode cMO_step 5 = .ok (.getfield 101, 3) := by decide +kernel
theorem dMO_step_8 : decode cMO_step 8 = .ok (.iload_n 1, 1) := by decide +kernel
theorem dMO_step_9 : decode cMO_step 9 = .ok (.iadd, 1) := by decide +kernel
theorem dMO_step_10 : decode cMO_step 10 = .ok (.iaload, 1) := by decide +kernel
theorem dMO_step_11 : decode cMO_step 11 = .ok (.istore_n 2, 1) := by decide +kernel
theorem dMO_step_12 : decode cMO_step 12 = .ok (.aload_n 0, 1) := by decide +kernel
theorem dMO_step_13 : decode cMO_step 13 = .ok (.getfield 16, 3) := by decide +kernel
theorem dMO_step_16 : decode cMO_step 16 = .ok (.aload_n 0, 1) := by decide +kernel
theorem dMO_step_17 : decode cMO_step 17 = .ok (.getfield 101, 3) := by decide +kernel
theorem dMO_step_20 : decode cMO_step 20 = .ok (.iload_n 1, 1) := by decide +kernel
theorem dMO_step_21 : decode cMO_step 21 = .ok (.iadd, 1) := by decide +kernel
theorem dMO_step_22 : decode cMO_step 22 = .ok (.iaload, 1) := by decide +kernel
theorem dMO_step_23 : decode cMO_step 23 = .ok (.istore_n 3, 1) := by decide +kernel
theorem dMO_step_24 : decode cMO_step 24 = .ok (.aload_n 0, 1) := by decide +kernel
theorem dMO_step_25 : decode cMO_step 25 = .ok (.getfield 19, 3) := by decide +kernel
theorem dMO_step_28 : decode cMO_step 28 = .ok (.aload_n 0, 1) := by decide +kernel
theorem dMO_step_29 : decode cMO_step 29 = .ok (.getfield 101, 3) := by decide +kernel
theorem dMO_step_32 : decode cMO_step 32 = .ok (.iload_n 1, 1) := by decide +kernel
theorem dMO_step_33 : decode cMO_step 33 = .ok (.iadd, 1) := by decide +kernel
theorem dMO_step_34 : decode cMO_step 34 = .ok (.iaload, 1) := by decide +kernel
theorem dMO_step_35 : decode cMO_step 35 = .ok (.istore 4, 2) := by decide +kernel
theorem dMO_step_37 : decode cMO_step 37 = .ok (.aload_n 0, 1) := by decide +kernel
theorem dMO_step_38 : decode cMO_step 38 = .ok (.getfield 7, 3) := by decide +kernel
theorem dMO_step_41 : decode cMO_step 41 = .ok (.aload_n 0, 1) := by decide +kernel
theorem dMO_step_42 : decode cMO_step 42 = .ok (.getfield 101, 3) := by decide +kernel
theorem dMO_step_45 : decode cMO_step 45 = .ok (.iload_n 1, 1) := by decide +kernel
theorem dMO_step_46 : decode cMO_step 46 = .ok (.iadd, 1) := by decide +kernel
theorem dMO_step_47 : decode cMO_step 47 = .ok (.iaload, 1) := by decide +kernel
theorem dMO_step_48 : decode cMO_step 48 = .ok (.istore 5, 2) := by decide +kernel
theorem dMO_step_50 : decode cMO_step 50 = .ok (.iload 5, 2) := by decide +kernel
theorem dMO_step_52 : decode cMO_step 52 = .ok (.ifCond .ne 10, 3) := by decide +kernel
theorem dMO_step_55 : decode cMO_step 55 = .ok (.aload_n 0, 1) := by decide +kernel
theorem dMO_step_56 : decode cMO_step 56 = .ok (.iload_n 2, 1) := by decide +kernel
theorem dMO_step_57 : decode cMO_step 57 = .ok (.iconst (-1), 1) := by decide +kernel
theorem dMO_step_58 : decode cMO_step 58 = .ok (.iload_n 3, 1) := by decide +kernel
theorem dMO_step_59 : decode cMO_step 59 = .ok (.invokevirtual 187, 3) := by decide +kernel
theorem dMO_step_62 : decode cMO_step 62 = .ok (.iload 5, 2) := by decide +kernel
theorem dMO_step_64 : decode cMO_step 64 = .ok (.iconst 1, 1) := by decide +kernel
theorem dMO_step_65 : decode cMO_step 65 = .ok (.if_icmp .ne 20, 3) := by decide +kernel
theorem dMO_step_68 : decode cMO_step 68 = .ok (.aload_n 0, 1) := by decide +kernel
theorem dMO_step_69 : decode cMO_step 69 = .ok (.iload_n 2, 1) := by decide +kernel
theorem dMO_step_70 : decode cMO_step 70 = .ok (.aload_n 0, 1) := by decide +kernel
theorem dMO_step_71 : decode cMO_step 71 = .ok (.getfield 58, 3) := by decide +kernel
theorem dMO_step_74 : decode cMO_step 74 = .ok (.iload_n 3, 1) := by decide +kernel
theorem dMO_step_75 : decode cMO_step 75 = .ok (.iaload, 1) := by decide +kernel
theorem dMO_step_76 : decode cMO_step 76 = .ok (.aload_n 0, 1) := by decide +kernel
theorem dMO_step_77 : decode cMO_step 77 = .ok (.getfield 61, 3) := by decide +kernel
theorem dMO_step_80 : decode cMO_step 80 = .ok (.iload_n 3, 1) := by decide +kernel
theorem dMO_step_81 : decode cMO_step 81 = .ok (.iaload, 1) := by decide +kernel
theorem dMO_step_82 : decode cMO_step 82 = .ok (.invokevirtual 187, 3) := by decide +kernel
theorem dMO_step_85 : decode cMO_step 85 = .ok (.iload 5, 2) := by decide +kernel
theorem dMO_step_87 : decode cMO_step 87 = .ok (.iconst 1, 1) := by decide +kernel
theorem dMO_step_88 : decode cMO_step 88 = .ok (.if_icmp .le 116, 3) := by decide +kernel
theorem dMO_step_91 : decode cMO_step 91 = .ok (.iload 5, 2) := by decide +kernel
theorem dMO_step_93 : decode cMO_step 93 = .ok (.bipush 6, 2) := by decide +kernel
theorem dMO_step_95 : decode cMO_step 95 = .ok (.if_icmp .ge 109, 3) := by decide +kernel
theorem dMO_step_98 : decode cMO_step 98 = .ok (.aload_n 0, 1) := by decide +kernel
theorem dMO_step_99 : decode cMO_step 99 = .ok (.getfield 61, 3) := by decide +kernel
theorem dMO_step_102 : decode cMO_step 102 = .ok (.iload_n 3, 1) := by decide +kernel
theorem dMO_step_103 : decode cMO_step 103 = .ok (.iaload, 1) := by decide +kernel
theorem dMO_step_104 : decode cMO_step 104 = .ok (.istore 6, 2) := by decide +kernel
theorem dMO_step_106 : decode cMO_step 106 = .ok (.aload_n 0, 1) := by decide +kernel
theorem dMO_step_107 : decode cMO_step 107 = .ok (.getfield 61, 3) := by decide +kernel
theorem dMO_step_110 : decode cMO_step 110 = .ok (.iload 4, 2) := by decide +kernel
theorem dMO_step_112 : decode cMO_step 112 = .ok (.iaload, 1) := by decide +kernel
theorem dMO_step_113 : decode cMO_step 113 = .ok (.istore 7, 2) := by decide +kernel
theorem dMO_step_115 : decode cMO_step 115 = .ok (.aload_n 0, 1) := by decide +kernel
theorem dMO_step_116 : decode cMO_step 116 = .ok (.getfield 58, 3) := by decide +kernel
theorem dMO_step_119 : decode cMO_step 119 = .ok (.iload_n 3, 1) := by decide +kernel
theorem dMO_step_120 : decode cMO_step 120 = .ok (.iaload, 1) := by decide +kernel
theorem dMO_step_121 : decode cMO_step 121 = .ok (.iconst (-1), 1) := by decide +kernel
theorem dMO_step_122 : decode cMO_step 122 = .ok (.if_icmp .ne 14, 3) := by decide +kernel
theorem dMO_step_125 : decode cMO_step 125 = .ok (.aload_n 0, 1) := by decide +kernel
theorem dMO_step_126 : decode cMO_step 126 = .ok (.getfield 58, 3) := by decide +kernel
theorem dMO_step_129 : decode cMO_step 129 = .ok (.iload 4, 2) := by decide +kernel
theorem dMO_step_131 : decode cMO_step 131 = .ok (.iaload, 1) := by decide +kernel
theorem dMO_step_132 : decode cMO_step 132 = .ok (.iconst (-1), 1) := by decide +kernel
theorem dMO_step_133 : decode cMO_step 133 = .ok (.if_icmp .eq 11, 3) := by decide +kernel
theorem dMO_step_136 : decode cMO_step 136 = .ok (.aload_n 0, 1) := by decide +kernel
theorem dMO_step_137 : decode cMO_step 137 = .ok (.iconst 1, 1) := by decide +kernel
theorem dMO_step_138 : decode cMO_step 138 = .ok (.putfield 79, 3) := by decide +kernel
theorem dMO_step_141 : decode cMO_step 141 = .ok (.goto 63, 3) := by decide +kernel
theorem dMO_step_144 : decode cMO_step 144 = .ok (.aload_n 0, 1) := by decide +kernel
theorem dMO_step_145 : decode cMO_step 145 = .ok (.iload_n 2, 1) := by decide +kernel
theorem dMO_step_146 : decode cMO_step 146 = .ok (.iconst (-1), 1) := by decide +kernel
theorem dMO_step_147 : decode cMO_step 147 = .ok (.iload 5, 2) := by decide +kernel
theorem dMO_step_149 : decode cMO_step 149 = .ok (.iconst 2, 1) := by decide +kernel
theorem dMO_step_150 : decode cMO_step 150 = .ok (.if_icmp .ne 11, 3) := by decide +kernel
theorem dMO_step_153 : decode cMO_step 153 = .ok (.iload 6, 2) := by decide +kernel
theorem dMO_step_155 : decode cMO_step 155 = .ok (.iload 7, 2) := by decide +kernel
theorem dMO_step_157 : decode cMO_step 157 = .ok (.iadd, 1) := by decide +kernel
theorem dMO_step_158 : decode cMO_step 158 = .ok (.goto 43, 3) := by decide +kernel
theorem dMO_step_161 : decode cMO_step 161 = .ok (.iload 5, 2) := by decide +kernel
theorem dMO_step_163 : decode cMO_step 163 = .ok (.iconst 3, 1) := by decide +kernel
theorem dMO_step_164 : decode cMO_step 164 = .ok (.if_icmp .ne 11, 3) := by decide +kernel
theorem dMO_step_167 : decode cMO_step 167 = .ok (.iload 6, 2) := by decide +kernel
theorem dMO_step_169 : decode cMO_step 169 = .ok (.iload 7, 2) := by decide +kernel
theorem dMO_step_171 : decode cMO_step 171 = .ok (.isub, 1) := by decide +kernel
theorem dMO_step_172 : decode cMO_step 172 = .ok (.goto 29, 3) := by decide +kernel
theorem dMO_step_175 : decode cMO_step 175 = .ok (.iload 5, 2) := by decide +kernel
theorem dMO_step_177 : decode cMO_step 177 = .ok (.iconst 4, 1) := by decide +kernel
theorem dMO_step_178 : decode cMO_step 178 = .ok (.if_icmp .ne 11, 3) := by decide +kernel
theorem dMO_step_181 : decode cMO_step 181 = .ok (.iload 6, 2) := by decide +kernel
theorem dMO_step_183 : decode cMO_step 183 = .ok (.iload 7, 2) := by decide +kernel
theorem dMO_step_185 : decode cMO_step 185 = .ok (.imul, 1) := by decide +kernel
theorem dMO_step_186 : decode cMO_step 186 = .ok (.goto 15, 3) := by decide +kernel
theorem dMO_step_189 : decode cMO_step 189 = .ok (.iload 6, 2) := by decide +kernel
theorem dMO_step_191 : decode cMO_step 191 = .ok (.iload 7, 2) := by decide +kernel
theorem dMO_step_193 : decode cMO_step 193 = .ok (.if_icmp .ge 7, 3) := by decide +kernel
theorem dMO_step_196 : decode cMO_step 196 = .ok (.iconst 1, 1) := by decide +kernel
theorem dMO_step_197 : decode cMO_step 197 = .ok (.goto 4, 3) := by decide +kernel
theorem dMO_step_200 : decode cMO_step 200 = .ok (.iconst 0, 1) := by decide +kernel
theorem dMO_step_201 : decode cMO_step 201 = .ok (.invokevirtual 187, 3) := by decide +kernel
theorem dMO_step_204 : decode cMO_step 204 = .ok (.iload 5, 2) := by decide +kernel
theorem dMO_step_206 : decode cMO_step 206 = .ok (.bipush 6, 2) := by decide +kernel
theorem dMO_step_208 : decode cMO_step 208 = .ok (.if_icmp .ne 46, 3) := by decide +kernel
theorem dMO_step_211 : decode cMO_step 211 = .ok (.aload_n 0, 1) := by decide +kernel
theorem dMO_step_212 : decode cMO_step 212 = .ok (.iload_n 2, 1) := by decide +kernel
theorem dMO_step_213 : decode cMO_step 213 = .ok (.iconst (-1), 1) := by decide +kernel
theorem dMO_step_214 : decode cMO_step 214 = .ok (.aload_n 0, 1) := by decide +kernel
theorem dMO_step_215 : decode cMO_step 215 = .ok (.getfield 58, 3) := by decide +kernel
theorem dMO_step_218 : decode cMO_step 218 = .ok (.iload_n 3, 1) := by decide +kernel
theorem dMO_step_219 : decode cMO_step 219 = .ok (.iaload, 1) := by decide +kernel
theorem dMO_step_220 : decode cMO_step 220 = .ok (.aload_n 0, 1) := by decide +kernel
theorem dMO_step_221 : decode cMO_step 221 = .ok (.getfield 58, 3) := by decide +kernel
theorem dMO_step_224 : decode cMO_step 224 = .ok (.iload 4, 2) := by decide +kernel
theorem dMO_step_226 : decode cMO_step 226 = .ok (.iaload, 1) := by decide +kernel
theorem dMO_step_227 : decode cMO_step 227 = .ok (.if_icmp .ne 23, 3) := by decide +kernel
theorem dMO_step_230 : decode cMO_step 230 = .ok (.aload_n 0, 1) := by decide +kernel
theorem dMO_step_231 : decode cMO_step 231 = .ok (.getfield 61, 3) := by decide +kernel
theorem dMO_step_234 : decode cMO_step 234 = .ok (.iload_n 3, 1) := by decide +kernel
theorem dMO_step_235 : decode cMO_step 235 = .ok (.iaload, 1) := by decide +kernel
theorem dMO_step_236 : decode cMO_step 236 = .ok (.aload_n 0, 1) := by decide +kernel
theorem dMO_step_237 : decode cMO_step 237 = .ok (.getfield 61, 3) := by decide +kernel
theorem dMO_step_240 : decode cMO_step 240 = .ok (.iload 4, 2) := by decide +kernel
theorem dMO_step_242 : decode cMO_step 242 = .ok (.iaload, 1) := by decide +kernel
theorem dMO_step_243 : decode cMO_step 243 = .ok (.if_icmp .ne 7, 3) := by decide +kernel
theorem dMO_step_246 : decode cMO_step 246 = .ok (.iconst 1, 1) := by decide +kernel
theorem dMO_step_247 : decode cMO_step 247 = .ok (.goto 4, 3) := by decide +kernel
theorem dMO_step_250 : decode cMO_step 250 = .ok (.iconst 0, 1) := by decide +kernel
theorem dMO_step_251 : decode cMO_step 251 = .ok (.invokevirtual 187, 3) := by decide +kernel
theorem dMO_step_254 : decode cMO_step 254 = .ok (.iload 5, 2) := by decide +kernel
theorem dMO_step_256 : decode cMO_step 256 = .ok (.bipush 7, 2) := by decide +kernel
theorem dMO_step_258 : decode cMO_step 258 = .ok (.if_icmp .ne 89, 3) := by decide +kernel
theorem dMO_step_261 : decode cMO_step 261 = .ok (.aload_n 0, 1) := by decide +kernel
theorem dMO_step_262 : decode cMO_step 262 = .ok (.getfield 61, 3) := by decide +kernel
theorem dMO_step_265 : decode cMO_step 265 = .ok (.iload_n 3, 1) := by decide +kernel
theorem dMO_step_266 : decode cMO_step 266 = .ok (.iaload, 1) := by decide +kernel
theorem dMO_step_267 : decode cMO_step 267 = .ok (.i2l, 1) := by decide +kernel
theorem dMO_step_268 : decode cMO_step 268 = .ok (.aload_n 0, 1) := by decide +kernel
theorem dMO_step_269 : decode cMO_step 269 = .ok (.getfield 61, 3) := by decide +kernel
theorem dMO_step_272 : decode cMO_step 272 = .ok (.iload 4, 2) := by decide +kernel
theorem dMO_step_274 : decode cMO_step 274 = .ok (.iaload, 1) := by decide +kernel
theorem dMO_step_275 : decode cMO_step 275 = .ok (.i2l, 1) := by decide +kernel
theorem dMO_step_276 : decode cMO_step 276 = .ok (.ladd, 1) := by decide +kernel
theorem dMO_step_277 : decode cMO_step 277 = .ok (.lstore 6, 2) := by decide +kernel
theorem dMO_step_279 : decode cMO_step 279 = .ok (.aload_n 0, 1) := by decide +kernel
theorem dMO_step_280 : decode cMO_step 280 = .ok (.getfield 58, 3) := by decide +kernel
theorem dMO_step_283 : decode cMO_step 283 = .ok (.iload_n 3, 1) := by decide +kernel
theorem dMO_step_284 : decode cMO_step 284 = .ok (.iaload, 1) := by decide +kernel
theorem dMO_step_285 : decode cMO_step 285 = .ok (.iconst (-1), 1) := by decide +kernel
theorem dMO_step_286 : decode cMO_step 286 = .ok (.if_icmp .eq 39, 3) := by decide +kernel
theorem dMO_step_289 : decode cMO_step 289 = .ok (.aload_n 0, 1) := by decide +kernel
theorem dMO_step_290 : decode cMO_step 290 = .ok (.getfield 58, 3) := by decide +kernel
theorem dMO_step_293 : decode cMO_step 293 = .ok (.iload 4, 2) := by decide +kernel
theorem dMO_step_295 : decode cMO_step 295 = .ok (.iaload, 1) := by decide +kernel
theorem dMO_step_296 : decode cMO_step 296 = .ok (.iconst (-1), 1) := by decide +kernel
theorem dMO_step_297 : decode cMO_step 297 = .ok (.if_icmp .ne 28, 3) := by decide +kernel
theorem dMO_step_300 : decode cMO_step 300 = .ok (.lload 6, 2) := by decide +kernel
theorem dMO_step_302 : decode cMO_step 302 = .ok (.lconst 0, 1) := by decide +kernel
theorem dMO_step_303 : decode cMO_step 303 = .ok (.lcmp, 1) := by decide +kernel
theorem dMO_step_304 : decode cMO_step 304 = .ok (.ifCond .lt 21, 3) := by decide +kernel
theorem dMO_step_307 : decode cMO_step 307 = .ok (.lload 6, 2) := by decide +kernel
theorem dMO_step_309 : decode cMO_step 309 = .ok (.aload_n 0, 1) := by decide +kernel
theorem dMO_step_310 : decode cMO_step 310 = .ok (.getfield 70, 3) := by decide +kernel
theorem dMO_step_313 : decode cMO_step 313 = .ok (.aload_n 0, 1) := by decide +kernel
theorem dMO_step_314 : decode cMO_step 314 = .ok (.getfield 58, 3) := by decide +kernel
theorem dMO_step_317 : decode cMO_step 317 = .ok (.iload_n 3, 1) := by decide +kernel
theorem dMO_step_318 : decode cMO_step 318 = .ok (.iaload, 1) := by decide +kernel
theorem dMO_step_319 : decode cMO_step 319 = .ok (.iaload, 1) := by decide +kernel
theorem dMO_step_320 : decode cMO_step 320 = .ok (.i2l, 1) := by decide +kernel
theorem dMO_step_321 : decode cMO_step 321 = .ok (.lcmp, 1) := by decide +kernel
theorem dMO_step_322 : decode cMO_step 322 = .ok (.ifCond .lt 11, 3) := by decide +kernel
theorem dMO_step_325 : decode cMO_step 325 = .ok (.aload_n 0, 1) := by decide +kernel
theorem dMO_step_326 : decode cMO_step 326 = .ok (.iconst 1, 1) := by decide +kernel
theorem dMO_step_327 : decode cMO_step 327 = .ok (.putfield 79, 3) := by decide +kernel
theorem dMO_step_330 : decode cMO_step 330 = .ok (.goto 17, 3) := by decide +kernel
theorem dMO_step_333 : decode cMO_step 333 = .ok (.aload_n 0, 1) := by decide +kernel
theorem dMO_step_334 : decode cMO_step 334 = .ok (.iload_n 2, 1) := by decide +kernel
theorem dMO_step_335 : decode cMO_step 335 = .ok (.aload_n 0, 1) := by decide +kernel
theorem dMO_step_336 : decode cMO_step 336 = .ok (.getfield 58, 3) := by decide +kernel
theorem dMO_step_339 : decode cMO_step 339 = .ok (.iload_n 3, 1) := by decide +kernel
theorem dMO_step_340 : decode cMO_step 340 = .ok (.iaload, 1) := by decide +kernel
theorem dMO_step_341 : decode cMO_step 341 = .ok (.lload 6, 2) := by decide +kernel
theorem dMO_step_343 : decode cMO_step 343 = .ok (.l2i, 1) := by decide +kernel
theorem dMO_step_344 : decode cMO_step 344 = .ok (.invokevirtual 187, 3) := by decide +kernel
theorem dMO_step_347 : decode cMO_step 347 = .ok (.iload 5, 2) := by decide +kernel
theorem dMO_step_349 : decode cMO_step 349 = .ok (.bipush 8, 2) := by decide +kernel
theorem dMO_step_351 : decode cMO_step 351 = .ok (.if_icmp .ne 11, 3) := by decide +kernel
theorem dMO_step_354 : decode cMO_step 354 = .ok (.aload_n 0, 1) := by decide +kernel
theorem dMO_step_355 : decode cMO_step 355 = .ok (.iload_n 2, 1) := by decide +kernel
theorem dMO_step_356 : decode cMO_step 356 = .ok (.iload_n 3, 1) := by decide +kernel
theorem dMO_step_357 : decode cMO_step 357 = .ok (.iload 4, 2) := by decide +kernel
theorem dMO_step_359 : decode cMO_step 359 = .ok (.invokevirtual 190, 3) := by decide +kernel
theorem dMO_step_362 : decode cMO_step 362 = .ok (.iload 5, 2) := by decide +kernel
theorem dMO_step_364 : decode cMO_step 364 = .ok (.bipush 9, 2) := by decide +kernel
theorem dMO_step_366 : decode cMO_step 366 = .ok (.if_icmp .ne 68, 3) := by decide +kernel
theorem dMO_step_369 : decode cMO_step 369 = .ok (.aload_n 0, 1) := by decide +kernel
theorem dMO_step_370 : decode cMO_step 370 = .ok (.getfield 58, 3) := by decide +kernel
theorem dMO_step_373 : decode cMO_step 373 = .ok (.iload_n 3, 1) := by decide +kernel
theorem dMO_step_374 : decode cMO_step 374 = .ok (.iaload, 1) := by decide +kernel
theorem dMO_step_375 : decode cMO_step 375 = .ok (.iconst (-1), 1) := by decide +kernel
theorem dMO_step_376 : decode cMO_step 376 = .ok (.if_icmp .ne 11, 3) := by decide +kernel
theorem dMO_step_379 : decode cMO_step 379 = .ok (.aload_n 0, 1) := by decide +kernel
theorem dMO_step_380 : decode cMO_step 380 = .ok (.iconst 1, 1) := by decide +kernel
theorem dMO_step_381 : decode cMO_step 381 = .ok (.putfield 79, 3) := by decide +kernel
theorem dMO_step_384 : decode cMO_step 384 = .ok (.goto 50, 3) := by decide +kernel
theorem dMO_step_387 : decode cMO_step 387 = .ok (.aload_n 0, 1) := by decide +kernel
theorem dMO_step_388 : decode cMO_step 388 = .ok (.iload_n 2, 1) := by decide +kernel
theorem dMO_step_389 : decode cMO_step 389 = .ok (.aload_n 0, 1) := by decide +kernel
theorem dMO_step_390 : decode cMO_step 390 = .ok (.getfield 64, 3) := by decide +kernel
theorem dMO_step_393 : decode cMO_step 393 = .ok (.bipush 16, 2) := by decide +kernel
theorem dMO_step_395 : decode cMO_step 395 = .ok (.aload_n 0, 1) := by decide +kernel
theorem dMO_step_396 : decode cMO_step 396 = .ok (.getfield 58, 3) := by decide +kernel
theorem dMO_step_399 : decode cMO_step 399 = .ok (.iload_n 3, 1) := by decide +kernel
theorem dMO_step_400 : decode cMO_step 400 = .ok (.iaload, 1) := by decide +kernel
theorem dMO_step_401 : decode cMO_step 401 = .ok (.imul, 1) := by decide +kernel
theorem dMO_step_402 : decode cMO_step 402 = .ok (.aload_n 0, 1) := by decide +kernel
theorem dMO_step_403 : decode cMO_step 403 = .ok (.getfield 61, 3) := by decide +kernel
theorem dMO_step_406 : decode cMO_step 406 = .ok (.iload_n 3, 1) := by decide +kernel
theorem dMO_step_407 : decode cMO_step 407 = .ok (.iaload, 1) := by decide +kernel
theorem dMO_step_408 : decode cMO_step 408 = .ok (.iadd, 1) := by decide +kernel
theorem dMO_step_409 : decode cMO_step 409 = .ok (.iaload, 1) := by decide +kernel
theorem dMO_step_410 : decode cMO_step 410 = .ok (.aload_n 0, 1) := by decide +kernel
theorem dMO_step_411 : decode cMO_step 411 = .ok (.getfield 67, 3) := by decide +kernel
theorem dMO_step_414 : decode cMO_step 414 = .ok (.bipush 16, 2) := by decide +kernel
theorem dMO_step_416 : decode cMO_step 416 = .ok (.aload_n 0, 1) := by decide +kernel
theorem dMO_step_417 : decode cMO_step 417 = .ok (.getfield 58, 3) := by decide +kernel
theorem dMO_step_420 : decode cMO_step 420 = .ok (.iload_n 3, 1) := by decide +kernel
theorem dMO_step_421 : decode cMO_step 421 = .ok (.iaload, 1) := by decide +kernel
theorem dMO_step_422 : decode cMO_step 422 = .ok (.imul, 1) := by decide +kernel
theorem dMO_step_423 : decode cMO_step 423 = .ok (.aload_n 0, 1) := by decide +kernel
theorem dMO_step_424 : decode cMO_step 424 = .ok (.getfield 61, 3) := by decide +kernel
theorem dMO_step_427 : decode cMO_step 427 = .ok (.iload_n 3, 1) := by decide +kernel
theorem dMO_step_428 : decode cMO_step 428 = .ok (.iaload, 1) := by decide +kernel
theorem dMO_step_429 : decode cMO_step 429 = .ok (.iadd, 1) := by decide +kernel
theorem dMO_step_430 : decode cMO_step 430 = .ok (.iaload, 1) := by decide +kernel
theorem dMO_step_431 : decode cMO_step 431 = .ok (.invokevirtual 187, 3) := by decide +kernel
theorem dMO_step_434 : decode cMO_step 434 = .ok (.iload 5, 2) := by decide +kernel
theorem dMO_step_436 : decode cMO_step 436 = .ok (.bipush 10, 2) := by decide +kernel
theorem dMO_step_438 : decode cMO_step 438 = .ok (.if_icmp .ne 75, 3) := by decide +kernel
theorem dMO_step_441 : decode cMO_step 441 = .ok (.aload_n 0, 1) := by decide +kernel
theorem dMO_step_442 : decode cMO_step 442 = .ok (.getfield 58, 3) := by decide +kernel
theorem dMO_step_445 : decode cMO_step 445 = .ok (.iload_n 2, 1) := by decide +kernel
theorem dMO_step_446 : decode cMO_step 446 = .ok (.iaload, 1) := by decide +kernel
theorem dMO_step_447 : decode cMO_step 447 = .ok (.iconst (-1), 1) := by decide +kernel
theorem dMO_step_448 : decode cMO_step 448 = .ok (.if_icmp .ne 11, 3) := by decide +kernel
theorem dMO_step_451 : decode cMO_step 451 = .ok (.aload_n 0, 1) := by decide +kernel
theorem dMO_step_452 : decode cMO_step 452 = .ok (.iconst 1, 1) := by decide +kernel
theorem dMO_step_453 : decode cMO_step 453 = .ok (.putfield 79, 3) := by decide +kernel
theorem dMO_step_456 : decode cMO_step 456 = .ok (.goto 57, 3) := by decide +kernel
theorem dMO_step_459 : decode cMO_step 459 = .ok (.aload_n 0, 1) := by decide +kernel
theorem dMO_step_460 : decode cMO_step 460 = .ok (.getfield 64, 3) := by decide +kernel
theorem dMO_step_463 : decode cMO_step 463 = .ok (.bipush 16, 2) := by decide +kernel
theorem dMO_step_465 : decode cMO_step 465 = .ok (.aload_n 0, 1) := by decide +kernel
theorem dMO_step_466 : decode cMO_step 466 = .ok (.getfield 58, 3) := by decide +kernel
theorem dMO_step_469 : decode cMO_step 469 = .ok (.iload_n 2, 1) := by decide +kernel
theorem dMO_step_470 : decode cMO_step 470 = .ok (.iaload, 1) := by decide +kernel
theorem dMO_step_471 : decode cMO_step 471 = .ok (.imul, 1) := by decide +kernel
theorem dMO_step_472 : decode cMO_step 472 = .ok (.aload_n 0, 1) := by decide +kernel
theorem dMO_step_473 : decode cMO_step 473 = .ok (.getfield 61, 3) := by decide +kernel
theorem dMO_step_476 : decode cMO_step 476 = .ok (.iload_n 2, 1) := by decide +kernel
theorem dMO_step_477 : decode cMO_step 477 = .ok (.iaload, 1) := by decide +kernel
theorem dMO_step_478 : decode cMO_step 478 = .ok (.iadd, 1) := by decide +kernel
theorem dMO_step_479 : decode cMO_step 479 = .ok (.aload_n 0, 1) := by decide +kernel
theorem dMO_step_480 : decode cMO_step 480 = .ok (.getfield 58, 3) := by decide +kernel
theorem dMO_step_483 : decode cMO_step 483 = .ok (.iload_n 3, 1) := by decide +kernel
theorem dMO_step_484 : decode cMO_step 484 = .ok (.iaload, 1) := by decide +kernel
theorem dMO_step_485 : decode cMO_step 485 = .ok (.iastore, 1) := by decide +kernel
theorem dMO_step_486 : decode cMO_step 486 = .ok (.aload_n 0, 1) := by decide +kernel
theorem dMO_step_487 : decode cMO_step 487 = .ok (.getfield 67, 3) := by decide +kernel
theorem dMO_step_490 : decode cMO_step 490 = .ok (.bipush 16, 2) := by decide +kernel
theorem dMO_step_492 : decode cMO_step 492 = .ok (.aload_n 0, 1) := by decide +kernel
theorem dMO_step_493 : decode cMO_step 493 = .ok (.getfield 58, 3) := by decide +kernel
theorem dMO_step_496 : decode cMO_step 496 = .ok (.iload_n 2, 1) := by decide +kernel
theorem dMO_step_497 : decode cMO_step 497 = .ok (.iaload, 1) := by decide +kernel
theorem dMO_step_498 : decode cMO_step 498 = .ok (.imul, 1) := by decide +kernel
theorem dMO_step_499 : decode cMO_step 499 = .ok (.aload_n 0, 1) := by decide +kernel
theorem dMO_step_500 : decode cMO_step 500 = .ok (.getfield 61, 3) := by decide +kernel
theorem dMO_step_503 : decode cMO_step 503 = .ok (.iload_n 2, 1) := by decide +kernel
theorem dMO_step_504 : decode cMO_step 504 = .ok (.iaload, 1) := by decide +kernel
theorem dMO_step_505 : decode cMO_step 505 = .ok (.iadd, 1) := by decide +kernel
theorem dMO_step_506 : decode cMO_step 506 = .ok (.aload_n 0, 1) := by decide +kernel
theorem dMO_step_507 : decode cMO_step 507 = .ok (.getfield 61, 3) := by decide +kernel
theorem dMO_step_510 : decode cMO_step 510 = .ok (.iload_n 3, 1) := by decide +kernel
theorem dMO_step_511 : decode cMO_step 511 = .ok (.iaload, 1) := by decide +kernel
theorem dMO_step_512 : decode cMO_step 512 = .ok (.iastore, 1) := by decide +kernel
theorem dMO_step_513 : decode cMO_step 513 = .ok (.iload 5, 2) := by decide +kernel
theorem dMO_step_515 : decode cMO_step 515 = .ok (.bipush 11, 2) := by decide +kernel
theorem dMO_step_517 : decode cMO_step 517 = .ok (.if_icmp .ne 28, 3) := by decide +kernel
theorem dMO_step_520 : decode cMO_step 520 = .ok (.aload_n 0, 1) := by decide +kernel
theorem dMO_step_521 : decode cMO_step 521 = .ok (.aload_n 0, 1) := by decide +kernel
theorem dMO_step_522 : decode cMO_step 522 = .ok (.getfield 58, 3) := by decide +kernel
theorem dMO_step_525 : decode cMO_step 525 = .ok (.iload_n 2, 1) := by decide +kernel
theorem dMO_step_526 : decode cMO_step 526 = .ok (.iaload, 1) := by decide +kernel
theorem dMO_step_527 : decode cMO_step 527 = .ok (.iconst (-1), 1) := by decide +kernel
theorem dMO_step_528 : decode cMO_step 528 = .ok (.if_icmp .eq 7, 3) := by decide +kernel
theorem dMO_step_531 : decode cMO_step 531 = .ok (.iconst 1, 1) := by decide +kernel
theorem dMO_step_532 : decode cMO_step 532 = .ok (.goto 4, 3) := by decide +kernel
theorem dMO_step_535 : decode cMO_step 535 = .ok (.iconst 0, 1) := by decide +kernel
theorem dMO_step_536 : decode cMO_step 536 = .ok (.aload_n 0, 1) := by decide +kernel
theorem dMO_step_537 : decode cMO_step 537 = .ok (.getfield 61, 3) := by decide +kernel
theorem dMO_step_540 : decode cMO_step 540 = .ok (.iload_n 2, 1) := by decide +kernel
theorem dMO_step_541 : decode cMO_step 541 = .ok (.iaload, 1) := by decide +kernel
theorem dMO_step_542 : decode cMO_step 542 = .ok (.invokevirtual 193, 3) := by decide +kernel
theorem dMO_step_545 : decode cMO_step 545 = .ok (.iload 5, 2) := by decide +kernel
theorem dMO_step_547 : decode cMO_step 547 = .ok (.bipush 13, 2) := by decide +kernel
theorem dMO_step_549 : decode cMO_step 549 = .ok (.if_icmp .ne 18, 3) := by decide +kernel
theorem dMO_step_552 : decode cMO_step 552 = .ok (.aload_n 0, 1) := by decide +kernel
theorem dMO_step_553 : decode cMO_step 553 = .ok (.getfield 58, 3) := by decide +kernel
theorem dMO_step_556 : decode cMO_step 556 = .ok (.iload_n 2, 1) := by decide +kernel
theorem dMO_step_557 : decode cMO_step 557 = .ok (.iaload, 1) := by decide +kernel
theorem dMO_step_558 : decode cMO_step 558 = .ok (.iconst (-1), 1) := by decide +kernel
theorem dMO_step_559 : decode cMO_step 559 = .ok (.if_icmp .eq 8, 3) := by decide +kernel
theorem dMO_step_562 : decode cMO_step 562 = .ok (.aload_n 0, 1) := by decide +kernel
theorem dMO_step_563 : decode cMO_step 563 = .ok (.iconst 1, 1) := by decide +kernel
theorem dMO_step_564 : decode cMO_step 564 = .ok (.putfield 79, 3) := by decide +kernel
theorem dMO_step_567 : decode cMO_step 567 = .ok (.iload 5, 2) := by decide +kernel
theorem dMO_step_569 : decode cMO_step 569 = .ok (.bipush 14, 2) := by decide +kernel
theorem dMO_step_571 : decode cMO_step 571 = .ok (.if_icmp .ne 8, 3) := by decide +kernel
theorem dMO_step_574 : decode cMO_step 574 = .ok (.aload_n 0, 1) := by decide +kernel
theorem dMO_step_575 : decode cMO_step 575 = .ok (.iconst 0, 1) := by decide +kernel
theorem dMO_step_576 : decode cMO_step 576 = .ok (.putfield 79, 3) := by decide +kernel
theorem dMO_step_579 : decode cMO_step 579 = .ok (.iload 5, 2) := by decide +kernel
theorem dMO_step_581 : decode cMO_step 581 = .ok (.bipush 12, 2) := by decide +kernel
theorem dMO_step_583 : decode cMO_step 583 = .ok (.if_icmp .ne 7, 3) := by decide +kernel
theorem dMO_step_586 : decode cMO_step 586 = .ok (.iload_n 2, 1) := by decide +kernel
theorem dMO_step_587 : decode cMO_step 587 = .ok (.goto 26, 3) := by decide +kernel
theorem dMO_step_590 : decode cMO_step 590 = .ok (.iload 5, 2) := by decide +kernel
theorem dMO_step_592 : decode cMO_step 592 = .ok (.bipush 13, 2) := by decide +kernel
theorem dMO_step_594 : decode cMO_step 594 = .ok (.if_icmp .ne 16, 3) := by decide +kernel
theorem dMO_step_597 : decode cMO_step 597 = .ok (.aload_n 0, 1) := by decide +kernel
theorem dMO_step_598 : decode cMO_step 598 = .ok (.getfield 61, 3) := by decide +kernel
theorem dMO_step_601 : decode cMO_step 601 = .ok (.iload_n 2, 1) := by decide +kernel
theorem dMO_step_602 : decode cMO_step 602 = .ok (.iaload, 1) := by decide +kernel
theorem dMO_step_603 : decode cMO_step 603 = .ok (.ifCond .eq 7, 3) := by decide +kernel
theorem dMO_step_606 : decode cMO_step 606 = .ok (.iload_n 3, 1) := by decide +kernel
theorem dMO_step_607 : decode cMO_step 607 = .ok (.goto 6, 3) := by decide +kernel
theorem dMO_step_610 : decode cMO_step 610 = .ok (.iload_n 1, 1) := by decide +kernel
theorem dMO_step_611 : decode cMO_step 611 = .ok (.iconst 1, 1) := by decide +kernel
theorem dMO_step_612 : decode cMO_step 612 = .ok (.iadd, 1) := by decide +kernel
theorem dMO_step_613 : decode cMO_step 613 = .ok (.ireturn, 1) := by decide +kernel
theorem dMO_run_0 : decode cMO_run 0 = .ok (.aload_n 0, 1) := by decide +kernel
theorem dMO_run_1 : decode cMO_run 1 = .ok (.iload_n 2, 1) := by decide +kernel
theorem dMO_run_2 : decode cMO_run 2 = .ok (.iconst 1, 1) := by decide +kernel
theorem dMO_run_3 : decode cMO_run 3 = .ok (.if_icmp .lt 10, 3) := by decide +kernel
theorem dMO_run_6 : decode cMO_run 6 = .ok (.iload_n 2, 1) := by decide +kernel
theorem dMO_run_7 : decode cMO_run 7 = .ok (.sipush 5000, 3) := by decide +kernel
theorem dMO_run_10 : decode cMO_run 10 = .ok (.if_icmp .le 7, 3) := by decide +kernel
theorem dMO_run_13 : decode cMO_run 13 = .ok (.iconst 1, 1) := by decide +kernel
theorem dMO_run_14 : decode cMO_run 14 = .ok (.goto 19, 3) := by decide +kernel
theorem dMO_run_17 : decode cMO_run 17 = .ok (.iload_n 1, 1) := by decide +kernel
theorem dMO_run_18 : decode cMO_run 18 = .ok (.ifCond .ne 14, 3) := by decide +kernel
theorem dMO_run_21 : decode cMO_run 21 = .ok (.aload_n 0, 1) := by decide +kernel
theorem dMO_run_22 : decode cMO_run 22 = .ok (.getfield 97, 3) := by decide +kernel
theorem dMO_run_25 : decode cMO_run 25 = .ok (.ifCond .ne 7, 3) := by decide +kernel
theorem dMO_run_28 : decode cMO_run 28 = .ok (.iconst 2, 1) := by decide +kernel
theorem dMO_run_29 : decode cMO_run 29 = .ok (.goto 4, 3) := by decide +kernel
theorem dMO_run_32 : decode cMO_run 32 = .ok (.iconst 0, 1) := by decide +kernel
theorem dMO_run_33 : decode cMO_run 33 = .ok (.putfield 83, 3) := by decide +kernel
theorem dMO_run_36 : decode cMO_run 36 = .ok (.aload_n 0, 1) := by decide +kernel
theorem dMO_run_37 : decode cMO_run 37 = .ok (.getfield 83, 3) := by decide +kernel
theorem dMO_run_40 : decode cMO_run 40 = .ok (.ifCond .le 5, 3) := by decide +kernel
theorem dMO_run_43 : decode cMO_run 43 = .ok (.iconst 0, 1) := by decide +kernel
theorem dMO_run_44 : decode cMO_run 44 = .ok (.ireturn, 1) := by decide +kernel
theorem dMO_run_45 : decode cMO_run 45 = .ok (.aload_n 0, 1) := by decide +kernel
theorem dMO_run_46 : decode cMO_run 46 = .ok (.iload_n 1, 1) := by decide +kernel
theorem dMO_run_47 : decode cMO_run 47 = .ok (.ifCond .eq 7, 3) := by decide +kernel
theorem dMO_run_50 : decode cMO_run 50 = .ok (.iconst 0, 1) := by decide +kernel
theorem dMO_run_51 : decode cMO_run 51 = .ok (.goto 6, 3) := by decide +kernel
theorem dMO_run_54 : decode cMO_run 54 = .ok (.sipush 200, 3) := by decide +kernel
theorem dMO_run_57 : decode cMO_run 57 = .ok (.putfield 101, 3) := by decide +kernel
theorem dMO_run_60 : decode cMO_run 60 = .ok (.iconst 0, 1) := by decide +kernel
theorem dMO_run_61 : decode cMO_run 61 = .ok (.istore_n 3, 1) := by decide +kernel
theorem dMO_run_62 : decode cMO_run 62 = .ok (.iload_n 3, 1) := by decide +kernel
theorem dMO_run_63 : decode cMO_run 63 = .ok (.bipush 16, 2) := by decide +kernel
theorem dMO_run_65 : decode cMO_run 65 = .ok (.if_icmp .ge 16, 3) := by decide +kernel
theorem dMO_run_68 : decode cMO_run 68 = .ok (.aload_n 0, 1) := by decide +kernel
theorem dMO_run_69 : decode cMO_run 69 = .ok (.iload_n 3, 1) := by decide +kernel
theorem dMO_run_70 : decode cMO_run 70 = .ok (.iconst (-1), 1) := by decide +kernel
theorem dMO_run_71 : decode cMO_run 71 = .ok (.iconst 0, 1) := by decide +kernel
theorem dMO_run_72 : decode cMO_run 72 = .ok (.invokevirtual 187, 3) := by decide +kernel
theorem dMO_run_75 : decode cMO_run 75 = .ok (.iinc 3 1, 3) := by decide +kernel
theorem dMO_run_78 : decode cMO_run 78 = .ok (.goto (-16), 3) := by decide +kernel
theorem dMO_run_81 : decode cMO_run 81 = .ok (.aload_n 0, 1) := by decide +kernel
theorem dMO_run_82 : decode cMO_run 82 = .ok (.iconst 0, 1) := by decide +kernel
theorem dMO_run_83 : decode cMO_run 83 = .ok (.putfield 197, 3) := by decide +kernel
theorem dMO_run_86 : decode cMO_run 86 = .ok (.aload_n 0, 1) := by decide +kernel
theorem dMO_run_87 : decode cMO_run 87 = .ok (.iconst 0, 1) := by decide +kernel
theorem dMO_run_88 : decode cMO_run 88 = .ok (.putfield 200, 3) := by decide +kernel
theorem dMO_run_91 : decode cMO_run 91 = .ok (.aload_n 0, 1) := by decide +kernel
theorem dMO_run_92 : decode cMO_run 92 = .ok (.iconst 0, 1) := by decide +kernel
theorem dMO_run_93 : decode cMO_run 93 = .ok (.putfield 203, 3) := by decide +kernel
theorem dMO_run_96 : decode cMO_run 96 = .ok (.aload_n 0, 1) := by decide +kernel
theorem dMO_run_97 : decode cMO_run 97 = .ok (.iconst (-1), 1) := by decide +kernel
theorem dMO_run_98 : decode cMO_run 98 = .ok (.putfield 79, 3) := by decide +kernel
theorem dMO_run_101 : decode cMO_run 101 = .ok (.iconst 0, 1) := by decide +kernel
theorem dMO_run_102 : decode cMO_run 102 = .ok (.istore_n 3, 1) := by decide +kernel
theorem dMO_run_103 : decode cMO_run 103 = .ok (.aload_n 0, 1) := by decide +kernel
theorem dMO_run_104 : decode cMO_run 104 = .ok (.getfield 79, 3) := by decide +kernel
theorem dMO_run_107 : decode cMO_run 107 = .ok (.iconst (-1), 1) := by decide +kernel
theorem dMO_run_108 : decode cMO_run 108 = .ok (.if_icmp .ne 54, 3) := by decide +kernel
theorem dMO_run_111 : decode cMO_run 111 = .ok (.iload_n 3, 1) := by decide +kernel
theorem dMO_run_112 : decode cMO_run 112 = .ok (.aload_n 0, 1) := by decide +kernel
theorem dMO_run_113 : decode cMO_run 113 = .ok (.getfield 94, 3) := by decide +kernel
theorem dMO_run_116 : decode cMO_run 116 = .ok (.if_icmp .lt 11, 3) := by decide +kernel
theorem dMO_run_119 : decode cMO_run 119 = .ok (.aload_n 0, 1) := by decide +kernel
theorem dMO_run_120 : decode cMO_run 120 = .ok (.iconst 0, 1) := by decide +kernel
theorem dMO_run_121 : decode cMO_run 121 = .ok (.putfield 79, 3) := by decide +kernel
theorem dMO_run_124 : decode cMO_run 124 = .ok (.goto (-21), 3) := by decide +kernel
theorem dMO_run_127 : decode cMO_run 127 = .ok (.aload_n 0, 1) := by decide +kernel
theorem dMO_run_128 : decode cMO_run 128 = .ok (.getfield 203, 3) := by decide +kernel
theorem dMO_run_131 : decode cMO_run 131 = .ok (.iload_n 2, 1) := by decide +kernel
theorem dMO_run_132 : decode cMO_run 132 = .ok (.if_icmp .ne 11, 3) := by decide +kernel
theorem dMO_run_135 : decode cMO_run 135 = .ok (.aload_n 0, 1) := by decide +kernel
theorem dMO_run_136 : decode cMO_run 136 = .ok (.iconst 2, 1) := by decide +kernel
theorem dMO_run_137 : decode cMO_run 137 = .ok (.putfield 79, 3) := by decide +kernel
theorem dMO_run_140 : decode cMO_run 140 = .ok (.goto (-37), 3) := by decide +kernel
theorem dMO_run_143 : decode cMO_run 143 = .ok (.aload_n 0, 1) := by decide +kernel
theorem dMO_run_144 : decode cMO_run 144 = .ok (.dup, 1) := by decide +kernel
theorem dMO_run_145 : decode cMO_run 145 = .ok (.getfield 203, 3) := by decide +kernel
theorem dMO_run_148 : decode cMO_run 148 = .ok (.iconst 1, 1) := by decide +kernel
theorem dMO_run_149 : decode cMO_run 149 = .ok (.iadd, 1) := by decide +kernel
theorem dMO_run_150 : decode cMO_run 150 = .ok (.putfield 203, 3) := by decide +kernel
theorem dMO_run_153 : decode cMO_run 153 = .ok (.aload_n 0, 1) := by decide +kernel
theorem dMO_run_154 : decode cMO_run 154 = .ok (.iload_n 3, 1) := by decide +kernel
theorem dMO_run_155 : decode cMO_run 155 = .ok (.invokevirtual 206, 3) := by decide +kernel
theorem dMO_run_158 : decode cMO_run 158 = .ok (.istore_n 3, 1) := by decide +kernel
theorem dMO_run_159 : decode cMO_run 159 = .ok (.goto (-56), 3) := by decide +kernel
theorem dMO_run_162 : decode cMO_run 162 = .ok (.aload_n 0, 1) := by decide +kernel
theorem dMO_run_163 : decode cMO_run 163 = .ok (.getfield 79, 3) := by decide +kernel
theorem dMO_run_166 : decode cMO_run 166 = .ok (.ireturn, 1) := by decide +kernel
