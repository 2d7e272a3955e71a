theorem dMO_thrown_0 : decode cMO_thrown 0 = .ok (.aload_n 0, 1) := by decide +kernel
theorem dMO_thrown_1 : decode cMO_thrown 1 = .ok (.getfield 83, 3) := by decide +kernel
theorem dMO_thrown_4 : decode cMO_thrown 4 = .ok (.ireturn, 1) := by decide +kernel
theorem dMO_register_0 : decode cMO_register 0 = .ok (.iload_n 0, 1) := by decide +kernel
theorem dMO_register_1 : decode cMO_register 1 = .ok (.ifCond .lt 13, 3) := by decide +kernel
theorem dMO_register_4 : decode cMO_register 4 = .ok (.iload_n 0, 1) := by decide +kernel
theorem dMO_register_5 : decode cMO_register 5 = .ok (.bipush 16, 2) := by decide +kernel
theorem dMO_register_7 : decode cMO_register 7 = .ok (.if_icmp .ge 7, 3) := by decide +kernel
theorem dMO_register_10 : decode cMO_register 10 = .ok (.iconst 1, 1) := by decide +kernel
theorem dMO_register_11 : decode cMO_register 11 = .ok (.goto 4, 3) := by decide +kernel
theorem dMO_register_14 : decode cMO_register 14 = .ok (.iconst 0, 1) := by decide +kernel
theorem dMO_register_15 : decode cMO_register 15 = .ok (.ireturn, 1) := by decide +kernel
theorem dMO_good_0 : decode cMO_good 0 = .ok (.iload_n 0, 1) := by decide +kernel
theorem dMO_good_1 : decode cMO_good 1 = .ok (.ifCond .lt 9, 3) := by decide +kernel
theorem dMO_good_4 : decode cMO_good 4 = .ok (.iload_n 0, 1) := by decide +kernel
theorem dMO_good_5 : decode cMO_good 5 = .ok (.bipush 15, 2) := by decide +kernel
theorem dMO_good_7 : decode cMO_good 7 = .ok (.if_icmp .le 5, 3) := by decide +kernel
theorem dMO_good_10 : decode cMO_good 10 = .ok (.iconst 0, 1) := by decide +kernel
theorem dMO_good_11 : decode cMO_good 11 = .ok (.ireturn, 1) := by decide +kernel
theorem dMO_good_12 : decode cMO_good 12 = .ok (.iload_n 0, 1) := by decide +kernel
theorem dMO_good_13 : decode cMO_good 13 = .ok (.bipush 12, 2) := by decide +kernel
theorem dMO_good_15 : decode cMO_good 15 = .ok (.if_icmp .ne 22, 3) := by decide +kernel
theorem dMO_good_18 : decode cMO_good 18 = .ok (.iload_n 1, 1) := by decide +kernel
theorem dMO_good_19 : decode cMO_good 19 = .ok (.ifCond .lt 14, 3) := by decide +kernel
theorem dMO_good_22 : decode cMO_good 22 = .ok (.iload_n 1, 1) := by decide +kernel
theorem dMO_good_23 : decode cMO_good 23 = .ok (.sipush 200, 3) := by decide +kernel
theorem dMO_good_26 : decode cMO_good 26 = .ok (.if_icmp .gt 7, 3) := by decide +kernel
theorem dMO_good_29 : decode cMO_good 29 = .ok (.iconst 1, 1) := by decide +kernel
theorem dMO_good_30 : decode cMO_good 30 = .ok (.goto 23, 3) := by decide +kernel
theorem dMO_good_33 : decode cMO_good 33 = .ok (.iconst 0, 1) := by decide +kernel
theorem dMO_good_34 : decode cMO_good 34 = .ok (.goto 19, 3) := by decide +kernel
theorem dMO_good_37 : decode cMO_good 37 = .ok (.iload_n 2, 1) := by decide +kernel
theorem dMO_good_38 : decode cMO_good 38 = .ok (.ifCond .lt 14, 3) := by decide +kernel
theorem dMO_good_41 : decode cMO_good 41 = .ok (.iload_n 2, 1) := by decide +kernel
theorem dMO_good_42 : decode cMO_good 42 = .ok (.sipush 200, 3) := by decide +kernel
theorem dMO_good_45 : decode cMO_good 45 = .ok (.if_icmp .gt 7, 3) := by decide +kernel
theorem dMO_good_48 : decode cMO_good 48 = .ok (.iconst 1, 1) := by decide +kernel
theorem dMO_good_49 : decode cMO_good 49 = .ok (.goto 4, 3) := by decide +kernel
theorem dMO_good_52 : decode cMO_good 52 = .ok (.iconst 0, 1) := by decide +kernel
theorem dMO_good_53 : decode cMO_good 53 = .ok (.istore 4, 2) := by decide +kernel
theorem dMO_good_55 : decode cMO_good 55 = .ok (.iload_n 0, 1) := by decide +kernel
theorem dMO_good_56 : decode cMO_good 56 = .ok (.bipush 12, 2) := by decide +kernel
theorem dMO_good_58 : decode cMO_good 58 = .ok (.if_icmp .ne 22, 3) := by decide +kernel
theorem dMO_good_61 : decode cMO_good 61 = .ok (.iload 4, 2) := by decide +kernel
theorem dMO_good_63 : decode cMO_good 63 = .ok (.ifCond .eq 15, 3) := by decide +kernel
theorem dMO_good_66 : decode cMO_good 66 = .ok (.iload_n 2, 1) := by decide +kernel
theorem dMO_good_67 : decode cMO_good 67 = .ok (.ifCond .ne 11, 3) := by decide +kernel
theorem dMO_good_70 : decode cMO_good 70 = .ok (.iload_n 3, 1) := by decide +kernel
theorem dMO_good_71 : decode cMO_good 71 = .ok (.ifCond .ne 7, 3) := by decide +kernel
theorem dMO_good_74 : decode cMO_good 74 = .ok (.iconst 1, 1) := by decide +kernel
theorem dMO_good_75 : decode cMO_good 75 = .ok (.goto 4, 3) := by decide +kernel
theorem dMO_good_78 : decode cMO_good 78 = .ok (.iconst 0, 1) := by decide +kernel
theorem dMO_good_79 : decode cMO_good 79 = .ok (.ireturn, 1) := by decide +kernel
theorem dMO_good_80 : decode cMO_good 80 = .ok (.iload_n 0, 1) := by decide +kernel
theorem dMO_good_81 : decode cMO_good 81 = .ok (.bipush 13, 2) := by decide +kernel
theorem dMO_good_83 : decode cMO_good 83 = .ok (.if_icmp .le 21, 3) := by decide +kernel
theorem dMO_good_86 : decode cMO_good 86 = .ok (.iload_n 1, 1) := by decide +kernel
theorem dMO_good_87 : decode cMO_good 87 = .ok (.ifCond .ne 15, 3) := by decide +kernel
theorem dMO_good_90 : decode cMO_good 90 = .ok (.iload_n 2, 1) := by decide +kernel
theorem dMO_good_91 : decode cMO_good 91 = .ok (.ifCond .ne 11, 3) := by decide +kernel
theorem dMO_good_94 : decode cMO_good 94 = .ok (.iload_n 3, 1) := by decide +kernel
theorem dMO_good_95 : decode cMO_good 95 = .ok (.ifCond .ne 7, 3) := by decide +kernel
theorem dMO_good_98 : decode cMO_good 98 = .ok (.iconst 1, 1) := by decide +kernel
theorem dMO_good_99 : decode cMO_good 99 = .ok (.goto 4, 3) := by decide +kernel
theorem dMO_good_102 : decode cMO_good 102 = .ok (.iconst 0, 1) := by decide +kernel
theorem dMO_good_103 : decode cMO_good 103 = .ok (.ireturn, 1) := by decide +kernel
theorem dMO_good_104 : decode cMO_good 104 = .ok (.iload_n 1, 1) := by decide +kernel
theorem dMO_good_105 : decode cMO_good 105 = .ok (.invokestatic 86, 3) := by decide +kernel
theorem dMO_good_108 : decode cMO_good 108 = .ok (.ifCond .ne 5, 3) := by decide +kernel
theorem dMO_good_111 : decode cMO_good 111 = .ok (.iconst 0, 1) := by decide +kernel
theorem dMO_good_112 : decode cMO_good 112 = .ok (.ireturn, 1) := by decide +kernel
theorem dMO_good_113 : decode cMO_good 113 = .ok (.iload_n 0, 1) := by decide +kernel
theorem dMO_good_114 : decode cMO_good 114 = .ok (.ifCond .ne 13, 3) := by decide +kernel
theorem dMO_good_117 : decode cMO_good 117 = .ok (.iload_n 3, 1) := by decide +kernel
theorem dMO_good_118 : decode cMO_good 118 = .ok (.ifCond .ne 7, 3) := by decide +kernel
theorem dMO_good_121 : decode cMO_good 121 = .ok (.iconst 1, 1) := by decide +kernel
theorem dMO_good_122 : decode cMO_good 122 = .ok (.goto 4, 3) := by decide +kernel
theorem dMO_good_125 : decode cMO_good 125 = .ok (.iconst 0, 1) := by decide +kernel
theorem dMO_good_126 : decode cMO_good 126 = .ok (.ireturn, 1) := by decide +kernel
theorem dMO_good_127 : decode cMO_good 127 = .ok (.iload_n 0, 1) := by decide +kernel
theorem dMO_good_128 : decode cMO_good 128 = .ok (.iconst 1, 1) := by decide +kernel
theorem dMO_good_129 : decode cMO_good 129 = .ok (.if_icmp .eq 15, 3) := by decide +kernel
theorem dMO_good_132 : decode cMO_good 132 = .ok (.iload_n 0, 1) := by decide +kernel
theorem dMO_good_133 : decode cMO_good 133 = .ok (.bipush 9, 2) := by decide +kernel
theorem dMO_good_135 : decode cMO_good 135 = .ok (.if_icmp .eq 9, 3) := by decide +kernel
theorem dMO_good_138 : decode cMO_good 138 = .ok (.iload_n 0, 1) := by decide +kernel
theorem dMO_good_139 : decode cMO_good 139 = .ok (.bipush 10, 2) := by decide +kernel
theorem dMO_good_141 : decode cMO_good 141 = .ok (.if_icmp .ne 20, 3) := by decide +kernel
theorem dMO_good_144 : decode cMO_good 144 = .ok (.iload_n 2, 1) := by decide +kernel
theorem dMO_good_145 : decode cMO_good 145 = .ok (.invokestatic 86, 3) := by decide +kernel
theorem dMO_good_148 : decode cMO_good 148 = .ok (.ifCond .eq 11, 3) := by decide +kernel
theorem dMO_good_151 : decode cMO_good 151 = .ok (.iload_n 3, 1) := by decide +kernel
theorem dMO_good_152 : decode cMO_good 152 = .ok (.ifCond .ne 7, 3) := by decide +kernel
theorem dMO_good_155 : decode cMO_good 155 = .ok (.iconst 1, 1) := by decide +kernel
theorem dMO_good_156 : decode cMO_good 156 = .ok (.goto 4, 3) := by decide +kernel
theorem dMO_good_159 : decode cMO_good 159 = .ok (.iconst 0, 1) := by decide +kernel
theorem dMO_good_160 : decode cMO_good 160 = .ok (.ireturn, 1) := by decide +kernel
theorem dMO_good_161 : decode cMO_good 161 = .ok (.iload_n 0, 1) := by decide +kernel
theorem dMO_good_162 : decode cMO_good 162 = .ok (.bipush 8, 2) := by decide +kernel
theorem dMO_good_164 : decode cMO_good 164 = .ok (.if_icmp .ge 23, 3) := by decide +kernel
theorem dMO_good_167 : decode cMO_good 167 = .ok (.iload_n 2, 1) := by decide +kernel
theorem dMO_good_168 : decode cMO_good 168 = .ok (.invokestatic 86, 3) := by decide +kernel
theorem dMO_good_171 : decode cMO_good 171 = .ok (.ifCond .eq 14, 3) := by decide +kernel
theorem dMO_good_174 : decode cMO_good 174 = .ok (.iload_n 3, 1) := by decide +kernel
theorem dMO_good_175 : decode cMO_good 175 = .ok (.invokestatic 86, 3) := by decide +kernel
theorem dMO_good_178 : decode cMO_good 178 = .ok (.ifCond .eq 7, 3) := by decide +kernel
theorem dMO_good_181 : decode cMO_good 181 = .ok (.iconst 1, 1) := by decide +kernel
theorem dMO_good_182 : decode cMO_good 182 = .ok (.goto 4, 3) := by decide +kernel
theorem dMO_good_185 : decode cMO_good 185 = .ok (.iconst 0, 1) := by decide +kernel
theorem dMO_good_186 : decode cMO_good 186 = .ok (.ireturn, 1) := by decide +kernel
theorem dMO_good_187 : decode cMO_good 187 = .ok (.iload_n 0, 1) := by decide +kernel
theorem dMO_good_188 : decode cMO_good 188 = .ok (.bipush 8, 2) := by decide +kernel
theorem dMO_good_190 : decode cMO_good 190 = .ok (.if_icmp .ne 29, 3) := by decide +kernel
theorem dMO_good_193 : decode cMO_good 193 = .ok (.iload_n 2, 1) := by decide +kernel
theorem dMO_good_194 : decode cMO_good 194 = .ok (.iconst 1, 1) := by decide +kernel
theorem dMO_good_195 : decode cMO_good 195 = .ok (.if_icmp .lt 22, 3) := by decide +kernel
theorem dMO_good_198 : decode cMO_good 198 = .ok (.iload_n 2, 1) := by decide +kernel
theorem dMO_good_199 : decode cMO_good 199 = .ok (.bipush 16, 2) := by decide +kernel
theorem dMO_good_201 : decode cMO_good 201 = .ok (.if_icmp .gt 16, 3) := by decide +kernel
theorem dMO_good_204 : decode cMO_good 204 = .ok (.iload_n 3, 1) := by decide +kernel
theorem dMO_good_205 : decode cMO_good 205 = .ok (.ifCond .eq 8, 3) := by decide +kernel
theorem dMO_good_208 : decode cMO_good 208 = .ok (.iload_n 3, 1) := by decide +kernel
theorem dMO_good_209 : decode cMO_good 209 = .ok (.iconst 1, 1) := by decide +kernel
theorem dMO_good_210 : decode cMO_good 210 = .ok (.if_icmp .ne 7, 3) := by decide +kernel
theorem dMO_good_213 : decode cMO_good 213 = .ok (.iconst 1, 1) := by decide +kernel
theorem dMO_good_214 : decode cMO_good 214 = .ok (.goto 4, 3) := by decide +kernel
theorem dMO_good_217 : decode cMO_good 217 = .ok (.iconst 0, 1) := by decide +kernel
theorem dMO_good_218 : decode cMO_good 218 = .ok (.ireturn, 1) := by decide +kernel
theorem dMO_good_219 : decode cMO_good 219 = .ok (.iload_n 0, 1) := by decide +kernel
theorem dMO_good_220 : decode cMO_good 220 = .ok (.bipush 11, 2) := by decide +kernel
theorem dMO_good_222 : decode cMO_good 222 = .ok (.if_icmp .ne 19, 3) := by decide +kernel
theorem dMO_good_225 : decode cMO_good 225 = .ok (.iload_n 2, 1) := by decide +kernel
theorem dMO_good_226 : decode cMO_good 226 = .ok (.ifCond .ne 11, 3) := by decide +kernel
theorem dMO_good_229 : decode cMO_good 229 = .ok (.iload_n 3, 1) := by decide +kernel
theorem dMO_good_230 : decode cMO_good 230 = .ok (.ifCond .ne 7, 3) := by decide +kernel
theorem dMO_good_233 : decode cMO_good 233 = .ok (.iconst 1, 1) := by decide +kernel
theorem dMO_good_234 : decode cMO_good 234 = .ok (.goto 21, 3) := by decide +kernel
theorem dMO_good_237 : decode cMO_good 237 = .ok (.iconst 0, 1) := by decide +kernel
theorem dMO_good_238 : decode cMO_good 238 = .ok (.goto 17, 3) := by decide +kernel
theorem dMO_good_241 : decode cMO_good 241 = .ok (.iload 4, 2) := by decide +kernel
theorem dMO_good_243 : decode cMO_good 243 = .ok (.ifCond .eq 11, 3) := by decide +kernel
theorem dMO_good_246 : decode cMO_good 246 = .ok (.iload_n 3, 1) := by decide +kernel
theorem dMO_good_247 : decode cMO_good 247 = .ok (.ifCond .ne 7, 3) := by decide +kernel
theorem dMO_good_250 : decode cMO_good 250 = .ok (.iconst 1, 1) := by decide +kernel
theorem dMO_good_251 : decode cMO_good 251 = .ok (.goto 4, 3) := by decide +kernel
theorem dMO_good_254 : decode cMO_good 254 = .ok (.iconst 0, 1) := by decide +kernel
theorem dMO_good_255 : decode cMO_good 255 = .ok (.ireturn, 1) := by decide +kernel
theorem dMO_add_0 : decode cMO_add 0 = .ok (.aload_n 0, 1) := by decide +kernel
theorem dMO_add_1 : decode cMO_add 1 = .ok (.iload_n 1, 1) := by decide +kernel
theorem dMO_add_2 : decode cMO_add 2 = .ok (.iload_n 2, 1) := by decide +kernel
theorem dMO_add_3 : decode cMO_add 3 = .ok (.iload_n 3, 1) := by decide +kernel
theorem dMO_add_4 : decode cMO_add 4 = .ok (.iload 4, 2) := by decide +kernel
theorem dMO_add_6 : decode cMO_add 6 = .ok (.invokestatic 90, 3) := by decide +kernel
theorem dMO_add_9 : decode cMO_add 9 = .ok (.ifCond .ne 7, 3) := by decide +kernel
theorem dMO_add_12 : decode cMO_add 12 = .ok (.iconst 1, 1) := by decide +kernel
theorem dMO_add_13 : decode cMO_add 13 = .ok (.goto 25, 3) := by decide +kernel
theorem dMO_add_16 : decode cMO_add 16 = .ok (.aload_n 0, 1) := by decide +kernel
theorem dMO_add_17 : decode cMO_add 17 = .ok (.getfield 94, 3) := by decide +kernel
theorem dMO_add_20 : decode cMO_add 20 = .ok (.sipush 200, 3) := by decide +kernel
theorem dMO_add_23 : decode cMO_add 23 = .ok (.if_icmp .eq 10, 3) := by decide +kernel
theorem dMO_add_26 : decode cMO_add 26 = .ok (.aload_n 0, 1) := by decide +kernel
theorem dMO_add_27 : decode cMO_add 27 = .ok (.getfield 97, 3) := by decide +kernel
theorem dMO_add_30 : decode cMO_add 30 = .ok (.ifCond .eq 7, 3) := by decide +kernel
theorem dMO_add_33 : decode cMO_add 33 = .ok (.iconst 2, 1) := by decide +kernel
theorem dMO_add_34 : decode cMO_add 34 = .ok (.goto 4, 3) := by decide +kernel
theorem dMO_add_37 : decode cMO_add 37 = .ok (.iconst 0, 1) := by decide +kernel
theorem dMO_add_38 : decode cMO_add 38 = .ok (.putfield 83, 3) := by decide +kernel
theorem dMO_add_41 : decode cMO_add 41 = .ok (.aload_n 0, 1) := by decide +kernel
theorem dMO_add_42 : decode cMO_add 42 = .ok (.getfield 83, 3) := by decide +kernel
theorem dMO_add_45 : decode cMO_add 45 = .ok (.ifCond .le 5, 3) := by decide +kernel
theorem dMO_add_48 : decode cMO_add 48 = .ok (.iconst 0, 1) := by decide +kernel
theorem dMO_add_49 : decode cMO_add 49 = .ok (.ireturn, 1) := by decide +kernel
theorem dMO_add_50 : decode cMO_add 50 = .ok (.aload_n 0, 1) := by decide +kernel
theorem dMO_add_51 : decode cMO_add 51 = .ok (.getfield 7, 3) := by decide +kernel
theorem dMO_add_54 : decode cMO_add 54 = .ok (.aload_n 0, 1) := by decide +kernel
theorem dMO_add_55 : decode cMO_add 55 = .ok (.getfield 94, 3) := by decide +kernel
theorem dMO_add_58 : decode cMO_add 58 = .ok (.iload_n 1, 1) := by decide +kernel
theorem dMO_add_59 : decode cMO_add 59 = .ok (.iastore, 1) := by decide +kernel
theorem dMO_add_60 : decode cMO_add 60 = .ok (.aload_n 0, 1) := by decide +kernel
theorem dMO_add_61 : decode cMO_add 61 = .ok (.getfield 13, 3) := by decide +kernel
theorem dMO_add_64 : decode cMO_add 64 = .ok (.aload_n 0, 1) := by decide +kernel
theorem dMO_add_65 : decode cMO_add 65 = .ok (.getfield 94, 3) := by decide +kernel
theorem dMO_add_68 : decode cMO_add 68 = .ok (.iload_n 2, 1) := by decide +kernel
theorem dMO_add_69 : decode cMO_add 69 = .ok (.iastore, 1) := by decide +kernel
theorem dMO_add_70 : decode cMO_add 70 = .ok (.aload_n 0, 1) := by decide +kernel
theorem dMO_add_71 : decode cMO_add 71 = .ok (.getfield 16, 3) := by decide +kernel
theorem dMO_add_74 : decode cMO_add 74 = .ok (.aload_n 0, 1) := by decide +kernel
theorem dMO_add_75 : decode cMO_add 75 = .ok (.getfield 94, 3) := by decide +kernel
theorem dMO_add_78 : decode cMO_add 78 = .ok (.iload_n 3, 1) := by decide +kernel
theorem dMO_add_79 : decode cMO_add 79 = .ok (.iastore, 1) := by decide +kernel
theorem dMO_add_80 : decode cMO_add 80 = .ok (.aload_n 0, 1) := by decide +kernel
theorem dMO_add_81 : decode cMO_add 81 = .ok (.getfield 19, 3) := by decide +kernel
theorem dMO_add_84 : decode cMO_add 84 = .ok (.aload_n 0, 1) := by decide +kernel
theorem dMO_add_85 : decode cMO_add 85 = .ok (.getfield 94, 3) := by decide +kernel
theorem dMO_add_88 : decode cMO_add 88 = .ok (.iload 4, 2) := by decide +kernel
theorem dMO_add_90 : decode cMO_add 90 = .ok (.iastore, 1) := by decide +kernel
theorem dMO_add_91 : decode cMO_add 91 = .ok (.aload_n 0, 1) := by decide +kernel
theorem dMO_add_92 : decode cMO_add 92 = .ok (.dup, 1) := by decide +kernel
theorem dMO_add_93 : decode cMO_add 93 = .ok (.getfield 94, 3) := by decide +kernel
theorem dMO_add_96 : decode cMO_add 96 = .ok (.iconst 1, 1) := by decide +kernel
theorem dMO_add_97 : decode cMO_add 97 = .ok (.iadd, 1) := by decide +kernel
theorem dMO_add_98 : decode cMO_add 98 = .ok (.putfield 94, 3) := by decide +kernel
theorem dMO_add_101 : decode cMO_add 101 = .ok (.aload_n 0, 1) := by decide +kernel
theorem dMO_add_102 : decode cMO_add 102 = .ok (.getfield 94, 3) := by decide +kernel
theorem dMO_add_105 : decode cMO_add 105 = .ok (.iconst 1, 1) := by decide +kernel
theorem dMO_add_106 : decode cMO_add 106 = .ok (.isub, 1) := by decide +kernel
theorem dMO_add_107 : decode cMO_add 107 = .ok (.ireturn, 1) := by decide +kernel
theorem dMO_clear_0 : decode cMO_clear 0 = .ok (.aload_n 0, 1) := by decide +kernel
theorem dMO_clear_1 : decode cMO_clear 1 = .ok (.iconst 0, 1) := by decide +kernel
theorem dMO_clear_2 : decode cMO_clear 2 = .ok (.putfield 83, 3) := by decide +kernel
theorem dMO_clear_5 : decode cMO_clear 5 = .ok (.aload_n 0, 1) := by decide +kernel
theorem dMO_clear_6 : decode cMO_clear 6 = .ok (.getfield 94, 3) := by decide +kernel
theorem dMO_clear_9 : decode cMO_clear 9 = .ok (.istore_n 1, 1) := by decide +kernel
theorem dMO_clear_10 : decode cMO_clear 10 = .ok (.aload_n 0, 1) := by decide +kernel
theorem dMO_clear_11 : decode cMO_clear 11 = .ok (.iconst 0, 1) := by decide +kernel
theorem dMO_clear_12 : decode cMO_clear 12 = .ok (.putfield 94, 3) := by decide +kernel
theorem dMO_clear_15 : decode cMO_clear 15 = .ok (.aload_n 0, 1) := by decide +kernel
theorem dMO_clear_16 : decode cMO_clear 16 = .ok (.iconst 0, 1) := by decide +kernel
theorem dMO_clear_17 : decode cMO_clear 17 = .ok (.putfield 97, 3) := by decide +kernel
theorem dMO_clear_20 : decode cMO_clear 20 = .ok (.iload_n 1, 1) := by decide +kernel
theorem dMO_clear_21 : decode cMO_clear 21 = .ok (.ireturn, 1) := by decide +kernel
theorem dMO_sets_0 : decode cMO_sets 0 = .ok (.aload_n 0, 1) := by decide +kernel
theorem dMO_sets_1 : decode cMO_sets 1 = .ok (.getfield 7, 3) := by decide +kernel
theorem dMO_sets_4 : decode cMO_sets 4 = .ok (.aload_n 0, 1) := by decide +kernel
theorem dMO_sets_5 : decode cMO_sets 5 = .ok (.getfield 101, 3) := by decide +kernel
theorem dMO_sets_8 : decode cMO_sets 8 = .ok (.iload_n 1, 1) := by decide +kernel
theorem dMO_sets_9 : decode cMO_sets 9 = .ok (.iadd, 1) := by decide +kernel
theorem dMO_sets_10 : decode cMO_sets 10 = .ok (.iaload, 1) := by decide +kernel
theorem dMO_sets_11 : decode cMO_sets 11 = .ok (.bipush 10, 2) := by decide +kernel
theorem dMO_sets_13 : decode cMO_sets 13 = .ok (.if_icmp .ge 7, 3) := by decide +kernel
theorem dMO_sets_16 : decode cMO_sets 16 = .ok (.iconst 1, 1) := by decide +kernel
theorem dMO_sets_17 : decode cMO_sets 17 = .ok (.goto 4, 3) := by decide +kernel
theorem dMO_sets_20 : decode cMO_sets 20 = .ok (.iconst 0, 1) := by decide +kernel
theorem dMO_sets_21 : decode cMO_sets 21 = .ok (.ireturn, 1) := by decide +kernel
theorem dMO_next_0 : decode cMO_next 0 = .ok (.iload_n 1, 1) := by decide +kernel
theorem dMO_next_1 : decode cMO_next 1 = .ok (.aload_n 0, 1) := by decide +kernel
theorem dMO_next_2 : decode cMO_next 2 = .ok (.getfield 94, 3) := by decide +kernel
theorem dMO_next_5 : decode cMO_next 5 = .ok (.if_icmp .eq 19, 3) := by decide +kernel
theorem dMO_next_8 : decode cMO_next 8 = .ok (.aload_n 0, 1) := by decide +kernel
theorem dMO_next_9 : decode cMO_next 9 = .ok (.getfield 7, 3) := by decide +kernel
theorem dMO_next_12 : decode cMO_next 12 = .ok (.aload_n 0, 1) := by decide +kernel
theorem dMO_next_13 : decode cMO_next 13 = .ok (.getfield 101, 3) := by decide +kernel
theorem dMO_next_16 : decode cMO_next 16 = .ok (.iload_n 1, 1) := by decide +kernel
theorem dMO_next_17 : decode cMO_next 17 = .ok (.iadd, 1) := by decide +kernel
theorem dMO_next_18 : decode cMO_next 18 = .ok (.iaload, 1) := by decide +kernel
theorem dMO_next_19 : decode cMO_next 19 = .ok (.bipush 14, 2) := by decide +kernel
theorem dMO_next_21 : decode cMO_next 21 = .ok (.if_icmp .ne 5, 3) := by decide +kernel
theorem dMO_next_24 : decode cMO_next 24 = .ok (.iconst (-1), 1) := by decide +kernel
theorem dMO_next_25 : decode cMO_next 25 = .ok (.ireturn, 1) := by decide +kernel
theorem dMO_next_26 : decode cMO_next 26 = .ok (.aload_n 0, 1) := by decide +kernel
theorem dMO_next_27 : decode cMO_next 27 = .ok (.getfield 7, 3) := by decide +kernel
theorem dMO_next_30 : decode cMO_next 30 = .ok (.aload_n 0, 1) := by decide +kernel
theorem dMO_next_31 : decode cMO_next 31 = .ok (.getfield 101, 3) := by decide +kernel
theorem dMO_next_34 : decode cMO_next 34 = .ok (.iload_n 1, 1) := by decide +kernel
theorem dMO_next_35 : decode cMO_next 35 = .ok (.iadd, 1) := by decide +kernel
theorem dMO_next_36 : decode cMO_next 36 = .ok (.iaload, 1) := by decide +kernel
theorem dMO_next_37 : decode cMO_next 37 = .ok (.bipush 12, 2) := by decide +kernel
theorem dMO_next_39 : decode cMO_next 39 = .ok (.if_icmp .ne 17, 3) := by decide +kernel
theorem dMO_next_42 : decode cMO_next 42 = .ok (.aload_n 0, 1) := by decide +kernel
theorem dMO_next_43 : decode cMO_next 43 = .ok (.getfield 13, 3) := by decide +kernel
theorem dMO_next_46 : decode cMO_next 46 = .ok (.aload_n 0, 1) := by decide +kernel
theorem dMO_next_47 : decode cMO_next 47 = .ok (.getfield 101, 3) := by decide +kernel
theorem dMO_next_50 : decode cMO_next 50 = .ok (.iload_n 1, 1) := by decide +kernel
theorem dMO_next_51 : decode cMO_next 51 = .ok (.iadd, 1) := by decide +kernel
theorem dMO_next_52 : decode cMO_next 52 = .ok (.iaload, 1) := by decide +kernel
theorem dMO_next_53 : decode cMO_next 53 = .ok (.goto 14, 3) := by decide +kernel
theorem dMO_next_56 : decode cMO_next 56 = .ok (.aload_n 0, 1) := by decide +kernel
theorem dMO_next_57 : decode cMO_next 57 = .ok (.getfield 16, 3) := by decide +kernel
theorem dMO_next_60 : decode cMO_next 60 = .ok (.aload_n 0, 1) := by decide +kernel
theorem dMO_next_61 : decode cMO_next 61 = .ok (.getfield 101, 3) := by decide +kernel
theorem dMO_next_64 : decode cMO_next 64 = .ok (.iload_n 1, 1) := by decide +kernel
theorem dMO_next_65 : decode cMO_next 65 = .ok (.iadd, 1) := by decide +kernel
theorem dMO_next_66 : decode cMO_next 66 = .ok (.iaload, 1) := by decide +kernel
theorem dMO_next_67 : decode cMO_next 67 = .ok (.istore_n 3, 1) := by decide +kernel
theorem dMO_next_68 : decode cMO_next 68 = .ok (.iload_n 3, 1) := by decide +kernel
theorem dMO_next_69 : decode cMO_next 69 = .ok (.aload_n 0, 1) := by decide +kernel
theorem dMO_next_70 : decode cMO_next 70 = .ok (.getfield 94, 3) := by decide +kernel
theorem dMO_next_73 : decode cMO_next 73 = .ok (.if_icmp .le 10, 3) := by decide +kernel
theorem dMO_next_76 : decode cMO_next 76 = .ok (.aload_n 0, 1) := by decide +kernel
theorem dMO_next_77 : decode cMO_next 77 = .ok (.getfield 94, 3) := by decide +kernel
theorem dMO_next_80 : decode cMO_next 80 = .ok (.goto 4, 3) := by decide +kernel
theorem dMO_next_83 : decode cMO_next 83 = .ok (.iload_n 3, 1) := by decide +kernel
theorem dMO_next_84 : decode cMO_next 84 = .ok (.istore_n 3, 1) := by decide +kernel
theorem dMO_next_85 : decode cMO_next 85 = .ok (.iload_n 2, 1) := by decide +kernel
theorem dMO_next_86 : decode cMO_next 86 = .ok (.ifCond .ne 27, 3) := by decide +kernel
theorem dMO_next_89 : decode cMO_next 89 = .ok (.aload_n 0, 1) := by decide +kernel
theorem dMO_next_90 : decode cMO_next 90 = .ok (.getfield 7, 3) := by decide +kernel
theorem dMO_next_93 : decode cMO_next 93 = .ok (.aload_n 0, 1) := by decide +kernel
theorem dMO_next_94 : decode cMO_next 94 = .ok (.getfield 101, 3) := by decide +kernel
theorem dMO_next_97 : decode cMO_next 97 = .ok (.iload_n 1, 1) := by decide +kernel
theorem dMO_next_98 : decode cMO_next 98 = .ok (.iadd, 1) := by decide +kernel
theorem dMO_next_99 : decode cMO_next 99 = .ok (.iaload, 1) := by decide +kernel
theorem dMO_next_100 : decode cMO_next 100 = .ok (.bipush 12, 2) := by decide +kernel
theorem dMO_next_102 : decode cMO_next 102 = .ok (.if_icmp .ne 7, 3) := by decide +kernel
theorem dMO_next_105 : decode cMO_next 105 = .ok (.iload_n 3, 1) := by decide +kernel
theorem dMO_next_106 : decode cMO_next 106 = .ok (.goto 6, 3) := by decide +kernel
theorem dMO_next_109 : decode cMO_next 109 = .ok (.iload_n 1, 1) := by decide +kernel
theorem dMO_next_110 : decode cMO_next 110 = .ok (.iconst 1, 1) := by decide +kernel
theorem dMO_next_111 : decode cMO_next 111 = .ok (.iadd, 1) := by decide +kernel
theorem dMO_next_112 : decode cMO_next 112 = .ok (.ireturn, 1) := by decide +kernel
theorem dMO_next_113 : decode cMO_next 113 = .ok (.aload_n 0, 1) := by decide +kernel
theorem dMO_next_114 : decode cMO_next 114 = .ok (.getfield 7, 3) := by decide +kernel
theorem dMO_next_117 : decode cMO_next 117 = .ok (.aload_n 0, 1) := by decide +kernel
theorem dMO_next_118 : decode cMO_next 118 = .ok (.getfield 101, 3) := by decide +kernel
theorem dMO_next_121 : decode cMO_next 121 = .ok (.iload_n 1, 1) := by decide +kernel
theorem dMO_next_122 : decode cMO_next 122 = .ok (.iadd, 1) := by decide +kernel
theorem dMO_next_123 : decode cMO_next 123 = .ok (.iaload, 1) := by decide +kernel
theorem dMO_next_124 : decode cMO_next 124 = .ok (.bipush 13, 2) := by decide +kernel
theorem dMO_next_126 : decode cMO_next 126 = .ok (.if_icmp .ne 7, 3) := by decide +kernel
theorem dMO_next_129 : decode cMO_next 129 = .ok (.iload_n 3, 1) := by decide +kernel
theorem dMO_next_130 : decode cMO_next 130 = .ok (.goto 4, 3) := by decide +kernel
theorem dMO_next_133 : decode cMO_next 133 = .ok (.iconst (-1), 1) := by decide +kernel
theorem dMO_next_134 : decode cMO_next 134 = .ok (.ireturn, 1) := by decide +kernel
theorem dMO_size_0 : decode cMO_size 0 = .ok (.aload_n 0, 1) := by decide +kernel
theorem dMO_size_1 : decode cMO_size 1 = .ok (.iconst 0, 1) := by decide +kernel
theorem dMO_size_2 : decode cMO_size 2 = .ok (.putfield 83, 3) := by decide +kernel
theorem dMO_size_5 : decode cMO_size 5 = .ok (.aload_n 0, 1) := by decide +kernel
theorem dMO_size_6 : decode cMO_size 6 = .ok (.getfield 94, 3) := by decide +kernel
theorem dMO_size_9 : decode cMO_size 9 = .ok (.ireturn, 1) := by decide +kernel
theorem dMO_no_0 : decode cMO_no 0 = .ok (.iload_n 1, 1) := by decide +kernel
theorem dMO_no_1 : decode cMO_no 1 = .ok (.ifCond .lt 11, 3) := by decide +kernel
theorem dMO_no_4 : decode cMO_no 4 = .ok (.iload_n 1, 1) := by decide +kernel
theorem dMO_no_5 : decode cMO_no 5 = .ok (.aload_n 0, 1) := by decide +kernel
theorem dMO_no_6 : decode cMO_no 6 = .ok (.getfield 94, 3) := by decide +kernel
theorem dMO_no_9 : decode cMO_no 9 = .ok (.if_icmp .lt 7, 3) := by decide +kernel
theorem dMO_no_12 : decode cMO_no 12 = .ok (.iconst 1, 1) := by decide +kernel
theorem dMO_no_13 : decode cMO_no 13 = .ok (.goto 4, 3) := by decide +kernel
theorem dMO_no_16 : decode cMO_no 16 = .ok (.iconst 0, 1) := by decide +kernel
theorem dMO_no_17 : decode cMO_no 17 = .ok (.ireturn, 1) := by decide +kernel
theorem dMO_instruction_0 : decode cMO_instruction 0 = .ok (.aload_n 0, 1) := by decide +kernel
theorem dMO_instruction_1 : decode cMO_instruction 1 = .ok (.aload_n 0, 1) := by decide +kernel
theorem dMO_instruction_2 : decode cMO_instruction 2 = .ok (.iload_n 1, 1) := by decide +kernel
theorem dMO_instruction_3 : decode cMO_instruction 3 = .ok (.invokevirtual 184, 3) := by decide +kernel
theorem dMO_instruction_6 : decode cMO_instruction 6 = .ok (.ifCond .eq 7, 3) := by decide +kernel
theorem dMO_instruction_9 : decode cMO_instruction 9 = .ok (.iconst 1, 1) := by decide +kernel
theorem dMO_instruction_10 : decode cMO_instruction 10 = .ok (.goto 32, 3) := by decide +kernel
theorem dMO_instruction_13 : decode cMO_instruction 13 = .ok (.iload_n 2, 1) := by decide +kernel
theorem dMO_instruction_14 : decode cMO_instruction 14 = .ok (.ifCond .lt 8, 3) := by decide +kernel
theorem dMO_instruction_17 : decode cMO_instruction 17 = .ok (.iload_n 2, 1) := by decide +kernel
theorem dMO_instruction_18 : decode cMO_instruction 18 = .ok (.iconst 3, 1) := by decide +kernel
theorem dMO_instruction_19 : decode cMO_instruction 19 = .ok (.if_icmp .le 7, 3) := by decide +kernel
theorem dMO_instruction_22 : decode cMO_instruction 22 = .ok (.iconst 2, 1) := by decide +kernel
theorem dMO_instruction_23 : decode cMO_instruction 23 = .ok (.goto 19, 3) := by decide +kernel
theorem dMO_instruction_26 : decode cMO_instruction 26 = .ok (.iload_n 3, 1) := by decide +kernel
theorem dMO_instruction_27 : decode cMO_instruction 27 = .ok (.ifCond .ne 14, 3) := by decide +kernel
theorem dMO_instruction_30 : decode cMO_instruction 30 = .ok (.aload_n 0, 1) := by decide +kernel
theorem dMO_instruction_31 : decode cMO_instruction 31 = .ok (.getfield 97, 3) := by decide +kernel
theorem dMO_instruction_34 : decode cMO_instruction 34 = .ok (.ifCond .ne 7, 3) := by decide +kernel
theorem dMO_instruction_37 : decode cMO_instruction 37 = .ok (.iconst 3, 1) := by decide +kernel
theorem dMO_instruction_38 : decode cMO_instruction 38 = .ok (.goto 4, 3) := by decide +kernel
theorem dMO_instruction_41 : decode cMO_instruction 41 = .ok (.iconst 0, 1) := by decide +kernel
theorem dMO_instruction_42 : decode cMO_instruction 42 = .ok (.putfield 83, 3) := by decide +kernel
theorem dMO_instruction_45 : decode cMO_instruction 45 = .ok (.aload_n 0, 1) := by decide +kernel
theorem dMO_instruction_46 : decode cMO_instruction 46 = .ok (.getfield 83, 3) := by decide +kernel
theorem dMO_instruction_49 : decode cMO_instruction 49 = .ok (.ifCond .le 5, 3) := by decide +kernel
theorem dMO_instruction_52 : decode cMO_instruction 52 = .ok (.iconst 0, 1) := by decide +kernel
theorem dMO_instruction_53 : decode cMO_instruction 53 = .ok (.ireturn, 1) := by decide +kernel
theorem dMO_instruction_54 : decode cMO_instruction 54 = .ok (.iload_n 3, 1) := by decide +kernel
theorem dMO_instruction_55 : decode cMO_instruction 55 = .ok (.ifCond .eq 7, 3) := by decide +kernel
theorem dMO_instruction_58 : decode cMO_instruction 58 = .ok (.iload_n 1, 1) := by decide +kernel
theorem dMO_instruction_59 : decode cMO_instruction 59 = .ok (.goto 8, 3) := by decide +kernel
theorem dMO_instruction_62 : decode cMO_instruction 62 = .ok (.sipush 200, 3) := by decide +kernel
theorem dMO_instruction_65 : decode cMO_instruction 65 = .ok (.iload_n 1, 1) := by decide +kernel
theorem dMO_instruction_66 : decode cMO_instruction 66 = .ok (.iadd, 1) := by decide +kernel
theorem dMO_instruction_67 : decode cMO_instruction 67 = .ok (.istore 4, 2) := by decide +kernel
theorem dMO_instruction_69 : decode cMO_instruction 69 = .ok (.iload_n 2, 1) := by decide +kernel
theorem dMO_instruction_70 : decode cMO_instruction 70 = .ok (.ifCond .ne 13, 3) := by decide +kernel
theorem dMO_instruction_73 : decode cMO_instruction 73 = .ok (.aload_n 0, 1) := by decide +kernel
theorem dMO_instruction_74 : decode cMO_instruction 74 = .ok (.getfield 7, 3) := by decide +kernel
theorem dMO_instruction_77 : decode cMO_instruction 77 = .ok (.iload 4, 2) := by decide +kernel
theorem dMO_instruction_79 : decode cMO_instruction 79 = .ok (.iaload, 1) := by decide +kernel
theorem dMO_instruction_80 : decode cMO_instruction 80 = .ok (.goto 40, 3) := by decide +kernel
theorem dMO_instruction_83 : decode cMO_instruction 83 = .ok (.iload_n 2, 1) := by decide +kernel
theorem dMO_instruction_84 : decode cMO_instruction 84 = .ok (.iconst 1, 1) := by decide +kernel
theorem dMO_instruction_85 : decode cMO_instruction 85 = .ok (.if_icmp .ne 13, 3) := by decide +kernel
theorem dMO_instruction_88 : decode cMO_instruction 88 = .ok (.aload_n 0, 1) := by decide +kernel
theorem dMO_instruction_89 : decode cMO_instruction 89 = .ok (.getfield 13, 3) := by decide +kernel
theorem dMO_instruction_92 : decode cMO_instruction 92 = .ok (.iload 4, 2) := by decide +kernel
theorem dMO_instruction_94 : decode cMO_instruction 94 = .ok (.iaload, 1) := by decide +kernel
theorem dMO_instruction_95 : decode cMO_instruction 95 = .ok (.goto 25, 3) := by decide +kernel
theorem dMO_instruction_98 : decode cMO_instruction 98 = .ok (.iload_n 2, 1) := by decide +kernel
theorem dMO_instruction_99 : decode cMO_instruction 99 = .ok (.iconst 2, 1) := by decide +kernel
theorem dMO_instruction_100 : decode cMO_instruction 100 = .ok (.if_icmp .ne 13, 3) := by decide +kernel
theorem dMO_instruction_103 : decode cMO_instruction 103 = .ok (.aload_n 0, 1) := by decide +kernel
theorem dMO_instruction_104 : decode cMO_instruction 104 = .ok (.getfield 16, 3) := by decide +kernel
theorem dMO_instruction_107 : decode cMO_instruction 107 = .ok (.iload 4, 2) := by decide +kernel
theorem dMO_instruction_109 : decode cMO_instruction 109 = .ok (.iaload, 1) := by decide +kernel
theorem dMO_instruction_110 : decode cMO_instruction 110 = .ok (.goto 10, 3) := by decide +kernel
theorem dMO_instruction_113 : decode cMO_instruction 113 = .ok (.aload_n 0, 1) := by decide +kernel
theorem dMO_instruction_114 : decode cMO_instruction 114 = .ok (.getfield 19, 3) := by decide +kernel
theorem dMO_instruction_117 : decode cMO_instruction 117 = .ok (.iload 4, 2) := by decide +kernel
theorem dMO_instruction_119 : decode cMO_instruction 119 = .ok (.iaload, 1) := by decide +kernel
theorem dMO_instruction_120 : decode cMO_instruction 120 = .ok (.ireturn, 1) := by decide +kernel
theorem dMO_fate_0 : decode cMO_fate 0 = .ok (.aload_n 0, 1) := by decide +kernel
theorem dMO_fate_1 : decode cMO_fate 1 = .ok (.aload_n 0, 1) := by decide +kernel
theorem dMO_fate_2 : decode cMO_fate 2 = .ok (.iload_n 1, 1) := by decide +kernel
theorem dMO_fate_3 : decode cMO_fate 3 = .ok (.invokevirtual 184, 3) := by decide +kernel
theorem dMO_fate_6 : decode cMO_fate 6 = .ok (.ifCond .eq 7, 3) := by decide +kernel
theorem dMO_fate_9 : decode cMO_fate 9 = .ok (.iconst 1, 1) := by decide +kernel
theorem dMO_fate_10 : decode cMO_fate 10 = .ok (.goto 15, 3) := by decide +kernel
theorem dMO_fate_13 : decode cMO_fate 13 = .ok (.aload_n 0, 1) := by decide +kernel
theorem dMO_fate_14 : decode cMO_fate 14 = .ok (.getfield 97, 3) := by decide +kernel
theorem dMO_fate_17 : decode cMO_fate 17 = .ok (.ifCond .ne 7, 3) := by decide +kernel
theorem dMO_fate_20 : decode cMO_fate 20 = .ok (.iconst 2, 1) := by decide +kernel
theorem dMO_fate_21 : decode cMO_fate 21 = .ok (.goto 4, 3) := by decide +kernel
theorem dMO_fate_24 : decode cMO_fate 24 = .ok (.iconst 0, 1) := by decide +kernel
theorem dMO_fate_25 : decode cMO_fate 25 = .ok (.putfield 83, 3) := by decide +kernel
theorem dMO_fate_28 : decode cMO_fate 28 = .ok (.aload_n 0, 1) := by decide +kernel
theorem dMO_fate_29 : decode cMO_fate 29 = .ok (.getfield 83, 3) := by decide +kernel
theorem dMO_fate_32 : decode cMO_fate 32 = .ok (.ifCond .le 7, 3) := by decide +kernel
theorem dMO_fate_35 : decode cMO_fate 35 = .ok (.iconst 0, 1) := by decide +kernel
theorem dMO_fate_36 : decode cMO_fate 36 = .ok (.goto 9, 3) := by decide +kernel
theorem dMO_fate_39 : decode cMO_fate 39 = .ok (.aload_n 0, 1) := by decide +kernel
theorem dMO_fate_40 : decode cMO_fate 40 = .ok (.getfield 22, 3) := by decide +kernel
theorem dMO_fate_43 : decode cMO_fate 43 = .ok (.iload_n 1, 1) := by decide +kernel
theorem dMO_fate_44 : decode cMO_fate 44 = .ok (.iaload, 1) := by decide +kernel
theorem dMO_fate_45 : decode cMO_fate 45 = .ok (.ireturn, 1) := by decide +kernel
theorem dMO_rounds_0 : decode cMO_rounds 0 = .ok (.aload_n 0, 1) := by decide +kernel
theorem dMO_rounds_1 : decode cMO_rounds 1 = .ok (.aload_n 0, 1) := by decide +kernel
theorem dMO_rounds_2 : decode cMO_rounds 2 = .ok (.getfield 97, 3) := by decide +kernel
theorem dMO_rounds_5 : decode cMO_rounds 5 = .ok (.ifCond .eq 7, 3) := by decide +kernel
theorem dMO_rounds_8 : decode cMO_rounds 8 = .ok (.iconst 0, 1) := by decide +kernel
theorem dMO_rounds_9 : decode cMO_rounds 9 = .ok (.goto 4, 3) := by decide +kernel
theorem dMO_rounds_12 : decode cMO_rounds 12 = .ok (.iconst 1, 1) := by decide +kernel
theorem dMO_rounds_13 : decode cMO_rounds 13 = .ok (.putfield 83, 3) := by decide +kernel
theorem dMO_rounds_16 : decode cMO_rounds 16 = .ok (.aload_n 0, 1) := by decide +kernel
theorem dMO_rounds_17 : decode cMO_rounds 17 = .ok (.getfield 83, 3) := by decide +kernel
theorem dMO_rounds_20 : decode cMO_rounds 20 = .ok (.ifCond .le 7, 3) := by decide +kernel
theorem dMO_rounds_23 : decode cMO_rounds 23 = .ok (.iconst 0, 1) := by decide +kernel
theorem dMO_rounds_24 : decode cMO_rounds 24 = .ok (.goto 7, 3) := by decide +kernel
theorem dMO_rounds_27 : decode cMO_rounds 27 = .ok (.aload_n 0, 1) := by decide +kernel
theorem dMO_rounds_28 : decode cMO_rounds 28 = .ok (.getfield 174, 3) := by decide +kernel
theorem dMO_rounds_31 : decode cMO_rounds 31 = .ok (.ireturn, 1) := by decide +kernel
theorem dMO_may_0 : decode cMO_may 0 = .ok (.aload_n 0, 1) := by decide +kernel
theorem dMO_may_1 : decode cMO_may 1 = .ok (.iload_n 1, 1) := by decide +kernel
theorem dMO_may_2 : decode cMO_may 2 = .ok (.invokestatic 86, 3) := by decide +kernel
theorem dMO_may_5 : decode cMO_may 5 = .ok (.ifCond .eq 11, 3) := by decide +kernel
theorem dMO_may_8 : decode cMO_may 8 = .ok (.aload_n 0, 1) := by decide +kernel
theorem dMO_may_9 : decode cMO_may 9 = .ok (.iload_n 2, 1) := by decide +kernel
theorem dMO_may_10 : decode cMO_may 10 = .ok (.invokevirtual 184, 3) := by decide +kernel
theorem dMO_may_13 : decode cMO_may 13 = .ok (.ifCond .eq 7, 3) := by decide +kernel
theorem dMO_may_16 : decode cMO_may 16 = .ok (.iconst 1, 1) := by decide +kernel
theorem dMO_may_17 : decode cMO_may 17 = .ok (.goto 15, 3) := by decide +kernel
theorem dMO_may_20 : decode cMO_may 20 = .ok (.aload_n 0, 1) := by decide +kernel
theorem dMO_may_21 : decode cMO_may 21 = .ok (.getfield 97, 3) := by decide +kernel
theorem dMO_may_24 : decode cMO_may 24 = .ok (.ifCond .ne 7, 3) := by decide +kernel
theorem dMO_may_27 : decode cMO_may 27 = .ok (.iconst 2, 1) := by decide +kernel
theorem dMO_may_28 : decode cMO_may 28 = .ok (.goto 4, 3) := by decide +kernel
theorem dMO_may_31 : decode cMO_may 31 = .ok (.iconst 0, 1) := by decide +kernel
theorem dMO_may_32 : decode cMO_may 32 = .ok (.putfield 83, 3) := by decide +kernel
theorem dMO_may_35 : decode cMO_may 35 = .ok (.aload_n 0, 1) := by decide +kernel
theorem dMO_may_36 : decode cMO_may 36 = .ok (.getfield 83, 3) := by decide +kernel
theorem dMO_may_39 : decode cMO_may 39 = .ok (.ifCond .ne 22, 3) := by decide +kernel
theorem dMO_may_42 : decode cMO_may 42 = .ok (.aload_n 0, 1) := by decide +kernel
theorem dMO_may_43 : decode cMO_may 43 = .ok (.getfield 25, 3) := by decide +kernel
theorem dMO_may_46 : decode cMO_may 46 = .ok (.sipush 200, 3) := by decide +kernel
theorem dMO_may_49 : decode cMO_may 49 = .ok (.iload_n 1, 1) := by decide +kernel
theorem dMO_may_50 : decode cMO_may 50 = .ok (.imul, 1) := by decide +kernel
theorem dMO_may_51 : decode cMO_may 51 = .ok (.iload_n 2, 1) := by decide +kernel
theorem dMO_may_52 : decode cMO_may 52 = .ok (.iadd, 1) := by decide +kernel
theorem dMO_may_53 : decode cMO_may 53 = .ok (.baload, 1) := by decide +kernel
theorem dMO_may_54 : decode cMO_may 54 = .ok (.ifCond .eq 7, 3) := by decide +kernel
theorem dMO_may_57 : decode cMO_may 57 = .ok (.iconst 1, 1) := by decide +kernel
theorem dMO_may_58 : decode cMO_may 58 = .ok (.goto 4, 3) := by decide +kernel
theorem dMO_may_61 : decode cMO_may 61 = .ok (.iconst 0, 1) := by decide +kernel
theorem dMO_may_62 : decode cMO_may 62 = .ok (.ireturn, 1) := by decide +kernel
theorem dMO_inside_0 : decode cMO_inside 0 = .ok (.aload_n 0, 1) := by decide +kernel
theorem dMO_inside_1 : decode cMO_inside 1 = .ok (.aload_n 0, 1) := by decide +kernel
theorem dMO_inside_2 : decode cMO_inside 2 = .ok (.iload_n 1, 1) := by decide +kernel
theorem dMO_inside_3 : decode cMO_inside 3 = .ok (.invokevirtual 184, 3) := by decide +kernel
theorem dMO_inside_6 : decode cMO_inside 6 = .ok (.ifCond .ne 11, 3) := by decide +kernel
theorem dMO_inside_9 : decode cMO_inside 9 = .ok (.aload_n 0, 1) := by decide +kernel
theorem dMO_inside_10 : decode cMO_inside 10 = .ok (.iload_n 2, 1) := by decide +kernel
theorem dMO_inside_11 : decode cMO_inside 11 = .ok (.invokevirtual 184, 3) := by decide +kernel
theorem dMO_inside_14 : decode cMO_inside 14 = .ok (.ifCond .eq 7, 3) := by decide +kernel
theorem dMO_inside_17 : decode cMO_inside 17 = .ok (.iconst 1, 1) := by decide +kernel
theorem dMO_inside_18 : decode cMO_inside 18 = .ok (.goto 15, 3) := by decide +kernel
theorem dMO_inside_21 : decode cMO_inside 21 = .ok (.aload_n 0, 1) := by decide +kernel
theorem dMO_inside_22 : decode cMO_inside 22 = .ok (.getfield 97, 3) := by decide +kernel
theorem dMO_inside_25 : decode cMO_inside 25 = .ok (.ifCond .ne 7, 3) := by decide +kernel
theorem dMO_inside_28 : decode cMO_inside 28 = .ok (.iconst 2, 1) := by decide +kernel
theorem dMO_inside_29 : decode cMO_inside 29 = .ok (.goto 4, 3) := by decide +kernel
theorem dMO_inside_32 : decode cMO_inside 32 = .ok (.iconst 0, 1) := by decide +kernel
theorem dMO_inside_33 : decode cMO_inside 33 = .ok (.putfield 83, 3) := by decide +kernel
theorem dMO_inside_36 : decode cMO_inside 36 = .ok (.aload_n 0, 1) := by decide +kernel
theorem dMO_inside_37 : decode cMO_inside 37 = .ok (.getfield 83, 3) := by decide +kernel
theorem dMO_inside_40 : decode cMO_inside 40 = .ok (.ifCond .ne 22, 3) := by decide +kernel
theorem dMO_inside_43 : decode cMO_inside 43 = .ok (.aload_n 0, 1) := by decide +kernel
theorem dMO_inside_44 : decode cMO_inside 44 = .ok (.getfield 30, 3) := by decide +kernel
theorem dMO_inside_47 : decode cMO_inside 47 = .ok (.sipush 200, 3) := by decide +kernel
theorem dMO_inside_50 : decode cMO_inside 50 = .ok (.iload_n 1, 1) := by decide +kernel
theorem dMO_inside_51 : decode cMO_inside 51 = .ok (.imul, 1) := by decide +kernel
theorem dMO_inside_52 : decode cMO_inside 52 = .ok (.iload_n 2, 1) := by decide +kernel
theorem dMO_inside_53 : decode cMO_inside 53 = .ok (.iadd, 1) := by decide +kernel
theorem dMO_inside_54 : decode cMO_inside 54 = .ok (.baload, 1) := by decide +kernel
theorem dMO_inside_55 : decode cMO_inside 55 = .ok (.ifCond .eq 7, 3) := by decide +kernel
theorem dMO_inside_58 : decode cMO_inside 58 = .ok (.iconst 1, 1) := by decide +kernel
theorem dMO_inside_59 : decode cMO_inside 59 = .ok (.goto 4, 3) := by decide +kernel
theorem dMO_inside_62 : decode cMO_inside 62 = .ok (.iconst 0, 1) := by decide +kernel
theorem dMO_inside_63 : decode cMO_inside 63 = .ok (.ireturn, 1) := by decide +kernel
theorem dMO_held_0 : decode cMO_held 0 = .ok (.aload_n 0, 1) := by decide +kernel
theorem dMO_held_1 : decode cMO_held 1 = .ok (.getfield 40, 3) := by decide +kernel
theorem dMO_held_4 : decode cMO_held 4 = .ok (.sipush 256, 3) := by decide +kernel
theorem dMO_held_7 : decode cMO_held 7 = .ok (.iload_n 1, 1) := by decide +kernel
theorem dMO_held_8 : decode cMO_held 8 = .ok (.imul, 1) := by decide +kernel
theorem dMO_held_9 : decode cMO_held 9 = .ok (.bipush 16, 2) := by decide +kernel
theorem dMO_held_11 : decode cMO_held 11 = .ok (.iload_n 2, 1) := by decide +kernel
theorem dMO_held_12 : decode cMO_held 12 = .ok (.imul, 1) := by decide +kernel
theorem dMO_held_13 : decode cMO_held 13 = .ok (.iadd, 1) := by decide +kernel
theorem dMO_held_14 : decode cMO_held 14 = .ok (.iload_n 3, 1) := by decide +kernel
theorem dMO_held_15 : decode cMO_held 15 = .ok (.iadd, 1) := by decide +kernel
theorem dMO_held_16 : decode cMO_held 16 = .ok (.baload, 1) := by decide +kernel
theorem dMO_held_17 : decode cMO_held 17 = .ok (.ireturn, 1) := by decide +kernel
theorem dMO_one_0 : decode cMO_one 0 = .ok (.iload_n 2, 1) := by decide +kernel
theorem dMO_one_1 : decode cMO_one 1 = .ok (.iload_n 3, 1) := by decide +kernel
theorem dMO_one_2 : decode cMO_one 2 = .ok (.if_icmp .eq 23, 3) := by decide +kernel
theorem dMO_one_5 : decode cMO_one 5 = .ok (.aload_n 0, 1) := by decide +kernel
theorem dMO_one_6 : decode cMO_one 6 = .ok (.getfield 37, 3) := by decide +kernel
theorem dMO_one_9 : decode cMO_one 9 = .ok (.sipush 256, 3) := by decide +kernel
theorem dMO_one_12 : decode cMO_one 12 = .ok (.iload_n 1, 1) := by decide +kernel
theorem dMO_one_13 : decode cMO_one 13 = .ok (.imul, 1) := by decide +kernel
theorem dMO_one_14 : decode cMO_one 14 = .ok (.bipush 16, 2) := by decide +kernel
theorem dMO_one_16 : decode cMO_one 16 = .ok (.iload_n 2, 1) := by decide +kernel
theorem dMO_one_17 : decode cMO_one 17 = .ok (.imul, 1) := by decide +kernel
theorem dMO_one_18 : decode cMO_one 18 = .ok (.iadd, 1) := by decide +kernel
theorem dMO_one_19 : decode cMO_one 19 = .ok (.iload_n 3, 1) := by decide +kernel
theorem dMO_one_20 : decode cMO_one 20 = .ok (.iadd, 1) := by decide +kernel
theorem dMO_one_21 : decode cMO_one 21 = .ok (.baload, 1) := by decide +kernel
theorem dMO_one_22 : decode cMO_one 22 = .ok (.ifCond .eq 7, 3) := by decide +kernel
theorem dMO_one_25 : decode cMO_one 25 = .ok (.iconst 1, 1) := by decide +kernel
theorem dMO_one_26 : decode cMO_one 26 = .ok (.goto 4, 3) := by decide +kernel
theorem dMO_one_29 : decode cMO_one 29 = .ok (.iconst 0, 1) := by decide +kernel
theorem dMO_one_30 : decode cMO_one 30 = .ok (.ireturn, 1) := by decide +kernel
theorem dMO_fact_0 : decode cMO_fact 0 = .ok (.iload_n 2, 1) := by decide +kernel
theorem dMO_fact_1 : decode cMO_fact 1 = .ok (.ifCond .lt 27, 3) := by decide +kernel
theorem dMO_fact_4 : decode cMO_fact 4 = .ok (.iload_n 2, 1) := by decide +kernel
theorem dMO_fact_5 : decode cMO_fact 5 = .ok (.iconst 3, 1) := by decide +kernel
theorem dMO_fact_6 : decode cMO_fact 6 = .ok (.if_icmp .gt 22, 3) := by decide +kernel
theorem dMO_fact_9 : decode cMO_fact 9 = .ok (.iload_n 2, 1) := by decide +kernel
theorem dMO_fact_10 : decode cMO_fact 10 = .ok (.iconst 1, 1) := by decide +kernel
theorem dMO_fact_11 : decode cMO_fact 11 = .ok (.if_icmp .le 8, 3) := by decide +kernel
theorem dMO_fact_14 : decode cMO_fact 14 = .ok (.iload 4, 2) := by decide +kernel
theorem dMO_fact_16 : decode cMO_fact 16 = .ok (.ifCond .ne 12, 3) := by decide +kernel
theorem dMO_fact_19 : decode cMO_fact 19 = .ok (.iload_n 2, 1) := by decide +kernel
theorem dMO_fact_20 : decode cMO_fact 20 = .ok (.iconst 2, 1) := by decide +kernel
theorem dMO_fact_21 : decode cMO_fact 21 = .ok (.if_icmp .le 11, 3) := by decide +kernel
theorem dMO_fact_24 : decode cMO_fact 24 = .ok (.iload_n 3, 1) := by decide +kernel
theorem dMO_fact_25 : decode cMO_fact 25 = .ok (.ifCond .eq 7, 3) := by decide +kernel
theorem dMO_fact_28 : decode cMO_fact 28 = .ok (.iconst 1, 1) := by decide +kernel
theorem dMO_fact_29 : decode cMO_fact 29 = .ok (.goto 4, 3) := by decide +kernel
theorem dMO_fact_32 : decode cMO_fact 32 = .ok (.iconst 0, 1) := by decide +kernel
theorem dMO_fact_33 : decode cMO_fact 33 = .ok (.istore 5, 2) := by decide +kernel
theorem dMO_fact_35 : decode cMO_fact 35 = .ok (.aload_n 0, 1) := by decide +kernel
theorem dMO_fact_36 : decode cMO_fact 36 = .ok (.iload_n 1, 1) := by decide +kernel
theorem dMO_fact_37 : decode cMO_fact 37 = .ok (.ifCond .lt 26, 3) := by decide +kernel
theorem dMO_fact_40 : decode cMO_fact 40 = .ok (.iload_n 1, 1) := by decide +kernel
theorem dMO_fact_41 : decode cMO_fact 41 = .ok (.aload_n 0, 1) := by decide +kernel
theorem dMO_fact_42 : decode cMO_fact 42 = .ok (.getfield 94, 3) := by decide +kernel
theorem dMO_fact_45 : decode cMO_fact 45 = .ok (.if_icmp .gt 18, 3) := by decide +kernel
theorem dMO_fact_48 : decode cMO_fact 48 = .ok (.iload_n 3, 1) := by decide +kernel
theorem dMO_fact_49 : decode cMO_fact 49 = .ok (.invokestatic 86, 3) := by decide +kernel
theorem dMO_fact_52 : decode cMO_fact 52 = .ok (.ifCond .eq 11, 3) := by decide +kernel
theorem dMO_fact_55 : decode cMO_fact 55 = .ok (.iload 4, 2) := by decide +kernel
theorem dMO_fact_57 : decode cMO_fact 57 = .ok (.invokestatic 86, 3) := by decide +kernel
theorem dMO_fact_60 : decode cMO_fact 60 = .ok (.ifCond .ne 7, 3) := by decide +kernel
theorem dMO_fact_63 : decode cMO_fact 63 = .ok (.iconst 1, 1) := by decide +kernel
theorem dMO_fact_64 : decode cMO_fact 64 = .ok (.goto 24, 3) := by decide +kernel
theorem dMO_fact_67 : decode cMO_fact 67 = .ok (.iload 5, 2) := by decide +kernel
theorem dMO_fact_69 : decode cMO_fact 69 = .ok (.ifCond .eq 7, 3) := by decide +kernel
theorem dMO_fact_72 : decode cMO_fact 72 = .ok (.iconst 2, 1) := by decide +kernel
theorem dMO_fact_73 : decode cMO_fact 73 = .ok (.goto 15, 3) := by decide +kernel
theorem dMO_fact_76 : decode cMO_fact 76 = .ok (.aload_n 0, 1) := by decide +kernel
theorem dMO_fact_77 : decode cMO_fact 77 = .ok (.getfield 97, 3) := by decide +kernel
theorem dMO_fact_80 : decode cMO_fact 80 = .ok (.ifCond .ne 7, 3) := by decide +kernel
theorem dMO_fact_83 : decode cMO_fact 83 = .ok (.iconst 3, 1) := by decide +kernel
theorem dMO_fact_84 : decode cMO_fact 84 = .ok (.goto 4, 3) := by decide +kernel
theorem dMO_fact_87 : decode cMO_fact 87 = .ok (.iconst 0, 1) := by decide +kernel
theorem dMO_fact_88 : decode cMO_fact 88 = .ok (.putfield 83, 3) := by decide +kernel
theorem dMO_fact_91 : decode cMO_fact 91 = .ok (.aload_n 0, 1) := by decide +kernel
theorem dMO_fact_92 : decode cMO_fact 92 = .ok (.getfield 83, 3) := by decide +kernel
theorem dMO_fact_95 : decode cMO_fact 95 = .ok (.ifCond .gt 12, 3) := by decide +kernel
theorem dMO_fact_98 : decode cMO_fact 98 = .ok (.aload_n 0, 1) := by decide +kernel
theorem dMO_fact_99 : decode cMO_fact 99 = .ok (.getfield 33, 3) := by decide +kernel
theorem dMO_fact_102 : decode cMO_fact 102 = .ok (.iload_n 1, 1) := by decide +kernel
theorem dMO_fact_103 : decode cMO_fact 103 = .ok (.baload, 1) := by decide +kernel
theorem dMO_fact_104 : decode cMO_fact 104 = .ok (.ifCond .ne 5, 3) := by decide +kernel
theorem dMO_fact_107 : decode cMO_fact 107 = .ok (.iconst 0, 1) := by decide +kernel
theorem dMO_fact_108 : decode cMO_fact 108 = .ok (.ireturn, 1) := by decide +kernel
theorem dMO_fact_109 : decode cMO_fact 109 = .ok (.iload_n 2, 1) := by decide +kernel
theorem dMO_fact_110 : decode cMO_fact 110 = .ok (.ifCond .ne 24, 3) := by decide +kernel
theorem dMO_fact_113 : decode cMO_fact 113 = .ok (.aload_n 0, 1) := by decide +kernel
theorem dMO_fact_114 : decode cMO_fact 114 = .ok (.getfield 37, 3) := by decide +kernel
theorem dMO_fact_117 : decode cMO_fact 117 = .ok (.sipush 256, 3) := by decide +kernel
theorem dMO_fact_120 : decode cMO_fact 120 = .ok (.iload_n 1, 1) := by decide +kernel
theorem dMO_fact_121 : decode cMO_fact 121 = .ok (.imul, 1) := by decide +kernel
theorem dMO_fact_122 : decode cMO_fact 122 = .ok (.bipush 16, 2) := by decide +kernel
theorem dMO_fact_124 : decode cMO_fact 124 = .ok (.iload_n 3, 1) := by decide +kernel
theorem dMO_fact_125 : decode cMO_fact 125 = .ok (.imul, 1) := by decide +kernel
theorem dMO_fact_126 : decode cMO_fact 126 = .ok (.iadd, 1) := by decide +kernel
theorem dMO_fact_127 : decode cMO_fact 127 = .ok (.iload 4, 2) := by decide +kernel
theorem dMO_fact_129 : decode cMO_fact 129 = .ok (.iadd, 1) := by decide +kernel
theorem dMO_fact_130 : decode cMO_fact 130 = .ok (.baload, 1) := by decide +kernel
theorem dMO_fact_131 : decode cMO_fact 131 = .ok (.goto 43, 3) := by decide +kernel
theorem dMO_fact_134 : decode cMO_fact 134 = .ok (.iload_n 2, 1) := by decide +kernel
theorem dMO_fact_135 : decode cMO_fact 135 = .ok (.iconst 1, 1) := by decide +kernel
theorem dMO_fact_136 : decode cMO_fact 136 = .ok (.if_icmp .ne 14, 3) := by decide +kernel
theorem dMO_fact_139 : decode cMO_fact 139 = .ok (.aload_n 0, 1) := by decide +kernel
theorem dMO_fact_140 : decode cMO_fact 140 = .ok (.iload_n 1, 1) := by decide +kernel
theorem dMO_fact_141 : decode cMO_fact 141 = .ok (.iload_n 3, 1) := by decide +kernel
theorem dMO_fact_142 : decode cMO_fact 142 = .ok (.iload 4, 2) := by decide +kernel
theorem dMO_fact_144 : decode cMO_fact 144 = .ok (.invokevirtual 121, 3) := by decide +kernel
theorem dMO_fact_147 : decode cMO_fact 147 = .ok (.goto 27, 3) := by decide +kernel
theorem dMO_fact_150 : decode cMO_fact 150 = .ok (.iload_n 2, 1) := by decide +kernel
theorem dMO_fact_151 : decode cMO_fact 151 = .ok (.iconst 3, 1) := by decide +kernel
theorem dMO_fact_152 : decode cMO_fact 152 = .ok (.if_icmp .eq 17, 3) := by decide +kernel
theorem dMO_fact_155 : decode cMO_fact 155 = .ok (.aload_n 0, 1) := by decide +kernel
theorem dMO_fact_156 : decode cMO_fact 156 = .ok (.getfield 43, 3) := by decide +kernel
theorem dMO_fact_159 : decode cMO_fact 159 = .ok (.bipush 16, 2) := by decide +kernel
theorem dMO_fact_161 : decode cMO_fact 161 = .ok (.iload_n 1, 1) := by decide +kernel
theorem dMO_fact_162 : decode cMO_fact 162 = .ok (.imul, 1) := by decide +kernel
theorem dMO_fact_163 : decode cMO_fact 163 = .ok (.iload_n 3, 1) := by decide +kernel
theorem dMO_fact_164 : decode cMO_fact 164 = .ok (.iadd, 1) := by decide +kernel
theorem dMO_fact_165 : decode cMO_fact 165 = .ok (.baload, 1) := by decide +kernel
theorem dMO_fact_166 : decode cMO_fact 166 = .ok (.ifCond .eq 7, 3) := by decide +kernel
theorem dMO_fact_169 : decode cMO_fact 169 = .ok (.iconst 1, 1) := by decide +kernel
theorem dMO_fact_170 : decode cMO_fact 170 = .ok (.goto 4, 3) := by decide +kernel
theorem dMO_fact_173 : decode cMO_fact 173 = .ok (.iconst 0, 1) := by decide +kernel
theorem dMO_fact_174 : decode cMO_fact 174 = .ok (.ireturn, 1) := by decide +kernel
theorem dMO_free_0 : decode cMO_free 0 = .ok (.aload_n 0, 1) := by decide +kernel
theorem dMO_free_1 : decode cMO_free 1 = .ok (.iload_n 1, 1) := by decide +kernel
theorem dMO_free_2 : decode cMO_free 2 = .ok (.ifCond .lt 18, 3) := by decide +kernel
theorem dMO_free_5 : decode cMO_free 5 = .ok (.iload_n 1, 1) := by decide +kernel
theorem dMO_free_6 : decode cMO_free 6 = .ok (.aload_n 0, 1) := by decide +kernel
theorem dMO_free_7 : decode cMO_free 7 = .ok (.getfield 94, 3) := by decide +kernel
theorem dMO_free_10 : decode cMO_free 10 = .ok (.if_icmp .gt 10, 3) := by decide +kernel
theorem dMO_free_13 : decode cMO_free 13 = .ok (.iload_n 2, 1) := by decide +kernel
theorem dMO_free_14 : decode cMO_free 14 = .ok (.invokestatic 86, 3) := by decide +kernel
theorem dMO_free_17 : decode cMO_free 17 = .ok (.ifCond .ne 7, 3) := by decide +kernel
theorem dMO_free_20 : decode cMO_free 20 = .ok (.iconst 1, 1) := by decide +kernel
theorem dMO_free_21 : decode cMO_free 21 = .ok (.goto 15, 3) := by decide +kernel
theorem dMO_free_24 : decode cMO_free 24 = .ok (.aload_n 0, 1) := by decide +kernel
theorem dMO_free_25 : decode cMO_free 25 = .ok (.getfield 97, 3) := by decide +kernel
theorem dMO_free_28 : decode cMO_free 28 = .ok (.ifCond .ne 7, 3) := by decide +kernel
theorem dMO_free_31 : decode cMO_free 31 = .ok (.iconst 2, 1) := by decide +kernel
theorem dMO_free_32 : decode cMO_free 32 = .ok (.goto 4, 3) := by decide +kernel
theorem dMO_free_35 : decode cMO_free 35 = .ok (.iconst 0, 1) := by decide +kernel
theorem dMO_free_36 : decode cMO_free 36 = .ok (.putfield 83, 3) := by decide +kernel
theorem dMO_free_39 : decode cMO_free 39 = .ok (.aload_n 0, 1) := by decide +kernel
theorem dMO_free_40 : decode cMO_free 40 = .ok (.getfield 83, 3) := by decide +kernel
theorem dMO_free_43 : decode cMO_free 43 = .ok (.ifCond .ne 30, 3) := by decide +kernel
theorem dMO_free_46 : decode cMO_free 46 = .ok (.aload_n 0, 1) := by decide +kernel
theorem dMO_free_47 : decode cMO_free 47 = .ok (.getfield 33, 3) := by decide +kernel
theorem dMO_free_50 : decode cMO_free 50 = .ok (.iload_n 1, 1) := by decide +kernel
theorem dMO_free_51 : decode cMO_free 51 = .ok (.baload, 1) := by decide +kernel
theorem dMO_free_52 : decode cMO_free 52 = .ok (.ifCond .eq 21, 3) := by decide +kernel
theorem dMO_free_55 : decode cMO_free 55 = .ok (.aload_n 0, 1) := by decide +kernel
theorem dMO_free_56 : decode cMO_free 56 = .ok (.getfield 46, 3) := by decide +kernel
theorem dMO_free_59 : decode cMO_free 59 = .ok (.bipush 16, 2) := by decide +kernel
theorem dMO_free_61 : decode cMO_free 61 = .ok (.iload_n 1, 1) := by decide +kernel
theorem dMO_free_62 : decode cMO_free 62 = .ok (.imul, 1) := by decide +kernel
theorem dMO_free_63 : decode cMO_free 63 = .ok (.iload_n 2, 1) := by decide +kernel
theorem dMO_free_64 : decode cMO_free 64 = .ok (.iadd, 1) := by decide +kernel
theorem dMO_free_65 : decode cMO_free 65 = .ok (.baload, 1) := by decide +kernel
theorem dMO_free_66 : decode cMO_free 66 = .ok (.ifCond .eq 7, 3) := by decide +kernel
theorem dMO_free_69 : decode cMO_free 69 = .ok (.iconst 1, 1) := by decide +kernel
theorem dMO_free_70 : decode cMO_free 70 = .ok (.goto 4, 3) := by decide +kernel
theorem dMO_free_73 : decode cMO_free 73 = .ok (.iconst 0, 1) := by decide +kernel
theorem dMO_free_74 : decode cMO_free 74 = .ok (.ireturn, 1) := by decide +kernel
theorem dMO_steps_0 : decode cMO_steps 0 = .ok (.aload_n 0, 1) := by decide +kernel
theorem dMO_steps_1 : decode cMO_steps 1 = .ok (.iconst 0, 1) := by decide +kernel
theorem dMO_steps_2 : decode cMO_steps 2 = .ok (.putfield 83, 3) := by decide +kernel
theorem dMO_steps_5 : decode cMO_steps 5 = .ok (.aload_n 0, 1) := by decide +kernel
theorem dMO_steps_6 : decode cMO_steps 6 = .ok (.getfield 203, 3) := by decide +kernel
theorem dMO_steps_9 : decode cMO_steps 9 = .ok (.ireturn, 1) := by decide +kernel
theorem dMO_printed_0 : decode cMO_printed 0 = .ok (.aload_n 0, 1) := by decide +kernel
theorem dMO_printed_1 : decode cMO_printed 1 = .ok (.iconst 0, 1) := by decide +kernel
theorem dMO_printed_2 : decode cMO_printed 2 = .ok (.putfield 83, 3) := by decide +kernel
theorem dMO_printed_5 : decode cMO_printed 5 = .ok (.aload_n 0, 1) := by decide +kernel
theorem dMO_printed_6 : decode cMO_printed 6 = .ok (.getfield 200, 3) := by decide +kernel
theorem dMO_printed_9 : decode cMO_printed 9 = .ok (.ireturn, 1) := by decide +kernel
theorem dMO_print_0 : decode cMO_print 0 = .ok (.aload_n 0, 1) := by decide +kernel
theorem dMO_print_1 : decode cMO_print 1 = .ok (.iload_n 1, 1) := by decide +kernel
theorem dMO_print_2 : decode cMO_print 2 = .ok (.ifCond .lt 11, 3) := by decide +kernel
theorem dMO_print_5 : decode cMO_print 5 = .ok (.iload_n 1, 1) := by decide +kernel
theorem dMO_print_6 : decode cMO_print 6 = .ok (.aload_n 0, 1) := by decide +kernel
theorem dMO_print_7 : decode cMO_print 7 = .ok (.getfield 200, 3) := by decide +kernel
theorem dMO_print_10 : decode cMO_print 10 = .ok (.if_icmp .lt 7, 3) := by decide +kernel
theorem dMO_print_13 : decode cMO_print 13 = .ok (.iconst 1, 1) := by decide +kernel
theorem dMO_print_14 : decode cMO_print 14 = .ok (.goto 4, 3) := by decide +kernel
theorem dMO_print_17 : decode cMO_print 17 = .ok (.iconst 0, 1) := by decide +kernel
theorem dMO_print_18 : decode cMO_print 18 = .ok (.putfield 83, 3) := by decide +kernel
theorem dMO_print_21 : decode cMO_print 21 = .ok (.aload_n 0, 1) := by decide +kernel
theorem dMO_print_22 : decode cMO_print 22 = .ok (.getfield 83, 3) := by decide +kernel
theorem dMO_print_25 : decode cMO_print 25 = .ok (.ifCond .le 7, 3) := by decide +kernel
theorem dMO_print_28 : decode cMO_print 28 = .ok (.iconst 0, 1) := by decide +kernel
theorem dMO_print_29 : decode cMO_print 29 = .ok (.goto 9, 3) := by decide +kernel
theorem dMO_print_32 : decode cMO_print 32 = .ok (.aload_n 0, 1) := by decide +kernel
theorem dMO_print_33 : decode cMO_print 33 = .ok (.getfield 76, 3) := by decide +kernel
theorem dMO_print_36 : decode cMO_print 36 = .ok (.iload_n 1, 1) := by decide +kernel
theorem dMO_print_37 : decode cMO_print 37 = .ok (.iaload, 1) := by decide +kernel
theorem dMO_print_38 : decode cMO_print 38 = .ok (.ireturn, 1) := by decide +kernel
theorem dMO_kept_0 : decode cMO_kept 0 = .ok (.aload_n 0, 1) := by decide +kernel
theorem dMO_kept_1 : decode cMO_kept 1 = .ok (.iconst 0, 1) := by decide +kernel
theorem dMO_kept_2 : decode cMO_kept 2 = .ok (.putfield 83, 3) := by decide +kernel
theorem dMO_kept_5 : decode cMO_kept 5 = .ok (.iconst 0, 1) := by decide +kernel
theorem dMO_kept_6 : decode cMO_kept 6 = .ok (.istore_n 1, 1) := by decide +kernel
theorem dMO_kept_7 : decode cMO_kept 7 = .ok (.iconst 0, 1) := by decide +kernel
theorem dMO_kept_8 : decode cMO_kept 8 = .ok (.istore_n 2, 1) := by decide +kernel
theorem dMO_kept_9 : decode cMO_kept 9 = .ok (.iload_n 2, 1) := by decide +kernel
theorem dMO_kept_10 : decode cMO_kept 10 = .ok (.aload_n 0, 1) := by decide +kernel
theorem dMO_kept_11 : decode cMO_kept 11 = .ok (.getfield 197, 3) := by decide +kernel
theorem dMO_kept_14 : decode cMO_kept 14 = .ok (.if_icmp .ge 33, 3) := by decide +kernel
theorem dMO_kept_17 : decode cMO_kept 17 = .ok (.aload_n 0, 1) := by decide +kernel
theorem dMO_kept_18 : decode cMO_kept 18 = .ok (.getfield 79, 3) := by decide +kernel
theorem dMO_kept_21 : decode cMO_kept 21 = .ok (.ifCond .ne 26, 3) := by decide +kernel
theorem dMO_kept_24 : decode cMO_kept 24 = .ok (.aload_n 0, 1) := by decide +kernel
theorem dMO_kept_25 : decode cMO_kept 25 = .ok (.getfield 73, 3) := by decide +kernel
theorem dMO_kept_28 : decode cMO_kept 28 = .ok (.iload_n 2, 1) := by decide +kernel
theorem dMO_kept_29 : decode cMO_kept 29 = .ok (.baload, 1) := by decide +kernel
theorem dMO_kept_30 : decode cMO_kept 30 = .ok (.ifCond .eq 9, 3) := by decide +kernel
theorem dMO_kept_33 : decode cMO_kept 33 = .ok (.iload_n 1, 1) := by decide +kernel
theorem dMO_kept_34 : decode cMO_kept 34 = .ok (.iconst 1, 1) := by decide +kernel
theorem dMO_kept_35 : decode cMO_kept 35 = .ok (.iadd, 1) := by decide +kernel
theorem dMO_kept_36 : decode cMO_kept 36 = .ok (.goto 4, 3) := by decide +kernel
theorem dMO_kept_39 : decode cMO_kept 39 = .ok (.iload_n 1, 1) := by decide +kernel
theorem dMO_kept_40 : decode cMO_kept 40 = .ok (.istore_n 1, 1) := by decide +kernel
theorem dMO_kept_41 : decode cMO_kept 41 = .ok (.iinc 2 1, 3) := by decide +kernel
theorem dMO_kept_44 : decode cMO_kept 44 = .ok (.goto (-35), 3) := by decide +kernel
theorem dMO_kept_47 : decode cMO_kept 47 = .ok (.iload_n 1, 1) := by decide +kernel
theorem dMO_kept_48 : decode cMO_kept 48 = .ok (.ireturn, 1) := by decide +kernel
theorem dMO_cell_0 : decode cMO_cell 0 = .ok (.iconst (-1), 1) := by decide +kernel
theorem dMO_cell_1 : decode cMO_cell 1 = .ok (.istore 4, 2) := by decide +kernel
theorem dMO_cell_3 : decode cMO_cell 3 = .ok (.iconst (-1), 1) := by decide +kernel
theorem dMO_cell_4 : decode cMO_cell 4 = .ok (.istore 5, 2) := by decide +kernel
theorem dMO_cell_6 : decode cMO_cell 6 = .ok (.iconst 0, 1) := by decide +kernel
theorem dMO_cell_7 : decode cMO_cell 7 = .ok (.istore 6, 2) := by decide +kernel
theorem dMO_cell_9 : decode cMO_cell 9 = .ok (.iload 6, 2) := by decide +kernel
theorem dMO_cell_11 : decode cMO_cell 11 = .ok (.aload_n 0, 1) := by decide +kernel
theorem dMO_cell_12 : decode cMO_cell 12 = .ok (.getfield 197, 3) := by decide +kernel
theorem dMO_cell_15 : decode cMO_cell 15 = .ok (.if_icmp .ge 39, 3) := by decide +kernel
theorem dMO_cell_18 : decode cMO_cell 18 = .ok (.aload_n 0, 1) := by decide +kernel
theorem dMO_cell_19 : decode cMO_cell 19 = .ok (.getfield 79, 3) := by decide +kernel
theorem dMO_cell_22 : decode cMO_cell 22 = .ok (.ifCond .ne 32, 3) := by decide +kernel
theorem dMO_cell_25 : decode cMO_cell 25 = .ok (.iload 5, 2) := by decide +kernel
theorem dMO_cell_27 : decode cMO_cell 27 = .ok (.iload_n 1, 1) := by decide +kernel
theorem dMO_cell_28 : decode cMO_cell 28 = .ok (.if_icmp .ge 26, 3) := by decide +kernel
theorem dMO_cell_31 : decode cMO_cell 31 = .ok (.aload_n 0, 1) := by decide +kernel
theorem dMO_cell_32 : decode cMO_cell 32 = .ok (.getfield 73, 3) := by decide +kernel
theorem dMO_cell_35 : decode cMO_cell 35 = .ok (.iload 6, 2) := by decide +kernel
theorem dMO_cell_37 : decode cMO_cell 37 = .ok (.baload, 1) := by decide +kernel
theorem dMO_cell_38 : decode cMO_cell 38 = .ok (.ifCond .eq 10, 3) := by decide +kernel
theorem dMO_cell_41 : decode cMO_cell 41 = .ok (.iinc 5 1, 3) := by decide +kernel
theorem dMO_cell_44 : decode cMO_cell 44 = .ok (.iload 6, 2) := by decide +kernel
theorem dMO_cell_46 : decode cMO_cell 46 = .ok (.istore 4, 2) := by decide +kernel
theorem dMO_cell_48 : decode cMO_cell 48 = .ok (.iinc 6 1, 3) := by decide +kernel
theorem dMO_cell_51 : decode cMO_cell 51 = .ok (.goto (-42), 3) := by decide +kernel
theorem dMO_cell_54 : decode cMO_cell 54 = .ok (.aload_n 0, 1) := by decide +kernel
theorem dMO_cell_55 : decode cMO_cell 55 = .ok (.iload_n 1, 1) := by decide +kernel
theorem dMO_cell_56 : decode cMO_cell 56 = .ok (.ifCond .lt 24, 3) := by decide +kernel
theorem dMO_cell_59 : decode cMO_cell 59 = .ok (.iload 5, 2) := by decide +kernel
theorem dMO_cell_61 : decode cMO_cell 61 = .ok (.iload_n 1, 1) := by decide +kernel
theorem dMO_cell_62 : decode cMO_cell 62 = .ok (.if_icmp .lt 18, 3) := by decide +kernel
theorem dMO_cell_65 : decode cMO_cell 65 = .ok (.iload_n 2, 1) := by decide +kernel
theorem dMO_cell_66 : decode cMO_cell 66 = .ok (.ifCond .lt 14, 3) := by decide +kernel
theorem dMO_cell_69 : decode cMO_cell 69 = .ok (.iload_n 2, 1) := by decide +kernel
theorem dMO_cell_70 : decode cMO_cell 70 = .ok (.aload_n 0, 1) := by decide +kernel
theorem dMO_cell_71 : decode cMO_cell 71 = .ok (.getfield 70, 3) := by decide +kernel
theorem dMO_cell_74 : decode cMO_cell 74 = .ok (.iload 4, 2) := by decide +kernel
theorem dMO_cell_76 : decode cMO_cell 76 = .ok (.iaload, 1) := by decide +kernel
theorem dMO_cell_77 : decode cMO_cell 77 = .ok (.if_icmp .lt 7, 3) := by decide +kernel
theorem dMO_cell_80 : decode cMO_cell 80 = .ok (.iconst 1, 1) := by decide +kernel
theorem dMO_cell_81 : decode cMO_cell 81 = .ok (.goto 17, 3) := by decide +kernel
theorem dMO_cell_84 : decode cMO_cell 84 = .ok (.iload_n 3, 1) := by decide +kernel
theorem dMO_cell_85 : decode cMO_cell 85 = .ok (.ifCond .lt 8, 3) := by decide +kernel
theorem dMO_cell_88 : decode cMO_cell 88 = .ok (.iload_n 3, 1) := by decide +kernel
theorem dMO_cell_89 : decode cMO_cell 89 = .ok (.iconst 2, 1) := by decide +kernel
theorem dMO_cell_90 : decode cMO_cell 90 = .ok (.if_icmp .le 7, 3) := by decide +kernel
theorem dMO_cell_93 : decode cMO_cell 93 = .ok (.iconst 2, 1) := by decide +kernel
theorem dMO_cell_94 : decode cMO_cell 94 = .ok (.goto 4, 3) := by decide +kernel
theorem dMO_cell_97 : decode cMO_cell 97 = .ok (.iconst 0, 1) := by decide +kernel
theorem dMO_cell_98 : decode cMO_cell 98 = .ok (.putfield 83, 3) := by decide +kernel
theorem dMO_cell_101 : decode cMO_cell 101 = .ok (.aload_n 0, 1) := by decide +kernel
theorem dMO_cell_102 : decode cMO_cell 102 = .ok (.getfield 83, 3) := by decide +kernel
theorem dMO_cell_105 : decode cMO_cell 105 = .ok (.ifCond .le 5, 3) := by decide +kernel
theorem dMO_cell_108 : decode cMO_cell 108 = .ok (.iconst 0, 1) := by decide +kernel
theorem dMO_cell_109 : decode cMO_cell 109 = .ok (.ireturn, 1) := by decide +kernel
theorem dMO_cell_110 : decode cMO_cell 110 = .ok (.bipush 16, 2) := by decide +kernel
theorem dMO_cell_112 : decode cMO_cell 112 = .ok (.iload 4, 2) := by decide +kernel
theorem dMO_cell_114 : decode cMO_cell 114 = .ok (.imul, 1) := by decide +kernel
theorem dMO_cell_115 : decode cMO_cell 115 = .ok (.iload_n 2, 1) := by decide +kernel
theorem dMO_cell_116 : decode cMO_cell 116 = .ok (.iadd, 1) := by decide +kernel
theorem dMO_cell_117 : decode cMO_cell 117 = .ok (.istore 6, 2) := by decide +kernel
theorem dMO_cell_119 : decode cMO_cell 119 = .ok (.aload_n 0, 1) := by decide +kernel
theorem dMO_cell_120 : decode cMO_cell 120 = .ok (.getfield 64, 3) := by decide +kernel
theorem dMO_cell_123 : decode cMO_cell 123 = .ok (.iload 6, 2) := by decide +kernel
theorem dMO_cell_125 : decode cMO_cell 125 = .ok (.iaload, 1) := by decide +kernel
theorem dMO_cell_126 : decode cMO_cell 126 = .ok (.iconst (-1), 1) := by decide +kernel
theorem dMO_cell_127 : decode cMO_cell 127 = .ok (.if_icmp .eq 7, 3) := by decide +kernel
theorem dMO_cell_130 : decode cMO_cell 130 = .ok (.iconst 1, 1) := by decide +kernel
theorem dMO_cell_131 : decode cMO_cell 131 = .ok (.goto 4, 3) := by decide +kernel
theorem dMO_cell_134 : decode cMO_cell 134 = .ok (.iconst 0, 1) := by decide +kernel
theorem dMO_cell_135 : decode cMO_cell 135 = .ok (.istore 7, 2) := by decide +kernel
theorem dMO_cell_137 : decode cMO_cell 137 = .ok (.iload_n 3, 1) := by decide +kernel
theorem dMO_cell_138 : decode cMO_cell 138 = .ok (.ifCond .ne 14, 3) := by decide +kernel
theorem dMO_cell_141 : decode cMO_cell 141 = .ok (.iload 7, 2) := by decide +kernel
theorem dMO_cell_143 : decode cMO_cell 143 = .ok (.ifCond .eq 7, 3) := by decide +kernel
theorem dMO_cell_146 : decode cMO_cell 146 = .ok (.iconst 1, 1) := by decide +kernel
theorem dMO_cell_147 : decode cMO_cell 147 = .ok (.goto 4, 3) := by decide +kernel
theorem dMO_cell_150 : decode cMO_cell 150 = .ok (.iconst 0, 1) := by decide +kernel
theorem dMO_cell_151 : decode cMO_cell 151 = .ok (.ireturn, 1) := by decide +kernel
theorem dMO_cell_152 : decode cMO_cell 152 = .ok (.iload_n 3, 1) := by decide +kernel
theorem dMO_cell_153 : decode cMO_cell 153 = .ok (.iconst 1, 1) := by decide +kernel
theorem dMO_cell_154 : decode cMO_cell 154 = .ok (.if_icmp .ne 26, 3) := by decide +kernel
theorem dMO_cell_157 : decode cMO_cell 157 = .ok (.iload 7, 2) := by decide +kernel
theorem dMO_cell_159 : decode cMO_cell 159 = .ok (.ifCond .eq 13, 3) := by decide +kernel
theorem dMO_cell_162 : decode cMO_cell 162 = .ok (.aload_n 0, 1) := by decide +kernel
theorem dMO_cell_163 : decode cMO_cell 163 = .ok (.getfield 64, 3) := by decide +kernel
theorem dMO_cell_166 : decode cMO_cell 166 = .ok (.iload 6, 2) := by decide +kernel
theorem dMO_cell_168 : decode cMO_cell 168 = .ok (.iaload, 1) := by decide +kernel
theorem dMO_cell_169 : decode cMO_cell 169 = .ok (.goto 10, 3) := by decide +kernel
theorem dMO_cell_172 : decode cMO_cell 172 = .ok (.aload_n 0, 1) := by decide +kernel
theorem dMO_cell_173 : decode cMO_cell 173 = .ok (.getfield 67, 3) := by decide +kernel
theorem dMO_cell_176 : decode cMO_cell 176 = .ok (.iload 6, 2) := by decide +kernel
theorem dMO_cell_178 : decode cMO_cell 178 = .ok (.iaload, 1) := by decide +kernel
theorem dMO_cell_179 : decode cMO_cell 179 = .ok (.ireturn, 1) := by decide +kernel
theorem dMO_cell_180 : decode cMO_cell 180 = .ok (.iload 7, 2) := by decide +kernel
theorem dMO_cell_182 : decode cMO_cell 182 = .ok (.ifCond .eq 13, 3) := by decide +kernel
theorem dMO_cell_185 : decode cMO_cell 185 = .ok (.aload_n 0, 1) := by decide +kernel
theorem dMO_cell_186 : decode cMO_cell 186 = .ok (.getfield 67, 3) := by decide +kernel
theorem dMO_cell_189 : decode cMO_cell 189 = .ok (.iload 6, 2) := by decide +kernel
theorem dMO_cell_191 : decode cMO_cell 191 = .ok (.iaload, 1) := by decide +kernel
theorem dMO_cell_192 : decode cMO_cell 192 = .ok (.goto 4, 3) := by decide +kernel
theorem dMO_cell_195 : decode cMO_cell 195 = .ok (.iconst 0, 1) := by decide +kernel
theorem dMO_cell_196 : decode cMO_cell 196 = .ok (.ireturn, 1) := by decide +kernel
