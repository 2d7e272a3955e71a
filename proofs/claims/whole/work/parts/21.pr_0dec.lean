theorem dTS_isRegister_0 : decode cTS_isRegister 0 = .ok (.iload_n 0, 1) := by decide +kernel
theorem dTS_isRegister_1 : decode cTS_isRegister 1 = .ok (.ifCond .lt 13, 3) := by decide +kernel
theorem dTS_isRegister_4 : decode cTS_isRegister 4 = .ok (.iload_n 0, 1) := by decide +kernel
theorem dTS_isRegister_5 : decode cTS_isRegister 5 = .ok (.bipush 16, 2) := by decide +kernel
theorem dTS_isRegister_7 : decode cTS_isRegister 7 = .ok (.if_icmp .ge 7, 3) := by decide +kernel
theorem dTS_isRegister_10 : decode cTS_isRegister 10 = .ok (.iconst 1, 1) := by decide +kernel
theorem dTS_isRegister_11 : decode cTS_isRegister 11 = .ok (.goto 4, 3) := by decide +kernel
theorem dTS_isRegister_14 : decode cTS_isRegister 14 = .ok (.iconst 0, 1) := by decide +kernel
theorem dTS_isRegister_15 : decode cTS_isRegister 15 = .ok (.ireturn, 1) := by decide +kernel
theorem dPR_isTarget_0 : decode cPR_isTarget 0 = .ok (.iload_n 0, 1) := by decide +kernel
theorem dPR_isTarget_1 : decode cPR_isTarget 1 = .ok (.ifCond .lt 14, 3) := by decide +kernel
theorem dPR_isTarget_4 : decode cPR_isTarget 4 = .ok (.iload_n 0, 1) := by decide +kernel
theorem dPR_isTarget_5 : decode cPR_isTarget 5 = .ok (.sipush 200, 3) := by decide +kernel
theorem dPR_isTarget_8 : decode cPR_isTarget 8 = .ok (.if_icmp .gt 7, 3) := by decide +kernel
theorem dPR_isTarget_11 : decode cPR_isTarget 11 = .ok (.iconst 1, 1) := by decide +kernel
theorem dPR_isTarget_12 : decode cPR_isTarget 12 = .ok (.goto 4, 3) := by decide +kernel
theorem dPR_isTarget_15 : decode cPR_isTarget 15 = .ok (.iconst 0, 1) := by decide +kernel
theorem dPR_isTarget_16 : decode cPR_isTarget 16 = .ok (.ireturn, 1) := by decide +kernel
theorem dPR_mayStand_0 : decode cPR_mayStand 0 = .ok (.iload_n 0, 1) := by decide +kernel
theorem dPR_mayStand_1 : decode cPR_mayStand 1 = .ok (.tableswitch 264 0 15 #[79, 96, 120, 120, 120, 120, 120, 120, 147, 96, 96, 180, 201, 222, 246, 246], 79) := by decide +kernel
theorem dPR_mayStand_80 : decode cPR_mayStand 80 = .ok (.iload_n 1, 1) := by decide +kernel
theorem dPR_mayStand_81 : decode cPR_mayStand 81 = .ok (.invokestatic 28, 3) := by decide +kernel
theorem dPR_mayStand_84 : decode cPR_mayStand 84 = .ok (.ifCond .eq 11, 3) := by decide +kernel
theorem dPR_mayStand_87 : decode cPR_mayStand 87 = .ok (.iload_n 3, 1) := by decide +kernel
theorem dPR_mayStand_88 : decode cPR_mayStand 88 = .ok (.ifCond .ne 7, 3) := by decide +kernel
theorem dPR_mayStand_91 : decode cPR_mayStand 91 = .ok (.iconst 1, 1) := by decide +kernel
theorem dPR_mayStand_92 : decode cPR_mayStand 92 = .ok (.goto 4, 3) := by decide +kernel
theorem dPR_mayStand_95 : decode cPR_mayStand 95 = .ok (.iconst 0, 1) := by decide +kernel
theorem dPR_mayStand_96 : decode cPR_mayStand 96 = .ok (.ireturn, 1) := by decide +kernel
theorem dPR_mayStand_97 : decode cPR_mayStand 97 = .ok (.iload_n 1, 1) := by decide +kernel
theorem dPR_mayStand_98 : decode cPR_mayStand 98 = .ok (.invokestatic 28, 3) := by decide +kernel
theorem dPR_mayStand_101 : decode cPR_mayStand 101 = .ok (.ifCond .eq 18, 3) := by decide +kernel
theorem dPR_mayStand_104 : decode cPR_mayStand 104 = .ok (.iload_n 2, 1) := by decide +kernel
theorem dPR_mayStand_105 : decode cPR_mayStand 105 = .ok (.invokestatic 28, 3) := by decide +kernel
theorem dPR_mayStand_108 : decode cPR_mayStand 108 = .ok (.ifCond .eq 11, 3) := by decide +kernel
theorem dPR_mayStand_111 : decode cPR_mayStand 111 = .ok (.iload_n 3, 1) := by decide +kernel
theorem dPR_mayStand_112 : decode cPR_mayStand 112 = .ok (.ifCond .ne 7, 3) := by decide +kernel
theorem dPR_mayStand_115 : decode cPR_mayStand 115 = .ok (.iconst 1, 1) := by decide +kernel
theorem dPR_mayStand_116 : decode cPR_mayStand 116 = .ok (.goto 4, 3) := by decide +kernel
theorem dPR_mayStand_119 : decode cPR_mayStand 119 = .ok (.iconst 0, 1) := by decide +kernel
theorem dPR_mayStand_120 : decode cPR_mayStand 120 = .ok (.ireturn, 1) := by decide +kernel
theorem dPR_mayStand_121 : decode cPR_mayStand 121 = .ok (.iload_n 1, 1) := by decide +kernel
theorem dPR_mayStand_122 : decode cPR_mayStand 122 = .ok (.invokestatic 28, 3) := by decide +kernel
theorem dPR_mayStand_125 : decode cPR_mayStand 125 = .ok (.ifCond .eq 21, 3) := by decide +kernel
theorem dPR_mayStand_128 : decode cPR_mayStand 128 = .ok (.iload_n 2, 1) := by decide +kernel
theorem dPR_mayStand_129 : decode cPR_mayStand 129 = .ok (.invokestatic 28, 3) := by decide +kernel
theorem dPR_mayStand_132 : decode cPR_mayStand 132 = .ok (.ifCond .eq 14, 3) := by decide +kernel
theorem dPR_mayStand_135 : decode cPR_mayStand 135 = .ok (.iload_n 3, 1) := by decide +kernel
theorem dPR_mayStand_136 : decode cPR_mayStand 136 = .ok (.invokestatic 28, 3) := by decide +kernel
theorem dPR_mayStand_139 : decode cPR_mayStand 139 = .ok (.ifCond .eq 7, 3) := by decide +kernel
theorem dPR_mayStand_142 : decode cPR_mayStand 142 = .ok (.iconst 1, 1) := by decide +kernel
theorem dPR_mayStand_143 : decode cPR_mayStand 143 = .ok (.goto 4, 3) := by decide +kernel
theorem dPR_mayStand_146 : decode cPR_mayStand 146 = .ok (.iconst 0, 1) := by decide +kernel
theorem dPR_mayStand_147 : decode cPR_mayStand 147 = .ok (.ireturn, 1) := by decide +kernel
theorem dPR_mayStand_148 : decode cPR_mayStand 148 = .ok (.iload_n 1, 1) := by decide +kernel
theorem dPR_mayStand_149 : decode cPR_mayStand 149 = .ok (.invokestatic 28, 3) := by decide +kernel
theorem dPR_mayStand_152 : decode cPR_mayStand 152 = .ok (.ifCond .eq 27, 3) := by decide +kernel
theorem dPR_mayStand_155 : decode cPR_mayStand 155 = .ok (.iload_n 2, 1) := by decide +kernel
theorem dPR_mayStand_156 : decode cPR_mayStand 156 = .ok (.iconst 1, 1) := by decide +kernel
theorem dPR_mayStand_157 : decode cPR_mayStand 157 = .ok (.if_icmp .lt 22, 3) := by decide +kernel
theorem dPR_mayStand_160 : decode cPR_mayStand 160 = .ok (.iload_n 2, 1) := by decide +kernel
theorem dPR_mayStand_161 : decode cPR_mayStand 161 = .ok (.bipush 16, 2) := by decide +kernel
theorem dPR_mayStand_163 : decode cPR_mayStand 163 = .ok (.if_icmp .gt 16, 3) := by decide +kernel
theorem dPR_mayStand_166 : decode cPR_mayStand 166 = .ok (.iload_n 3, 1) := by decide +kernel
theorem dPR_mayStand_167 : decode cPR_mayStand 167 = .ok (.ifCond .eq 8, 3) := by decide +kernel
theorem dPR_mayStand_170 : decode cPR_mayStand 170 = .ok (.iload_n 3, 1) := by decide +kernel
theorem dPR_mayStand_171 : decode cPR_mayStand 171 = .ok (.iconst 1, 1) := by decide +kernel
theorem dPR_mayStand_172 : decode cPR_mayStand 172 = .ok (.if_icmp .ne 7, 3) := by decide +kernel
theorem dPR_mayStand_175 : decode cPR_mayStand 175 = .ok (.iconst 1, 1) := by decide +kernel
theorem dPR_mayStand_176 : decode cPR_mayStand 176 = .ok (.goto 4, 3) := by decide +kernel
theorem dPR_mayStand_179 : decode cPR_mayStand 179 = .ok (.iconst 0, 1) := by decide +kernel
theorem dPR_mayStand_180 : decode cPR_mayStand 180 = .ok (.ireturn, 1) := by decide +kernel
theorem dPR_mayStand_181 : decode cPR_mayStand 181 = .ok (.iload_n 1, 1) := by decide +kernel
theorem dPR_mayStand_182 : decode cPR_mayStand 182 = .ok (.invokestatic 28, 3) := by decide +kernel
theorem dPR_mayStand_185 : decode cPR_mayStand 185 = .ok (.ifCond .eq 15, 3) := by decide +kernel
theorem dPR_mayStand_188 : decode cPR_mayStand 188 = .ok (.iload_n 2, 1) := by decide +kernel
theorem dPR_mayStand_189 : decode cPR_mayStand 189 = .ok (.ifCond .ne 11, 3) := by decide +kernel
theorem dPR_mayStand_192 : decode cPR_mayStand 192 = .ok (.iload_n 3, 1) := by decide +kernel
theorem dPR_mayStand_193 : decode cPR_mayStand 193 = .ok (.ifCond .ne 7, 3) := by decide +kernel
theorem dPR_mayStand_196 : decode cPR_mayStand 196 = .ok (.iconst 1, 1) := by decide +kernel
theorem dPR_mayStand_197 : decode cPR_mayStand 197 = .ok (.goto 4, 3) := by decide +kernel
theorem dPR_mayStand_200 : decode cPR_mayStand 200 = .ok (.iconst 0, 1) := by decide +kernel
theorem dPR_mayStand_201 : decode cPR_mayStand 201 = .ok (.ireturn, 1) := by decide +kernel
theorem dPR_mayStand_202 : decode cPR_mayStand 202 = .ok (.iload_n 1, 1) := by decide +kernel
theorem dPR_mayStand_203 : decode cPR_mayStand 203 = .ok (.invokestatic 32, 3) := by decide +kernel
theorem dPR_mayStand_206 : decode cPR_mayStand 206 = .ok (.ifCond .eq 15, 3) := by decide +kernel
theorem dPR_mayStand_209 : decode cPR_mayStand 209 = .ok (.iload_n 2, 1) := by decide +kernel
theorem dPR_mayStand_210 : decode cPR_mayStand 210 = .ok (.ifCond .ne 11, 3) := by decide +kernel
theorem dPR_mayStand_213 : decode cPR_mayStand 213 = .ok (.iload_n 3, 1) := by decide +kernel
theorem dPR_mayStand_214 : decode cPR_mayStand 214 = .ok (.ifCond .ne 7, 3) := by decide +kernel
theorem dPR_mayStand_217 : decode cPR_mayStand 217 = .ok (.iconst 1, 1) := by decide +kernel
theorem dPR_mayStand_218 : decode cPR_mayStand 218 = .ok (.goto 4, 3) := by decide +kernel
theorem dPR_mayStand_221 : decode cPR_mayStand 221 = .ok (.iconst 0, 1) := by decide +kernel
theorem dPR_mayStand_222 : decode cPR_mayStand 222 = .ok (.ireturn, 1) := by decide +kernel
theorem dPR_mayStand_223 : decode cPR_mayStand 223 = .ok (.iload_n 1, 1) := by decide +kernel
theorem dPR_mayStand_224 : decode cPR_mayStand 224 = .ok (.invokestatic 28, 3) := by decide +kernel
theorem dPR_mayStand_227 : decode cPR_mayStand 227 = .ok (.ifCond .eq 18, 3) := by decide +kernel
theorem dPR_mayStand_230 : decode cPR_mayStand 230 = .ok (.iload_n 2, 1) := by decide +kernel
theorem dPR_mayStand_231 : decode cPR_mayStand 231 = .ok (.invokestatic 32, 3) := by decide +kernel
theorem dPR_mayStand_234 : decode cPR_mayStand 234 = .ok (.ifCond .eq 11, 3) := by decide +kernel
theorem dPR_mayStand_237 : decode cPR_mayStand 237 = .ok (.iload_n 3, 1) := by decide +kernel
theorem dPR_mayStand_238 : decode cPR_mayStand 238 = .ok (.ifCond .ne 7, 3) := by decide +kernel
theorem dPR_mayStand_241 : decode cPR_mayStand 241 = .ok (.iconst 1, 1) := by decide +kernel
theorem dPR_mayStand_242 : decode cPR_mayStand 242 = .ok (.goto 4, 3) := by decide +kernel
theorem dPR_mayStand_245 : decode cPR_mayStand 245 = .ok (.iconst 0, 1) := by decide +kernel
theorem dPR_mayStand_246 : decode cPR_mayStand 246 = .ok (.ireturn, 1) := by decide +kernel
theorem dPR_mayStand_247 : decode cPR_mayStand 247 = .ok (.iload_n 1, 1) := by decide +kernel
theorem dPR_mayStand_248 : decode cPR_mayStand 248 = .ok (.ifCond .ne 15, 3) := by decide +kernel
theorem dPR_mayStand_251 : decode cPR_mayStand 251 = .ok (.iload_n 2, 1) := by decide +kernel
theorem dPR_mayStand_252 : decode cPR_mayStand 252 = .ok (.ifCond .ne 11, 3) := by decide +kernel
theorem dPR_mayStand_255 : decode cPR_mayStand 255 = .ok (.iload_n 3, 1) := by decide +kernel
theorem dPR_mayStand_256 : decode cPR_mayStand 256 = .ok (.ifCond .ne 7, 3) := by decide +kernel
theorem dPR_mayStand_259 : decode cPR_mayStand 259 = .ok (.iconst 1, 1) := by decide +kernel
theorem dPR_mayStand_260 : decode cPR_mayStand 260 = .ok (.goto 4, 3) := by decide +kernel
theorem dPR_mayStand_263 : decode cPR_mayStand 263 = .ok (.iconst 0, 1) := by decide +kernel
theorem dPR_mayStand_264 : decode cPR_mayStand 264 = .ok (.ireturn, 1) := by decide +kernel
theorem dPR_mayStand_265 : decode cPR_mayStand 265 = .ok (.iconst 0, 1) := by decide +kernel
theorem dPR_mayStand_266 : decode cPR_mayStand 266 = .ok (.ireturn, 1) := by decide +kernel
theorem dPR_append_0 : decode cPR_append 0 = .ok (.aload_n 0, 1) := by decide +kernel
theorem dPR_append_1 : decode cPR_append 1 = .ok (.getfield 24, 3) := by decide +kernel
theorem dPR_append_4 : decode cPR_append 4 = .ok (.istore 5, 2) := by decide +kernel
theorem dPR_append_6 : decode cPR_append 6 = .ok (.aload_n 0, 1) := by decide +kernel
theorem dPR_append_7 : decode cPR_append 7 = .ok (.getfield 9, 3) := by decide +kernel
theorem dPR_append_10 : decode cPR_append 10 = .ok (.iload 5, 2) := by decide +kernel
theorem dPR_append_12 : decode cPR_append 12 = .ok (.iload_n 1, 1) := by decide +kernel
theorem dPR_append_13 : decode cPR_append 13 = .ok (.iastore, 1) := by decide +kernel
theorem dPR_append_14 : decode cPR_append 14 = .ok (.aload_n 0, 1) := by decide +kernel
theorem dPR_append_15 : decode cPR_append 15 = .ok (.getfield 15, 3) := by decide +kernel
theorem dPR_append_18 : decode cPR_append 18 = .ok (.iload 5, 2) := by decide +kernel
theorem dPR_append_20 : decode cPR_append 20 = .ok (.iload_n 2, 1) := by decide +kernel
theorem dPR_append_21 : decode cPR_append 21 = .ok (.iastore, 1) := by decide +kernel
theorem dPR_append_22 : decode cPR_append 22 = .ok (.aload_n 0, 1) := by decide +kernel
theorem dPR_append_23 : decode cPR_append 23 = .ok (.getfield 18, 3) := by decide +kernel
theorem dPR_append_26 : decode cPR_append 26 = .ok (.iload 5, 2) := by decide +kernel
theorem dPR_append_28 : decode cPR_append 28 = .ok (.iload_n 3, 1) := by decide +kernel
theorem dPR_append_29 : decode cPR_append 29 = .ok (.iastore, 1) := by decide +kernel
theorem dPR_append_30 : decode cPR_append 30 = .ok (.aload_n 0, 1) := by decide +kernel
theorem dPR_append_31 : decode cPR_append 31 = .ok (.getfield 21, 3) := by decide +kernel
theorem dPR_append_34 : decode cPR_append 34 = .ok (.iload 5, 2) := by decide +kernel
theorem dPR_append_36 : decode cPR_append 36 = .ok (.iload 4, 2) := by decide +kernel
theorem dPR_append_38 : decode cPR_append 38 = .ok (.iastore, 1) := by decide +kernel
theorem dPR_append_39 : decode cPR_append 39 = .ok (.aload_n 0, 1) := by decide +kernel
theorem dPR_append_40 : decode cPR_append 40 = .ok (.dup, 1) := by decide +kernel
theorem dPR_append_41 : decode cPR_append 41 = .ok (.getfield 24, 3) := by decide +kernel
theorem dPR_append_44 : decode cPR_append 44 = .ok (.iconst 1, 1) := by decide +kernel
theorem dPR_append_45 : decode cPR_append 45 = .ok (.iadd, 1) := by decide +kernel
theorem dPR_append_46 : decode cPR_append 46 = .ok (.putfield 24, 3) := by decide +kernel
theorem dPR_append_49 : decode cPR_append 49 = .ok (.iload 5, 2) := by decide +kernel
theorem dPR_append_51 : decode cPR_append 51 = .ok (.ireturn, 1) := by decide +kernel
theorem dPR_replace_0 : decode cPR_replace 0 = .ok (.aload_n 0, 1) := by decide +kernel
theorem dPR_replace_1 : decode cPR_replace 1 = .ok (.getfield 9, 3) := by decide +kernel
theorem dPR_replace_4 : decode cPR_replace 4 = .ok (.iload_n 1, 1) := by decide +kernel
theorem dPR_replace_5 : decode cPR_replace 5 = .ok (.iload_n 2, 1) := by decide +kernel
theorem dPR_replace_6 : decode cPR_replace 6 = .ok (.iastore, 1) := by decide +kernel
theorem dPR_replace_7 : decode cPR_replace 7 = .ok (.aload_n 0, 1) := by decide +kernel
theorem dPR_replace_8 : decode cPR_replace 8 = .ok (.getfield 15, 3) := by decide +kernel
theorem dPR_replace_11 : decode cPR_replace 11 = .ok (.iload_n 1, 1) := by decide +kernel
theorem dPR_replace_12 : decode cPR_replace 12 = .ok (.iload_n 3, 1) := by decide +kernel
theorem dPR_replace_13 : decode cPR_replace 13 = .ok (.iastore, 1) := by decide +kernel
theorem dPR_replace_14 : decode cPR_replace 14 = .ok (.aload_n 0, 1) := by decide +kernel
theorem dPR_replace_15 : decode cPR_replace 15 = .ok (.getfield 18, 3) := by decide +kernel
theorem dPR_replace_18 : decode cPR_replace 18 = .ok (.iload_n 1, 1) := by decide +kernel
theorem dPR_replace_19 : decode cPR_replace 19 = .ok (.iload 4, 2) := by decide +kernel
theorem dPR_replace_21 : decode cPR_replace 21 = .ok (.iastore, 1) := by decide +kernel
theorem dPR_replace_22 : decode cPR_replace 22 = .ok (.aload_n 0, 1) := by decide +kernel
theorem dPR_replace_23 : decode cPR_replace 23 = .ok (.getfield 21, 3) := by decide +kernel
theorem dPR_replace_26 : decode cPR_replace 26 = .ok (.iload_n 1, 1) := by decide +kernel
theorem dPR_replace_27 : decode cPR_replace 27 = .ok (.iconst 0, 1) := by decide +kernel
theorem dPR_replace_28 : decode cPR_replace 28 = .ok (.iastore, 1) := by decide +kernel
theorem dPR_replace_29 : decode cPR_replace 29 = .ok (.return_, 1) := by decide +kernel
theorem dPR_copy_0 : decode cPR_copy 0 = .ok (.aload_n 1, 1) := by decide +kernel
theorem dPR_copy_1 : decode cPR_copy 1 = .ok (.getfield 9, 3) := by decide +kernel
theorem dPR_copy_4 : decode cPR_copy 4 = .ok (.iconst 0, 1) := by decide +kernel
theorem dPR_copy_5 : decode cPR_copy 5 = .ok (.aload_n 0, 1) := by decide +kernel
theorem dPR_copy_6 : decode cPR_copy 6 = .ok (.getfield 9, 3) := by decide +kernel
theorem dPR_copy_9 : decode cPR_copy 9 = .ok (.iconst 0, 1) := by decide +kernel
theorem dPR_copy_10 : decode cPR_copy 10 = .ok (.aload_n 1, 1) := by decide +kernel
theorem dPR_copy_11 : decode cPR_copy 11 = .ok (.getfield 24, 3) := by decide +kernel
theorem dPR_copy_14 : decode cPR_copy 14 = .ok (.invokestatic 35, 3) := by decide +kernel
theorem dPR_copy_17 : decode cPR_copy 17 = .ok (.aload_n 1, 1) := by decide +kernel
theorem dPR_copy_18 : decode cPR_copy 18 = .ok (.getfield 15, 3) := by decide +kernel
theorem dPR_copy_21 : decode cPR_copy 21 = .ok (.iconst 0, 1) := by decide +kernel
theorem dPR_copy_22 : decode cPR_copy 22 = .ok (.aload_n 0, 1) := by decide +kernel
theorem dPR_copy_23 : decode cPR_copy 23 = .ok (.getfield 15, 3) := by decide +kernel
theorem dPR_copy_26 : decode cPR_copy 26 = .ok (.iconst 0, 1) := by decide +kernel
theorem dPR_copy_27 : decode cPR_copy 27 = .ok (.aload_n 1, 1) := by decide +kernel
theorem dPR_copy_28 : decode cPR_copy 28 = .ok (.getfield 24, 3) := by decide +kernel
theorem dPR_copy_31 : decode cPR_copy 31 = .ok (.invokestatic 35, 3) := by decide +kernel
theorem dPR_copy_34 : decode cPR_copy 34 = .ok (.aload_n 1, 1) := by decide +kernel
theorem dPR_copy_35 : decode cPR_copy 35 = .ok (.getfield 18, 3) := by decide +kernel
theorem dPR_copy_38 : decode cPR_copy 38 = .ok (.iconst 0, 1) := by decide +kernel
theorem dPR_copy_39 : decode cPR_copy 39 = .ok (.aload_n 0, 1) := by decide +kernel
theorem dPR_copy_40 : decode cPR_copy 40 = .ok (.getfield 18, 3) := by decide +kernel
theorem dPR_copy_43 : decode cPR_copy 43 = .ok (.iconst 0, 1) := by decide +kernel
theorem dPR_copy_44 : decode cPR_copy 44 = .ok (.aload_n 1, 1) := by decide +kernel
theorem dPR_copy_45 : decode cPR_copy 45 = .ok (.getfield 24, 3) := by decide +kernel
theorem dPR_copy_48 : decode cPR_copy 48 = .ok (.invokestatic 35, 3) := by decide +kernel
theorem dPR_copy_51 : decode cPR_copy 51 = .ok (.aload_n 1, 1) := by decide +kernel
theorem dPR_copy_52 : decode cPR_copy 52 = .ok (.getfield 21, 3) := by decide +kernel
theorem dPR_copy_55 : decode cPR_copy 55 = .ok (.iconst 0, 1) := by decide +kernel
theorem dPR_copy_56 : decode cPR_copy 56 = .ok (.aload_n 0, 1) := by decide +kernel
theorem dPR_copy_57 : decode cPR_copy 57 = .ok (.getfield 21, 3) := by decide +kernel
theorem dPR_copy_60 : decode cPR_copy 60 = .ok (.iconst 0, 1) := by decide +kernel
theorem dPR_copy_61 : decode cPR_copy 61 = .ok (.aload_n 1, 1) := by decide +kernel
theorem dPR_copy_62 : decode cPR_copy 62 = .ok (.getfield 24, 3) := by decide +kernel
theorem dPR_copy_65 : decode cPR_copy 65 = .ok (.invokestatic 35, 3) := by decide +kernel
theorem dPR_copy_68 : decode cPR_copy 68 = .ok (.aload_n 0, 1) := by decide +kernel
theorem dPR_copy_69 : decode cPR_copy 69 = .ok (.aload_n 1, 1) := by decide +kernel
theorem dPR_copy_70 : decode cPR_copy 70 = .ok (.getfield 24, 3) := by decide +kernel
theorem dPR_copy_73 : decode cPR_copy 73 = .ok (.putfield 24, 3) := by decide +kernel
theorem dPR_copy_76 : decode cPR_copy 76 = .ok (.return_, 1) := by decide +kernel
theorem dPR_part_0 : decode cPR_part 0 = .ok (.iload_n 2, 1) := by decide +kernel
theorem dPR_part_1 : decode cPR_part 1 = .ok (.tableswitch 48 0 2 #[27, 34, 41], 27) := by decide +kernel
theorem dPR_part_28 : decode cPR_part 28 = .ok (.aload_n 0, 1) := by decide +kernel
theorem dPR_part_29 : decode cPR_part 29 = .ok (.getfield 9, 3) := by decide +kernel
theorem dPR_part_32 : decode cPR_part 32 = .ok (.iload_n 1, 1) := by decide +kernel
theorem dPR_part_33 : decode cPR_part 33 = .ok (.iaload, 1) := by decide +kernel
theorem dPR_part_34 : decode cPR_part 34 = .ok (.ireturn, 1) := by decide +kernel
theorem dPR_part_35 : decode cPR_part 35 = .ok (.aload_n 0, 1) := by decide +kernel
theorem dPR_part_36 : decode cPR_part 36 = .ok (.getfield 15, 3) := by decide +kernel
theorem dPR_part_39 : decode cPR_part 39 = .ok (.iload_n 1, 1) := by decide +kernel
theorem dPR_part_40 : decode cPR_part 40 = .ok (.iaload, 1) := by decide +kernel
theorem dPR_part_41 : decode cPR_part 41 = .ok (.ireturn, 1) := by decide +kernel
theorem dPR_part_42 : decode cPR_part 42 = .ok (.aload_n 0, 1) := by decide +kernel
theorem dPR_part_43 : decode cPR_part 43 = .ok (.getfield 18, 3) := by decide +kernel
theorem dPR_part_46 : decode cPR_part 46 = .ok (.iload_n 1, 1) := by decide +kernel
theorem dPR_part_47 : decode cPR_part 47 = .ok (.iaload, 1) := by decide +kernel
theorem dPR_part_48 : decode cPR_part 48 = .ok (.ireturn, 1) := by decide +kernel
theorem dPR_part_49 : decode cPR_part 49 = .ok (.aload_n 0, 1) := by decide +kernel
theorem dPR_part_50 : decode cPR_part 50 = .ok (.getfield 21, 3) := by decide +kernel
theorem dPR_part_53 : decode cPR_part 53 = .ok (.iload_n 1, 1) := by decide +kernel
theorem dPR_part_54 : decode cPR_part 54 = .ok (.iaload, 1) := by decide +kernel
theorem dPR_part_55 : decode cPR_part 55 = .ok (.ireturn, 1) := by decide +kernel
theorem dPR_setsFirst_0 : decode cPR_setsFirst 0 = .ok (.aload_n 0, 1) := by decide +kernel
theorem dPR_setsFirst_1 : decode cPR_setsFirst 1 = .ok (.getfield 9, 3) := by decide +kernel
theorem dPR_setsFirst_4 : decode cPR_setsFirst 4 = .ok (.iload_n 1, 1) := by decide +kernel
theorem dPR_setsFirst_5 : decode cPR_setsFirst 5 = .ok (.iaload, 1) := by decide +kernel
theorem dPR_setsFirst_6 : decode cPR_setsFirst 6 = .ok (.bipush 9, 2) := by decide +kernel
theorem dPR_setsFirst_8 : decode cPR_setsFirst 8 = .ok (.if_icmp .gt 7, 3) := by decide +kernel
theorem dPR_setsFirst_11 : decode cPR_setsFirst 11 = .ok (.iconst 1, 1) := by decide +kernel
theorem dPR_setsFirst_12 : decode cPR_setsFirst 12 = .ok (.goto 4, 3) := by decide +kernel
theorem dPR_setsFirst_15 : decode cPR_setsFirst 15 = .ok (.iconst 0, 1) := by decide +kernel
theorem dPR_setsFirst_16 : decode cPR_setsFirst 16 = .ok (.ireturn, 1) := by decide +kernel
theorem dPR_follower_0 : decode cPR_follower 0 = .ok (.aload_n 0, 1) := by decide +kernel
theorem dPR_follower_1 : decode cPR_follower 1 = .ok (.getfield 9, 3) := by decide +kernel
theorem dPR_follower_4 : decode cPR_follower 4 = .ok (.iload_n 1, 1) := by decide +kernel
theorem dPR_follower_5 : decode cPR_follower 5 = .ok (.iaload, 1) := by decide +kernel
theorem dPR_follower_6 : decode cPR_follower 6 = .ok (.bipush 12, 2) := by decide +kernel
theorem dPR_follower_8 : decode cPR_follower 8 = .ok (.if_icmp .eq 14, 3) := by decide +kernel
theorem dPR_follower_11 : decode cPR_follower 11 = .ok (.aload_n 0, 1) := by decide +kernel
theorem dPR_follower_12 : decode cPR_follower 12 = .ok (.getfield 9, 3) := by decide +kernel
theorem dPR_follower_15 : decode cPR_follower 15 = .ok (.iload_n 1, 1) := by decide +kernel
theorem dPR_follower_16 : decode cPR_follower 16 = .ok (.iaload, 1) := by decide +kernel
theorem dPR_follower_17 : decode cPR_follower 17 = .ok (.bipush 14, 2) := by decide +kernel
theorem dPR_follower_19 : decode cPR_follower 19 = .ok (.if_icmp .ne 7, 3) := by decide +kernel
theorem dPR_follower_22 : decode cPR_follower 22 = .ok (.iconst (-1), 1) := by decide +kernel
theorem dPR_follower_23 : decode cPR_follower 23 = .ok (.goto 6, 3) := by decide +kernel
theorem dPR_follower_26 : decode cPR_follower 26 = .ok (.iload_n 1, 1) := by decide +kernel
theorem dPR_follower_27 : decode cPR_follower 27 = .ok (.iconst 1, 1) := by decide +kernel
theorem dPR_follower_28 : decode cPR_follower 28 = .ok (.iadd, 1) := by decide +kernel
theorem dPR_follower_29 : decode cPR_follower 29 = .ok (.ireturn, 1) := by decide +kernel
theorem dPR_target_0 : decode cPR_target 0 = .ok (.aload_n 0, 1) := by decide +kernel
theorem dPR_target_1 : decode cPR_target 1 = .ok (.getfield 9, 3) := by decide +kernel
theorem dPR_target_4 : decode cPR_target 4 = .ok (.iload_n 1, 1) := by decide +kernel
theorem dPR_target_5 : decode cPR_target 5 = .ok (.iaload, 1) := by decide +kernel
theorem dPR_target_6 : decode cPR_target 6 = .ok (.bipush 12, 2) := by decide +kernel
theorem dPR_target_8 : decode cPR_target 8 = .ok (.if_icmp .ne 17, 3) := by decide +kernel
theorem dPR_target_11 : decode cPR_target 11 = .ok (.aload_n 0, 1) := by decide +kernel
theorem dPR_target_12 : decode cPR_target 12 = .ok (.getfield 15, 3) := by decide +kernel
theorem dPR_target_15 : decode cPR_target 15 = .ok (.iload_n 1, 1) := by decide +kernel
theorem dPR_target_16 : decode cPR_target 16 = .ok (.iaload, 1) := by decide +kernel
theorem dPR_target_17 : decode cPR_target 17 = .ok (.aload_n 0, 1) := by decide +kernel
theorem dPR_target_18 : decode cPR_target 18 = .ok (.getfield 24, 3) := by decide +kernel
theorem dPR_target_21 : decode cPR_target 21 = .ok (.invokestatic 41, 3) := by decide +kernel
theorem dPR_target_24 : decode cPR_target 24 = .ok (.ireturn, 1) := by decide +kernel
theorem dPR_target_25 : decode cPR_target 25 = .ok (.aload_n 0, 1) := by decide +kernel
theorem dPR_target_26 : decode cPR_target 26 = .ok (.getfield 9, 3) := by decide +kernel
theorem dPR_target_29 : decode cPR_target 29 = .ok (.iload_n 1, 1) := by decide +kernel
theorem dPR_target_30 : decode cPR_target 30 = .ok (.iaload, 1) := by decide +kernel
theorem dPR_target_31 : decode cPR_target 31 = .ok (.bipush 13, 2) := by decide +kernel
theorem dPR_target_33 : decode cPR_target 33 = .ok (.if_icmp .ne 19, 3) := by decide +kernel
theorem dPR_target_36 : decode cPR_target 36 = .ok (.aload_n 0, 1) := by decide +kernel
theorem dPR_target_37 : decode cPR_target 37 = .ok (.getfield 18, 3) := by decide +kernel
theorem dPR_target_40 : decode cPR_target 40 = .ok (.iload_n 1, 1) := by decide +kernel
theorem dPR_target_41 : decode cPR_target 41 = .ok (.iaload, 1) := by decide +kernel
theorem dPR_target_42 : decode cPR_target 42 = .ok (.aload_n 0, 1) := by decide +kernel
theorem dPR_target_43 : decode cPR_target 43 = .ok (.getfield 24, 3) := by decide +kernel
theorem dPR_target_46 : decode cPR_target 46 = .ok (.invokestatic 41, 3) := by decide +kernel
theorem dPR_target_49 : decode cPR_target 49 = .ok (.goto 4, 3) := by decide +kernel
theorem dPR_target_52 : decode cPR_target 52 = .ok (.iconst (-1), 1) := by decide +kernel
theorem dPR_target_53 : decode cPR_target 53 = .ok (.ireturn, 1) := by decide +kernel
