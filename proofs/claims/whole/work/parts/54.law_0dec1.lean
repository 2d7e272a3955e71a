theorem dLAW_0 : decode code 0 = .ok (.new 8, 3) := by decide +kernel
theorem dLAW_3 : decode code 3 = .ok (.dup, 1) := by decide +kernel
theorem dLAW_4 : decode code 4 = .ok (.invokespecial 59, 3) := by decide +kernel
theorem dLAW_7 : decode code 7 = .ok (.astore_n 1, 1) := by decide +kernel
theorem dLAW_8 : decode code 8 = .ok (.new 60, 3) := by decide +kernel
theorem dLAW_11 : decode code 11 = .ok (.dup, 1) := by decide +kernel
theorem dLAW_12 : decode code 12 = .ok (.invokespecial 62, 3) := by decide +kernel
theorem dLAW_15 : decode code 15 = .ok (.astore_n 2, 1) := by decide +kernel
theorem dLAW_16 : decode code 16 = .ok (.iconst 1, 1) := by decide +kernel
theorem dLAW_17 : decode code 17 = .ok (.newarray .long, 2) := by decide +kernel
theorem dLAW_19 : decode code 19 = .ok (.astore_n 3, 1) := by decide +kernel
theorem dLAW_20 : decode code 20 = .ok (.iconst 0, 1) := by decide +kernel
theorem dLAW_21 : decode code 21 = .ok (.istore 4, 2) := by decide +kernel
theorem dLAW_23 : decode code 23 = .ok (.iload 4, 2) := by decide +kernel
theorem dLAW_25 : decode code 25 = .ok (.aload_n 0, 1) := by decide +kernel
theorem dLAW_26 : decode code 26 = .ok (.arraylength, 1) := by decide +kernel
theorem dLAW_27 : decode code 27 = .ok (.iconst 5, 1) := by decide +kernel
theorem dLAW_28 : decode code 28 = .ok (.isub, 1) := by decide +kernel
theorem dLAW_29 : decode code 29 = .ok (.if_icmp .gt 1038, 3) := by decide +kernel
theorem dLAW_32 : decode code 32 = .ok (.aload_n 0, 1) := by decide +kernel
theorem dLAW_33 : decode code 33 = .ok (.iload 4, 2) := by decide +kernel
theorem dLAW_35 : decode code 35 = .ok (.iaload, 1) := by decide +kernel
theorem dLAW_36 : decode code 36 = .ok (.bipush 31, 2) := by decide +kernel
theorem dLAW_38 : decode code 38 = .ok (.iand, 1) := by decide +kernel
theorem dLAW_39 : decode code 39 = .ok (.tableswitch 1022 0 16 #[81, 173, 186, 230, 243, 339, 395, 439, 514, 589, 688, 763, 847, 860, 873, 929, 942], 81) := by decide +kernel
theorem dLAW_120 : decode code 120 = .ok (.aload_n 1, 1) := by decide +kernel
theorem dLAW_121 : decode code 121 = .ok (.aload_n 0, 1) := by decide +kernel
theorem dLAW_122 : decode code 122 = .ok (.iload 4, 2) := by decide +kernel
theorem dLAW_124 : decode code 124 = .ok (.iconst 1, 1) := by decide +kernel
theorem dLAW_125 : decode code 125 = .ok (.iadd, 1) := by decide +kernel
theorem dLAW_126 : decode code 126 = .ok (.iaload, 1) := by decide +kernel
theorem dLAW_127 : decode code 127 = .ok (.aload_n 0, 1) := by decide +kernel
theorem dLAW_128 : decode code 128 = .ok (.iload 4, 2) := by decide +kernel
theorem dLAW_130 : decode code 130 = .ok (.iconst 2, 1) := by decide +kernel
theorem dLAW_131 : decode code 131 = .ok (.iadd, 1) := by decide +kernel
theorem dLAW_132 : decode code 132 = .ok (.iaload, 1) := by decide +kernel
theorem dLAW_133 : decode code 133 = .ok (.aload_n 0, 1) := by decide +kernel
theorem dLAW_134 : decode code 134 = .ok (.iload 4, 2) := by decide +kernel
theorem dLAW_136 : decode code 136 = .ok (.iconst 3, 1) := by decide +kernel
theorem dLAW_137 : decode code 137 = .ok (.iadd, 1) := by decide +kernel
theorem dLAW_138 : decode code 138 = .ok (.iaload, 1) := by decide +kernel
theorem dLAW_139 : decode code 139 = .ok (.aload_n 0, 1) := by decide +kernel
theorem dLAW_140 : decode code 140 = .ok (.iload 4, 2) := by decide +kernel
theorem dLAW_142 : decode code 142 = .ok (.iconst 4, 1) := by decide +kernel
theorem dLAW_143 : decode code 143 = .ok (.iadd, 1) := by decide +kernel
theorem dLAW_144 : decode code 144 = .ok (.iaload, 1) := by decide +kernel
theorem dLAW_145 : decode code 145 = .ok (.aload_n 3, 1) := by decide +kernel
theorem dLAW_146 : decode code 146 = .ok (.invokestatic 63, 3) := by decide +kernel
theorem dLAW_149 : decode code 149 = .ok (.istore 5, 2) := by decide +kernel
theorem dLAW_151 : decode code 151 = .ok (.aload_n 2, 1) := by decide +kernel
theorem dLAW_152 : decode code 152 = .ok (.aload_n 0, 1) := by decide +kernel
theorem dLAW_153 : decode code 153 = .ok (.iload 4, 2) := by decide +kernel
theorem dLAW_155 : decode code 155 = .ok (.iconst 1, 1) := by decide +kernel
theorem dLAW_156 : decode code 156 = .ok (.iadd, 1) := by decide +kernel
theorem dLAW_157 : decode code 157 = .ok (.iaload, 1) := by decide +kernel
theorem dLAW_158 : decode code 158 = .ok (.aload_n 0, 1) := by decide +kernel
theorem dLAW_159 : decode code 159 = .ok (.iload 4, 2) := by decide +kernel
theorem dLAW_161 : decode code 161 = .ok (.iconst 2, 1) := by decide +kernel
theorem dLAW_162 : decode code 162 = .ok (.iadd, 1) := by decide +kernel
theorem dLAW_163 : decode code 163 = .ok (.iaload, 1) := by decide +kernel
theorem dLAW_164 : decode code 164 = .ok (.aload_n 0, 1) := by decide +kernel
theorem dLAW_165 : decode code 165 = .ok (.iload 4, 2) := by decide +kernel
theorem dLAW_167 : decode code 167 = .ok (.iconst 3, 1) := by decide +kernel
theorem dLAW_168 : decode code 168 = .ok (.iadd, 1) := by decide +kernel
theorem dLAW_169 : decode code 169 = .ok (.iaload, 1) := by decide +kernel
theorem dLAW_170 : decode code 170 = .ok (.aload_n 0, 1) := by decide +kernel
theorem dLAW_171 : decode code 171 = .ok (.iload 4, 2) := by decide +kernel
theorem dLAW_173 : decode code 173 = .ok (.iconst 4, 1) := by decide +kernel
theorem dLAW_174 : decode code 174 = .ok (.iadd, 1) := by decide +kernel
theorem dLAW_175 : decode code 175 = .ok (.iaload, 1) := by decide +kernel
theorem dLAW_176 : decode code 176 = .ok (.invokevirtual 68, 3) := by decide +kernel
theorem dLAW_179 : decode code 179 = .ok (.istore 6, 2) := by decide +kernel
theorem dLAW_181 : decode code 181 = .ok (.aload_n 2, 1) := by decide +kernel
theorem dLAW_182 : decode code 182 = .ok (.invokevirtual 69, 3) := by decide +kernel
theorem dLAW_185 : decode code 185 = .ok (.iload 5, 2) := by decide +kernel
theorem dLAW_187 : decode code 187 = .ok (.if_icmp .eq 5, 3) := by decide +kernel
theorem dLAW_190 : decode code 190 = .ok (.iconst 0, 1) := by decide +kernel
theorem dLAW_191 : decode code 191 = .ok (.ireturn, 1) := by decide +kernel
theorem dLAW_192 : decode code 192 = .ok (.iload 5, 2) := by decide +kernel
theorem dLAW_194 : decode code 194 = .ok (.ifCond .ne 15, 3) := by decide +kernel
theorem dLAW_197 : decode code 197 = .ok (.aload_n 3, 1) := by decide +kernel
theorem dLAW_198 : decode code 198 = .ok (.iconst 0, 1) := by decide +kernel
theorem dLAW_199 : decode code 199 = .ok (.laload, 1) := by decide +kernel
theorem dLAW_200 : decode code 200 = .ok (.iload 6, 2) := by decide +kernel
theorem dLAW_202 : decode code 202 = .ok (.i2l, 1) := by decide +kernel
theorem dLAW_203 : decode code 203 = .ok (.lcmp, 1) := by decide +kernel
theorem dLAW_204 : decode code 204 = .ok (.ifCond .eq 5, 3) := by decide +kernel
theorem dLAW_207 : decode code 207 = .ok (.iconst 0, 1) := by decide +kernel
theorem dLAW_208 : decode code 208 = .ok (.ireturn, 1) := by decide +kernel
theorem dLAW_209 : decode code 209 = .ok (.goto 852, 3) := by decide +kernel
theorem dLAW_212 : decode code 212 = .ok (.aload_n 1, 1) := by decide +kernel
theorem dLAW_213 : decode code 213 = .ok (.invokevirtual 72, 3) := by decide +kernel
theorem dLAW_216 : decode code 216 = .ok (.aload_n 2, 1) := by decide +kernel
theorem dLAW_217 : decode code 217 = .ok (.invokevirtual 75, 3) := by decide +kernel
theorem dLAW_220 : decode code 220 = .ok (.if_icmp .eq 841, 3) := by decide +kernel
theorem dLAW_223 : decode code 223 = .ok (.iconst 0, 1) := by decide +kernel
theorem dLAW_224 : decode code 224 = .ok (.ireturn, 1) := by decide +kernel
theorem dLAW_225 : decode code 225 = .ok (.aload_n 1, 1) := by decide +kernel
theorem dLAW_226 : decode code 226 = .ok (.aload_n 3, 1) := by decide +kernel
theorem dLAW_227 : decode code 227 = .ok (.invokestatic 76, 3) := by decide +kernel
theorem dLAW_230 : decode code 230 = .ok (.istore 5, 2) := by decide +kernel
theorem dLAW_232 : decode code 232 = .ok (.aload_n 2, 1) := by decide +kernel
theorem dLAW_233 : decode code 233 = .ok (.invokevirtual 79, 3) := by decide +kernel
theorem dLAW_236 : decode code 236 = .ok (.istore 6, 2) := by decide +kernel
theorem dLAW_238 : decode code 238 = .ok (.aload_n 2, 1) := by decide +kernel
theorem dLAW_239 : decode code 239 = .ok (.invokevirtual 69, 3) := by decide +kernel
theorem dLAW_242 : decode code 242 = .ok (.iload 5, 2) := by decide +kernel
theorem dLAW_244 : decode code 244 = .ok (.if_icmp .eq 5, 3) := by decide +kernel
theorem dLAW_247 : decode code 247 = .ok (.iconst 0, 1) := by decide +kernel
theorem dLAW_248 : decode code 248 = .ok (.ireturn, 1) := by decide +kernel
