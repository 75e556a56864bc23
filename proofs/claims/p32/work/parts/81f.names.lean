theorem dL_limits_157 : decode cL_limits 157 = .ok (.if_icmp .ne 7, 3) := by decide +kernel
theorem dL_limits_160 : decode cL_limits 160 = .ok (.iconst 1, 1) := by decide +kernel
theorem dL_limits_161 : decode cL_limits 161 = .ok (.goto 7, 3) := by decide +kernel
theorem dL_limits_164 : decode cL_limits 164 = .ok (.iload 5, 2) := by decide +kernel
theorem dL_limits_166 : decode cL_limits 166 = .ok (.iconst 1, 1) := by decide +kernel
theorem dL_limits_167 : decode cL_limits 167 = .ok (.iadd, 1) := by decide +kernel
theorem dL_limits_168 : decode cL_limits 168 = .ok (.istore 9, 2) := by decide +kernel
theorem dL_limits_170 : decode cL_limits 170 = .ok (.iload 9, 2) := by decide +kernel
theorem dL_limits_172 : decode cL_limits 172 = .ok (.iload 6, 2) := by decide +kernel
theorem dL_limits_174 : decode cL_limits 174 = .ok (.if_icmp .gt 80, 3) := by decide +kernel
theorem dL_limits_177 : decode cL_limits 177 = .ok (.iload 8, 2) := by decide +kernel
theorem dL_limits_179 : decode cL_limits 179 = .ok (.aload_n 0, 1) := by decide +kernel
theorem dL_limits_180 : decode cL_limits 180 = .ok (.bipush 9, 2) := by decide +kernel
theorem dL_limits_182 : decode cL_limits 182 = .ok (.iload 4, 2) := by decide +kernel
theorem dL_limits_184 : decode cL_limits 184 = .ok (.iload 9, 2) := by decide +kernel
theorem dL_limits_186 : decode cL_limits 186 = .ok (.iconst 0, 1) := by decide +kernel
theorem dL_limits_187 : decode cL_limits 187 = .ok (.iconst 0, 1) := by decide +kernel
theorem dL_limits_188 : decode cL_limits 188 = .ok (.invokestatic 180, 3) := by decide +kernel
theorem dL_limits_191 : decode cL_limits 191 = .ok (.ifCond .le 59, 3) := by decide +kernel
theorem dL_limits_194 : decode cL_limits 194 = .ok (.aload_n 0, 1) := by decide +kernel
theorem dL_limits_195 : decode cL_limits 195 = .ok (.bipush 14, 2) := by decide +kernel
theorem dL_limits_197 : decode cL_limits 197 = .ok (.iconst 1, 1) := by decide +kernel
theorem dL_limits_198 : decode cL_limits 198 = .ok (.iconst 0, 1) := by decide +kernel
theorem dL_limits_199 : decode cL_limits 199 = .ok (.iconst 0, 1) := by decide +kernel
theorem dL_limits_200 : decode cL_limits 200 = .ok (.iconst 0, 1) := by decide +kernel
theorem dL_limits_201 : decode cL_limits 201 = .ok (.invokestatic 180, 3) := by decide +kernel
theorem dL_limits_204 : decode cL_limits 204 = .ok (.ifCond .le 46, 3) := by decide +kernel
theorem dL_limits_207 : decode cL_limits 207 = .ok (.aload_n 0, 1) := by decide +kernel
theorem dL_limits_208 : decode cL_limits 208 = .ok (.iload_n 1, 1) := by decide +kernel
theorem dL_limits_209 : decode cL_limits 209 = .ok (.iconst 3, 1) := by decide +kernel
theorem dL_limits_210 : decode cL_limits 210 = .ok (.invokestatic 190, 3) := by decide +kernel
theorem dL_limits_213 : decode cL_limits 213 = .ok (.iload 7, 2) := by decide +kernel
theorem dL_limits_215 : decode cL_limits 215 = .ok (.iconst 1, 1) := by decide +kernel
theorem dL_limits_216 : decode cL_limits 216 = .ok (.iadd, 1) := by decide +kernel
theorem dL_limits_217 : decode cL_limits 217 = .ok (.if_icmp .ne 33, 3) := by decide +kernel
theorem dL_limits_220 : decode cL_limits 220 = .ok (.aload_n 0, 1) := by decide +kernel
theorem dL_limits_221 : decode cL_limits 221 = .ok (.bipush 15, 2) := by decide +kernel
theorem dL_limits_223 : decode cL_limits 223 = .ok (.iconst 0, 1) := by decide +kernel
theorem dL_limits_224 : decode cL_limits 224 = .ok (.iconst 0, 1) := by decide +kernel
theorem dL_limits_225 : decode cL_limits 225 = .ok (.iconst 0, 1) := by decide +kernel
theorem dL_limits_226 : decode cL_limits 226 = .ok (.iconst 0, 1) := by decide +kernel
theorem dL_limits_227 : decode cL_limits 227 = .ok (.invokestatic 180, 3) := by decide +kernel
theorem dL_limits_230 : decode cL_limits 230 = .ok (.ifCond .lt 20, 3) := by decide +kernel
theorem dL_limits_233 : decode cL_limits 233 = .ok (.aload_n 0, 1) := by decide +kernel
theorem dL_limits_234 : decode cL_limits 234 = .ok (.bipush 15, 2) := by decide +kernel
theorem dL_limits_236 : decode cL_limits 236 = .ok (.iconst 0, 1) := by decide +kernel
theorem dL_limits_237 : decode cL_limits 237 = .ok (.iconst 0, 1) := by decide +kernel
theorem dL_limits_238 : decode cL_limits 238 = .ok (.iconst 0, 1) := by decide +kernel
theorem dL_limits_239 : decode cL_limits 239 = .ok (.iconst 0, 1) := by decide +kernel
theorem dL_limits_240 : decode cL_limits 240 = .ok (.invokestatic 180, 3) := by decide +kernel
theorem dL_limits_243 : decode cL_limits 243 = .ok (.ifCond .lt 7, 3) := by decide +kernel
theorem dL_limits_246 : decode cL_limits 246 = .ok (.iconst 1, 1) := by decide +kernel
theorem dL_limits_247 : decode cL_limits 247 = .ok (.goto 4, 3) := by decide +kernel
theorem dL_limits_250 : decode cL_limits 250 = .ok (.iconst 0, 1) := by decide +kernel
theorem dL_limits_251 : decode cL_limits 251 = .ok (.iand, 1) := by decide +kernel
theorem dL_limits_252 : decode cL_limits 252 = .ok (.istore 8, 2) := by decide +kernel
theorem dL_limits_254 : decode cL_limits 254 = .ok (.iload 8, 2) := by decide +kernel
theorem dL_limits_256 : decode cL_limits 256 = .ok (.ifCond .eq 16, 3) := by decide +kernel
theorem dL_limits_259 : decode cL_limits 259 = .ok (.aload_n 0, 1) := by decide +kernel
theorem dL_limits_260 : decode cL_limits 260 = .ok (.invokestatic 194, 3) := by decide +kernel
theorem dL_limits_263 : decode cL_limits 263 = .ok (.lload_n 2, 1) := by decide +kernel
theorem dL_limits_264 : decode cL_limits 264 = .ok (.lcmp, 1) := by decide +kernel
theorem dL_limits_265 : decode cL_limits 265 = .ok (.ifCond .ne 7, 3) := by decide +kernel
theorem dL_limits_268 : decode cL_limits 268 = .ok (.iconst 1, 1) := by decide +kernel
theorem dL_limits_269 : decode cL_limits 269 = .ok (.goto 4, 3) := by decide +kernel
theorem dL_limits_272 : decode cL_limits 272 = .ok (.iconst 0, 1) := by decide +kernel
theorem dL_limits_273 : decode cL_limits 273 = .ok (.ireturn, 1) := by decide +kernel
theorem dL_water_0 : decode cL_water 0 = .ok (.aload_n 0, 1) := by decide +kernel
theorem dL_water_1 : decode cL_water 1 = .ok (.invokestatic 194, 3) := by decide +kernel
theorem dL_water_4 : decode cL_water 4 = .ok (.lstore_n 2, 1) := by decide +kernel
theorem dL_water_5 : decode cL_water 5 = .ok (.aload_n 0, 1) := by decide +kernel
theorem dL_water_6 : decode cL_water 6 = .ok (.iload_n 1, 1) := by decide +kernel
theorem dL_water_7 : decode cL_water 7 = .ok (.iconst 0, 1) := by decide +kernel
theorem dL_water_8 : decode cL_water 8 = .ok (.invokestatic 190, 3) := by decide +kernel
theorem dL_water_11 : decode cL_water 11 = .ok (.istore 4, 2) := by decide +kernel
theorem dL_water_13 : decode cL_water 13 = .ok (.aload_n 0, 1) := by decide +kernel
theorem dL_water_14 : decode cL_water 14 = .ok (.bipush 18, 2) := by decide +kernel
theorem dL_water_16 : decode cL_water 16 = .ok (.iload_n 1, 1) := by decide +kernel
theorem dL_water_17 : decode cL_water 17 = .ok (.iconst 0, 1) := by decide +kernel
theorem dL_water_18 : decode cL_water 18 = .ok (.iconst 0, 1) := by decide +kernel
theorem dL_water_19 : decode cL_water 19 = .ok (.iconst 0, 1) := by decide +kernel
theorem dL_water_20 : decode cL_water 20 = .ok (.invokestatic 180, 3) := by decide +kernel
theorem dL_water_23 : decode cL_water 23 = .ok (.istore 5, 2) := by decide +kernel
theorem dL_water_25 : decode cL_water 25 = .ok (.aload_n 0, 1) := by decide +kernel
theorem dL_water_26 : decode cL_water 26 = .ok (.iload_n 1, 1) := by decide +kernel
theorem dL_water_27 : decode cL_water 27 = .ok (.iconst 3, 1) := by decide +kernel
theorem dL_water_28 : decode cL_water 28 = .ok (.invokestatic 190, 3) := by decide +kernel
theorem dL_water_31 : decode cL_water 31 = .ok (.istore 6, 2) := by decide +kernel
theorem dL_water_33 : decode cL_water 33 = .ok (.aload_n 0, 1) := by decide +kernel
theorem dL_water_34 : decode cL_water 34 = .ok (.bipush 7, 2) := by decide +kernel
theorem dL_water_36 : decode cL_water 36 = .ok (.iload 4, 2) := by decide +kernel
theorem dL_water_38 : decode cL_water 38 = .ok (.iconst 0, 1) := by decide +kernel
theorem dL_water_39 : decode cL_water 39 = .ok (.iconst 0, 1) := by decide +kernel
theorem dL_water_40 : decode cL_water 40 = .ok (.iconst 0, 1) := by decide +kernel
theorem dL_water_41 : decode cL_water 41 = .ok (.invokestatic 180, 3) := by decide +kernel
theorem dL_water_44 : decode cL_water 44 = .ok (.istore 7, 2) := by decide +kernel
theorem dL_water_46 : decode cL_water 46 = .ok (.iload 7, 2) := by decide +kernel
theorem dL_water_48 : decode cL_water 48 = .ok (.ldc 26, 2) := by decide +kernel
theorem dL_water_50 : decode cL_water 50 = .ok (.if_icmp .ne 27, 3) := by decide +kernel
theorem dL_water_53 : decode cL_water 53 = .ok (.aload_n 0, 1) := by decide +kernel
theorem dL_water_54 : decode cL_water 54 = .ok (.iconst 2, 1) := by decide +kernel
theorem dL_water_55 : decode cL_water 55 = .ok (.invokestatic 186, 3) := by decide +kernel
theorem dL_water_58 : decode cL_water 58 = .ok (.iconst 3, 1) := by decide +kernel
theorem dL_water_59 : decode cL_water 59 = .ok (.if_icmp .ne 16, 3) := by decide +kernel
theorem dL_water_62 : decode cL_water 62 = .ok (.aload_n 0, 1) := by decide +kernel
theorem dL_water_63 : decode cL_water 63 = .ok (.invokestatic 194, 3) := by decide +kernel
theorem dL_water_66 : decode cL_water 66 = .ok (.lload_n 2, 1) := by decide +kernel
theorem dL_water_67 : decode cL_water 67 = .ok (.lcmp, 1) := by decide +kernel
theorem dL_water_68 : decode cL_water 68 = .ok (.ifCond .ne 7, 3) := by decide +kernel
theorem dL_water_71 : decode cL_water 71 = .ok (.iconst 1, 1) := by decide +kernel
theorem dL_water_72 : decode cL_water 72 = .ok (.goto 4, 3) := by decide +kernel
theorem dL_water_75 : decode cL_water 75 = .ok (.iconst 0, 1) := by decide +kernel
theorem dL_water_76 : decode cL_water 76 = .ok (.ireturn, 1) := by decide +kernel
theorem dL_water_77 : decode cL_water 77 = .ok (.aload_n 0, 1) := by decide +kernel
theorem dL_water_78 : decode cL_water 78 = .ok (.iload 7, 2) := by decide +kernel
theorem dL_water_80 : decode cL_water 80 = .ok (.iconst 1, 1) := by decide +kernel
theorem dL_water_81 : decode cL_water 81 = .ok (.invokestatic 192, 3) := by decide +kernel
theorem dL_water_84 : decode cL_water 84 = .ok (.bipush 20, 2) := by decide +kernel
theorem dL_water_86 : decode cL_water 86 = .ok (.if_icmp .ne 18, 3) := by decide +kernel
theorem dL_water_89 : decode cL_water 89 = .ok (.aload_n 0, 1) := by decide +kernel
theorem dL_water_90 : decode cL_water 90 = .ok (.iload 7, 2) := by decide +kernel
theorem dL_water_92 : decode cL_water 92 = .ok (.iconst 2, 1) := by decide +kernel
theorem dL_water_93 : decode cL_water 93 = .ok (.invokestatic 192, 3) := by decide +kernel
theorem dL_water_96 : decode cL_water 96 = .ok (.iconst 4, 1) := by decide +kernel
theorem dL_water_97 : decode cL_water 97 = .ok (.if_icmp .ne 7, 3) := by decide +kernel
theorem dL_water_100 : decode cL_water 100 = .ok (.iconst 1, 1) := by decide +kernel
theorem dL_water_101 : decode cL_water 101 = .ok (.goto 4, 3) := by decide +kernel
theorem dL_water_104 : decode cL_water 104 = .ok (.iconst 0, 1) := by decide +kernel
theorem dL_water_105 : decode cL_water 105 = .ok (.istore 8, 2) := by decide +kernel
theorem dL_water_107 : decode cL_water 107 = .ok (.iload 5, 2) := by decide +kernel
theorem dL_water_109 : decode cL_water 109 = .ok (.ifCond .le 30, 3) := by decide +kernel
theorem dL_water_112 : decode cL_water 112 = .ok (.iload 8, 2) := by decide +kernel
theorem dL_water_114 : decode cL_water 114 = .ok (.aload_n 0, 1) := by decide +kernel
theorem dL_water_115 : decode cL_water 115 = .ok (.bipush 12, 2) := by decide +kernel
theorem dL_water_117 : decode cL_water 117 = .ok (.iload 7, 2) := by decide +kernel
theorem dL_water_119 : decode cL_water 119 = .ok (.iload 5, 2) := by decide +kernel
theorem dL_water_121 : decode cL_water 121 = .ok (.iconst 0, 1) := by decide +kernel
theorem dL_water_122 : decode cL_water 122 = .ok (.iconst 0, 1) := by decide +kernel
theorem dL_water_123 : decode cL_water 123 = .ok (.invokestatic 180, 3) := by decide +kernel
theorem dL_water_126 : decode cL_water 126 = .ok (.iload 5, 2) := by decide +kernel
theorem dL_water_128 : decode cL_water 128 = .ok (.if_icmp .lt 7, 3) := by decide +kernel
theorem dL_water_131 : decode cL_water 131 = .ok (.iconst 1, 1) := by decide +kernel
theorem dL_water_132 : decode cL_water 132 = .ok (.goto 4, 3) := by decide +kernel
theorem dL_water_135 : decode cL_water 135 = .ok (.iconst 0, 1) := by decide +kernel
theorem dL_water_136 : decode cL_water 136 = .ok (.iand, 1) := by decide +kernel
theorem dL_water_137 : decode cL_water 137 = .ok (.istore 8, 2) := by decide +kernel
theorem dL_water_139 : decode cL_water 139 = .ok (.aload_n 0, 1) := by decide +kernel
theorem dL_water_140 : decode cL_water 140 = .ok (.bipush 14, 2) := by decide +kernel
theorem dL_water_142 : decode cL_water 142 = .ok (.iconst 1, 1) := by decide +kernel
theorem dL_water_143 : decode cL_water 143 = .ok (.iconst 0, 1) := by decide +kernel
theorem dL_water_144 : decode cL_water 144 = .ok (.iconst 0, 1) := by decide +kernel
theorem dL_water_145 : decode cL_water 145 = .ok (.iconst 0, 1) := by decide +kernel
theorem dL_water_146 : decode cL_water 146 = .ok (.invokestatic 180, 3) := by decide +kernel
theorem dL_water_149 : decode cL_water 149 = .ok (.istore 9, 2) := by decide +kernel
theorem dL_water_151 : decode cL_water 151 = .ok (.iload 8, 2) := by decide +kernel
theorem dL_water_153 : decode cL_water 153 = .ok (.iload 9, 2) := by decide +kernel
theorem dL_water_155 : decode cL_water 155 = .ok (.ifCond .lt 38, 3) := by decide +kernel
theorem dL_water_158 : decode cL_water 158 = .ok (.aload_n 0, 1) := by decide +kernel
theorem dL_water_159 : decode cL_water 159 = .ok (.iload_n 1, 1) := by decide +kernel
theorem dL_water_160 : decode cL_water 160 = .ok (.iconst 3, 1) := by decide +kernel
theorem dL_water_161 : decode cL_water 161 = .ok (.invokestatic 190, 3) := by decide +kernel
theorem dL_water_164 : decode cL_water 164 = .ok (.iload 6, 2) := by decide +kernel
theorem dL_water_166 : decode cL_water 166 = .ok (.if_icmp .ne 7, 3) := by decide +kernel
theorem dL_water_169 : decode cL_water 169 = .ok (.iconst 1, 1) := by decide +kernel
theorem dL_water_170 : decode cL_water 170 = .ok (.goto 4, 3) := by decide +kernel
theorem dL_water_173 : decode cL_water 173 = .ok (.iconst 0, 1) := by decide +kernel
theorem dL_water_174 : decode cL_water 174 = .ok (.iload 5, 2) := by decide +kernel
theorem dL_water_176 : decode cL_water 176 = .ok (.bipush (-9), 2) := by decide +kernel
theorem dL_water_178 : decode cL_water 178 = .ok (.if_icmp .eq 7, 3) := by decide +kernel
theorem dL_water_181 : decode cL_water 181 = .ok (.iconst 1, 1) := by decide +kernel
theorem dL_water_182 : decode cL_water 182 = .ok (.goto 4, 3) := by decide +kernel
theorem dL_water_185 : decode cL_water 185 = .ok (.iconst 0, 1) := by decide +kernel
theorem dL_water_186 : decode cL_water 186 = .ok (.if_icmp .ne 7, 3) := by decide +kernel
theorem dL_water_189 : decode cL_water 189 = .ok (.iconst 1, 1) := by decide +kernel
theorem dL_water_190 : decode cL_water 190 = .ok (.goto 4, 3) := by decide +kernel
theorem dL_water_193 : decode cL_water 193 = .ok (.iconst 0, 1) := by decide +kernel
theorem dL_water_194 : decode cL_water 194 = .ok (.iand, 1) := by decide +kernel
theorem dL_water_195 : decode cL_water 195 = .ok (.istore 8, 2) := by decide +kernel
theorem dL_water_197 : decode cL_water 197 = .ok (.iload 8, 2) := by decide +kernel
theorem dL_water_199 : decode cL_water 199 = .ok (.aload_n 0, 1) := by decide +kernel
theorem dL_water_200 : decode cL_water 200 = .ok (.bipush 15, 2) := by decide +kernel
theorem dL_water_202 : decode cL_water 202 = .ok (.iconst 0, 1) := by decide +kernel
theorem dL_water_203 : decode cL_water 203 = .ok (.iconst 0, 1) := by decide +kernel
theorem dL_water_204 : decode cL_water 204 = .ok (.iconst 0, 1) := by decide +kernel
theorem dL_water_205 : decode cL_water 205 = .ok (.iconst 0, 1) := by decide +kernel
theorem dL_water_206 : decode cL_water 206 = .ok (.invokestatic 180, 3) := by decide +kernel
theorem dL_water_209 : decode cL_water 209 = .ok (.ifCond .lt 25, 3) := by decide +kernel
theorem dL_water_212 : decode cL_water 212 = .ok (.iload 5, 2) := by decide +kernel
theorem dL_water_214 : decode cL_water 214 = .ok (.ifCond .le 16, 3) := by decide +kernel
theorem dL_water_217 : decode cL_water 217 = .ok (.aload_n 0, 1) := by decide +kernel
theorem dL_water_218 : decode cL_water 218 = .ok (.bipush 15, 2) := by decide +kernel
theorem dL_water_220 : decode cL_water 220 = .ok (.iconst 0, 1) := by decide +kernel
theorem dL_water_221 : decode cL_water 221 = .ok (.iconst 0, 1) := by decide +kernel
theorem dL_water_222 : decode cL_water 222 = .ok (.iconst 0, 1) := by decide +kernel
theorem dL_water_223 : decode cL_water 223 = .ok (.iconst 0, 1) := by decide +kernel
theorem dL_water_224 : decode cL_water 224 = .ok (.invokestatic 180, 3) := by decide +kernel
theorem dL_water_227 : decode cL_water 227 = .ok (.ifCond .lt 7, 3) := by decide +kernel
theorem dL_water_230 : decode cL_water 230 = .ok (.iconst 1, 1) := by decide +kernel
theorem dL_water_231 : decode cL_water 231 = .ok (.goto 4, 3) := by decide +kernel
theorem dL_water_234 : decode cL_water 234 = .ok (.iconst 0, 1) := by decide +kernel
