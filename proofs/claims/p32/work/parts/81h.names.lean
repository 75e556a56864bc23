theorem dL_sprays_128 : decode cL_sprays 128 = .ok (.lcmp, 1) := by decide +kernel
theorem dL_sprays_129 : decode cL_sprays 129 = .ok (.ifCond .ne 7, 3) := by decide +kernel
theorem dL_sprays_132 : decode cL_sprays 132 = .ok (.iconst 1, 1) := by decide +kernel
theorem dL_sprays_133 : decode cL_sprays 133 = .ok (.goto 4, 3) := by decide +kernel
theorem dL_sprays_136 : decode cL_sprays 136 = .ok (.iconst 0, 1) := by decide +kernel
theorem dL_sprays_137 : decode cL_sprays 137 = .ok (.ireturn, 1) := by decide +kernel
theorem dL_fills_0 : decode cL_fills 0 = .ok (.aload_n 0, 1) := by decide +kernel
theorem dL_fills_1 : decode cL_fills 1 = .ok (.invokestatic 194, 3) := by decide +kernel
theorem dL_fills_4 : decode cL_fills 4 = .ok (.lstore_n 2, 1) := by decide +kernel
theorem dL_fills_5 : decode cL_fills 5 = .ok (.aload_n 0, 1) := by decide +kernel
theorem dL_fills_6 : decode cL_fills 6 = .ok (.bipush 16, 2) := by decide +kernel
theorem dL_fills_8 : decode cL_fills 8 = .ok (.iload_n 1, 1) := by decide +kernel
theorem dL_fills_9 : decode cL_fills 9 = .ok (.iconst 0, 1) := by decide +kernel
theorem dL_fills_10 : decode cL_fills 10 = .ok (.iconst 0, 1) := by decide +kernel
theorem dL_fills_11 : decode cL_fills 11 = .ok (.iconst 0, 1) := by decide +kernel
theorem dL_fills_12 : decode cL_fills 12 = .ok (.invokestatic 180, 3) := by decide +kernel
theorem dL_fills_15 : decode cL_fills 15 = .ok (.istore 4, 2) := by decide +kernel
theorem dL_fills_17 : decode cL_fills 17 = .ok (.aload_n 0, 1) := by decide +kernel
theorem dL_fills_18 : decode cL_fills 18 = .ok (.iload_n 1, 1) := by decide +kernel
theorem dL_fills_19 : decode cL_fills 19 = .ok (.iconst 1, 1) := by decide +kernel
theorem dL_fills_20 : decode cL_fills 20 = .ok (.invokestatic 192, 3) := by decide +kernel
theorem dL_fills_23 : decode cL_fills 23 = .ok (.istore 5, 2) := by decide +kernel
theorem dL_fills_25 : decode cL_fills 25 = .ok (.aload_n 0, 1) := by decide +kernel
theorem dL_fills_26 : decode cL_fills 26 = .ok (.iload_n 1, 1) := by decide +kernel
theorem dL_fills_27 : decode cL_fills 27 = .ok (.iconst 2, 1) := by decide +kernel
theorem dL_fills_28 : decode cL_fills 28 = .ok (.invokestatic 192, 3) := by decide +kernel
theorem dL_fills_31 : decode cL_fills 31 = .ok (.istore 6, 2) := by decide +kernel
theorem dL_fills_33 : decode cL_fills 33 = .ok (.aload_n 0, 1) := by decide +kernel
theorem dL_fills_34 : decode cL_fills 34 = .ok (.bipush 9, 2) := by decide +kernel
theorem dL_fills_36 : decode cL_fills 36 = .ok (.invokestatic 186, 3) := by decide +kernel
theorem dL_fills_39 : decode cL_fills 39 = .ok (.istore 7, 2) := by decide +kernel
theorem dL_fills_41 : decode cL_fills 41 = .ok (.iload 4, 2) := by decide +kernel
theorem dL_fills_43 : decode cL_fills 43 = .ok (.iconst 1, 1) := by decide +kernel
theorem dL_fills_44 : decode cL_fills 44 = .ok (.if_icmp .ne 7, 3) := by decide +kernel
theorem dL_fills_47 : decode cL_fills 47 = .ok (.iconst 1, 1) := by decide +kernel
theorem dL_fills_48 : decode cL_fills 48 = .ok (.goto 4, 3) := by decide +kernel
theorem dL_fills_51 : decode cL_fills 51 = .ok (.iconst 0, 1) := by decide +kernel
theorem dL_fills_52 : decode cL_fills 52 = .ok (.iload 6, 2) := by decide +kernel
theorem dL_fills_54 : decode cL_fills 54 = .ok (.ifCond .ne 7, 3) := by decide +kernel
theorem dL_fills_57 : decode cL_fills 57 = .ok (.iconst 1, 1) := by decide +kernel
theorem dL_fills_58 : decode cL_fills 58 = .ok (.goto 4, 3) := by decide +kernel
theorem dL_fills_61 : decode cL_fills 61 = .ok (.iconst 0, 1) := by decide +kernel
theorem dL_fills_62 : decode cL_fills 62 = .ok (.if_icmp .ne 57, 3) := by decide +kernel
theorem dL_fills_65 : decode cL_fills 65 = .ok (.iload 4, 2) := by decide +kernel
theorem dL_fills_67 : decode cL_fills 67 = .ok (.iconst 2, 1) := by decide +kernel
theorem dL_fills_68 : decode cL_fills 68 = .ok (.if_icmp .ne 17, 3) := by decide +kernel
theorem dL_fills_71 : decode cL_fills 71 = .ok (.aload_n 0, 1) := by decide +kernel
theorem dL_fills_72 : decode cL_fills 72 = .ok (.aload_n 0, 1) := by decide +kernel
theorem dL_fills_73 : decode cL_fills 73 = .ok (.iload_n 1, 1) := by decide +kernel
theorem dL_fills_74 : decode cL_fills 74 = .ok (.iconst 0, 1) := by decide +kernel
theorem dL_fills_75 : decode cL_fills 75 = .ok (.invokestatic 192, 3) := by decide +kernel
theorem dL_fills_78 : decode cL_fills 78 = .ok (.iconst 5, 1) := by decide +kernel
theorem dL_fills_79 : decode cL_fills 79 = .ok (.invokestatic 188, 3) := by decide +kernel
theorem dL_fills_82 : decode cL_fills 82 = .ok (.ifCond .ne 37, 3) := by decide +kernel
theorem dL_fills_85 : decode cL_fills 85 = .ok (.iload 4, 2) := by decide +kernel
theorem dL_fills_87 : decode cL_fills 87 = .ok (.iconst 3, 1) := by decide +kernel
theorem dL_fills_88 : decode cL_fills 88 = .ok (.if_icmp .ne 10, 3) := by decide +kernel
theorem dL_fills_91 : decode cL_fills 91 = .ok (.iload 5, 2) := by decide +kernel
theorem dL_fills_93 : decode cL_fills 93 = .ok (.bipush 20, 2) := by decide +kernel
theorem dL_fills_95 : decode cL_fills 95 = .ok (.if_icmp .ne 24, 3) := by decide +kernel
theorem dL_fills_98 : decode cL_fills 98 = .ok (.iload 4, 2) := by decide +kernel
theorem dL_fills_100 : decode cL_fills 100 = .ok (.iconst 4, 1) := by decide +kernel
theorem dL_fills_101 : decode cL_fills 101 = .ok (.if_icmp .ne 14, 3) := by decide +kernel
theorem dL_fills_104 : decode cL_fills 104 = .ok (.iload 7, 2) := by decide +kernel
theorem dL_fills_106 : decode cL_fills 106 = .ok (.aload_n 0, 1) := by decide +kernel
theorem dL_fills_107 : decode cL_fills 107 = .ok (.bipush 8, 2) := by decide +kernel
theorem dL_fills_109 : decode cL_fills 109 = .ok (.invokestatic 186, 3) := by decide +kernel
theorem dL_fills_112 : decode cL_fills 112 = .ok (.if_icmp .lt 7, 3) := by decide +kernel
theorem dL_fills_115 : decode cL_fills 115 = .ok (.iconst 1, 1) := by decide +kernel
theorem dL_fills_116 : decode cL_fills 116 = .ok (.goto 4, 3) := by decide +kernel
theorem dL_fills_119 : decode cL_fills 119 = .ok (.iconst 0, 1) := by decide +kernel
theorem dL_fills_120 : decode cL_fills 120 = .ok (.istore 8, 2) := by decide +kernel
theorem dL_fills_122 : decode cL_fills 122 = .ok (.aload_n 0, 1) := by decide +kernel
theorem dL_fills_123 : decode cL_fills 123 = .ok (.bipush 13, 2) := by decide +kernel
theorem dL_fills_125 : decode cL_fills 125 = .ok (.iload_n 1, 1) := by decide +kernel
theorem dL_fills_126 : decode cL_fills 126 = .ok (.iconst 0, 1) := by decide +kernel
theorem dL_fills_127 : decode cL_fills 127 = .ok (.iconst 0, 1) := by decide +kernel
theorem dL_fills_128 : decode cL_fills 128 = .ok (.iconst 0, 1) := by decide +kernel
theorem dL_fills_129 : decode cL_fills 129 = .ok (.invokestatic 180, 3) := by decide +kernel
theorem dL_fills_132 : decode cL_fills 132 = .ok (.istore 9, 2) := by decide +kernel
theorem dL_fills_134 : decode cL_fills 134 = .ok (.iload 4, 2) := by decide +kernel
theorem dL_fills_136 : decode cL_fills 136 = .ok (.ifCond .le 30, 3) := by decide +kernel
theorem dL_fills_139 : decode cL_fills 139 = .ok (.iload 8, 2) := by decide +kernel
theorem dL_fills_141 : decode cL_fills 141 = .ok (.ifCond .eq 23, 3) := by decide +kernel
theorem dL_fills_144 : decode cL_fills 144 = .ok (.iload 9, 2) := by decide +kernel
theorem dL_fills_146 : decode cL_fills 146 = .ok (.ldc 26, 2) := by decide +kernel
theorem dL_fills_148 : decode cL_fills 148 = .ok (.if_icmp .ne 16, 3) := by decide +kernel
theorem dL_fills_151 : decode cL_fills 151 = .ok (.aload_n 0, 1) := by decide +kernel
theorem dL_fills_152 : decode cL_fills 152 = .ok (.invokestatic 194, 3) := by decide +kernel
theorem dL_fills_155 : decode cL_fills 155 = .ok (.lload_n 2, 1) := by decide +kernel
theorem dL_fills_156 : decode cL_fills 156 = .ok (.lcmp, 1) := by decide +kernel
theorem dL_fills_157 : decode cL_fills 157 = .ok (.ifCond .ne 7, 3) := by decide +kernel
theorem dL_fills_160 : decode cL_fills 160 = .ok (.iconst 1, 1) := by decide +kernel
theorem dL_fills_161 : decode cL_fills 161 = .ok (.goto 4, 3) := by decide +kernel
theorem dL_fills_164 : decode cL_fills 164 = .ok (.iconst 0, 1) := by decide +kernel
theorem dL_fills_165 : decode cL_fills 165 = .ok (.ireturn, 1) := by decide +kernel
theorem dL_fills_166 : decode cL_fills 166 = .ok (.iload 8, 2) := by decide +kernel
theorem dL_fills_168 : decode cL_fills 168 = .ok (.iload 9, 2) := by decide +kernel
theorem dL_fills_170 : decode cL_fills 170 = .ok (.ifCond .le 89, 3) := by decide +kernel
theorem dL_fills_173 : decode cL_fills 173 = .ok (.aload_n 0, 1) := by decide +kernel
theorem dL_fills_174 : decode cL_fills 174 = .ok (.iload_n 1, 1) := by decide +kernel
theorem dL_fills_175 : decode cL_fills 175 = .ok (.iconst 1, 1) := by decide +kernel
theorem dL_fills_176 : decode cL_fills 176 = .ok (.invokestatic 192, 3) := by decide +kernel
theorem dL_fills_179 : decode cL_fills 179 = .ok (.iload 5, 2) := by decide +kernel
theorem dL_fills_181 : decode cL_fills 181 = .ok (.iload 9, 2) := by decide +kernel
theorem dL_fills_183 : decode cL_fills 183 = .ok (.iadd, 1) := by decide +kernel
theorem dL_fills_184 : decode cL_fills 184 = .ok (.if_icmp .ne 75, 3) := by decide +kernel
theorem dL_fills_187 : decode cL_fills 187 = .ok (.aload_n 0, 1) := by decide +kernel
theorem dL_fills_188 : decode cL_fills 188 = .ok (.iload_n 1, 1) := by decide +kernel
theorem dL_fills_189 : decode cL_fills 189 = .ok (.iconst 2, 1) := by decide +kernel
theorem dL_fills_190 : decode cL_fills 190 = .ok (.invokestatic 192, 3) := by decide +kernel
theorem dL_fills_193 : decode cL_fills 193 = .ok (.iload 6, 2) := by decide +kernel
theorem dL_fills_195 : decode cL_fills 195 = .ok (.iconst 1, 1) := by decide +kernel
theorem dL_fills_196 : decode cL_fills 196 = .ok (.isub, 1) := by decide +kernel
theorem dL_fills_197 : decode cL_fills 197 = .ok (.if_icmp .ne 62, 3) := by decide +kernel
theorem dL_fills_200 : decode cL_fills 200 = .ok (.aload_n 0, 1) := by decide +kernel
theorem dL_fills_201 : decode cL_fills 201 = .ok (.bipush 9, 2) := by decide +kernel
theorem dL_fills_203 : decode cL_fills 203 = .ok (.invokestatic 186, 3) := by decide +kernel
theorem dL_fills_206 : decode cL_fills 206 = .ok (.iload 7, 2) := by decide +kernel
theorem dL_fills_208 : decode cL_fills 208 = .ok (.iload 9, 2) := by decide +kernel
theorem dL_fills_210 : decode cL_fills 210 = .ok (.iadd, 1) := by decide +kernel
theorem dL_fills_211 : decode cL_fills 211 = .ok (.if_icmp .ne 48, 3) := by decide +kernel
theorem dL_fills_214 : decode cL_fills 214 = .ok (.aload_n 0, 1) := by decide +kernel
theorem dL_fills_215 : decode cL_fills 215 = .ok (.bipush 9, 2) := by decide +kernel
theorem dL_fills_217 : decode cL_fills 217 = .ok (.invokestatic 186, 3) := by decide +kernel
theorem dL_fills_220 : decode cL_fills 220 = .ok (.aload_n 0, 1) := by decide +kernel
theorem dL_fills_221 : decode cL_fills 221 = .ok (.bipush 8, 2) := by decide +kernel
theorem dL_fills_223 : decode cL_fills 223 = .ok (.invokestatic 186, 3) := by decide +kernel
theorem dL_fills_226 : decode cL_fills 226 = .ok (.if_icmp .gt 33, 3) := by decide +kernel
theorem dL_fills_229 : decode cL_fills 229 = .ok (.aload_n 0, 1) := by decide +kernel
theorem dL_fills_230 : decode cL_fills 230 = .ok (.iload_n 1, 1) := by decide +kernel
theorem dL_fills_231 : decode cL_fills 231 = .ok (.iconst 1, 1) := by decide +kernel
theorem dL_fills_232 : decode cL_fills 232 = .ok (.invokestatic 192, 3) := by decide +kernel
theorem dL_fills_235 : decode cL_fills 235 = .ok (.bipush 20, 2) := by decide +kernel
theorem dL_fills_237 : decode cL_fills 237 = .ok (.if_icmp .eq 18, 3) := by decide +kernel
theorem dL_fills_240 : decode cL_fills 240 = .ok (.aload_n 0, 1) := by decide +kernel
theorem dL_fills_241 : decode cL_fills 241 = .ok (.bipush 9, 2) := by decide +kernel
theorem dL_fills_243 : decode cL_fills 243 = .ok (.invokestatic 186, 3) := by decide +kernel
theorem dL_fills_246 : decode cL_fills 246 = .ok (.aload_n 0, 1) := by decide +kernel
theorem dL_fills_247 : decode cL_fills 247 = .ok (.bipush 8, 2) := by decide +kernel
theorem dL_fills_249 : decode cL_fills 249 = .ok (.invokestatic 186, 3) := by decide +kernel
theorem dL_fills_252 : decode cL_fills 252 = .ok (.if_icmp .ne 7, 3) := by decide +kernel
theorem dL_fills_255 : decode cL_fills 255 = .ok (.iconst 1, 1) := by decide +kernel
theorem dL_fills_256 : decode cL_fills 256 = .ok (.goto 4, 3) := by decide +kernel
theorem dL_fills_259 : decode cL_fills 259 = .ok (.iconst 0, 1) := by decide +kernel
theorem dL_fills_260 : decode cL_fills 260 = .ok (.iand, 1) := by decide +kernel
theorem dL_fills_261 : decode cL_fills 261 = .ok (.istore 8, 2) := by decide +kernel
theorem dL_fills_263 : decode cL_fills 263 = .ok (.iload 8, 2) := by decide +kernel
theorem dL_fills_265 : decode cL_fills 265 = .ok (.ifCond .eq 29, 3) := by decide +kernel
theorem dL_fills_268 : decode cL_fills 268 = .ok (.aload_n 0, 1) := by decide +kernel
theorem dL_fills_269 : decode cL_fills 269 = .ok (.bipush 15, 2) := by decide +kernel
theorem dL_fills_271 : decode cL_fills 271 = .ok (.iconst 0, 1) := by decide +kernel
theorem dL_fills_272 : decode cL_fills 272 = .ok (.iconst 0, 1) := by decide +kernel
theorem dL_fills_273 : decode cL_fills 273 = .ok (.iconst 0, 1) := by decide +kernel
theorem dL_fills_274 : decode cL_fills 274 = .ok (.iconst 0, 1) := by decide +kernel
theorem dL_fills_275 : decode cL_fills 275 = .ok (.invokestatic 180, 3) := by decide +kernel
theorem dL_fills_278 : decode cL_fills 278 = .ok (.ifCond .lt 16, 3) := by decide +kernel
theorem dL_fills_281 : decode cL_fills 281 = .ok (.aload_n 0, 1) := by decide +kernel
theorem dL_fills_282 : decode cL_fills 282 = .ok (.invokestatic 194, 3) := by decide +kernel
theorem dL_fills_285 : decode cL_fills 285 = .ok (.lload_n 2, 1) := by decide +kernel
theorem dL_fills_286 : decode cL_fills 286 = .ok (.lcmp, 1) := by decide +kernel
theorem dL_fills_287 : decode cL_fills 287 = .ok (.ifCond .ne 7, 3) := by decide +kernel
theorem dL_fills_290 : decode cL_fills 290 = .ok (.iconst 1, 1) := by decide +kernel
theorem dL_fills_291 : decode cL_fills 291 = .ok (.goto 4, 3) := by decide +kernel
theorem dL_fills_294 : decode cL_fills 294 = .ok (.iconst 0, 1) := by decide +kernel
theorem dL_fills_295 : decode cL_fills 295 = .ok (.ireturn, 1) := by decide +kernel
theorem dL_fails_0 : decode cL_fails 0 = .ok (.aload_n 0, 1) := by decide +kernel
theorem dL_fails_1 : decode cL_fails 1 = .ok (.iconst 0, 1) := by decide +kernel
theorem dL_fails_2 : decode cL_fails 2 = .ok (.invokestatic 186, 3) := by decide +kernel
theorem dL_fails_5 : decode cL_fails 5 = .ok (.istore_n 2, 1) := by decide +kernel
theorem dL_fails_6 : decode cL_fails 6 = .ok (.aload_n 0, 1) := by decide +kernel
theorem dL_fails_7 : decode cL_fails 7 = .ok (.iconst 0, 1) := by decide +kernel
theorem dL_fails_8 : decode cL_fails 8 = .ok (.sipush 256, 3) := by decide +kernel
theorem dL_fails_11 : decode cL_fails 11 = .ok (.iload_n 1, 1) := by decide +kernel
theorem dL_fails_12 : decode cL_fails 12 = .ok (.bipush 9, 2) := by decide +kernel
theorem dL_fails_14 : decode cL_fails 14 = .ok (.irem, 1) := by decide +kernel
theorem dL_fails_15 : decode cL_fails 15 = .ok (.iadd, 1) := by decide +kernel
theorem dL_fails_16 : decode cL_fails 16 = .ok (.iconst 0, 1) := by decide +kernel
theorem dL_fails_17 : decode cL_fails 17 = .ok (.iconst 0, 1) := by decide +kernel
theorem dL_fails_18 : decode cL_fails 18 = .ok (.iconst 0, 1) := by decide +kernel
theorem dL_fails_19 : decode cL_fails 19 = .ok (.invokestatic 180, 3) := by decide +kernel
theorem dL_fails_22 : decode cL_fails 22 = .ok (.ldc 15, 2) := by decide +kernel
theorem dL_fails_24 : decode cL_fails 24 = .ok (.if_icmp .ne 102, 3) := by decide +kernel
theorem dL_fails_27 : decode cL_fails 27 = .ok (.aload_n 0, 1) := by decide +kernel
theorem dL_fails_28 : decode cL_fails 28 = .ok (.bipush 13, 2) := by decide +kernel
theorem dL_fails_30 : decode cL_fails 30 = .ok (.invokestatic 186, 3) := by decide +kernel
theorem dL_fails_33 : decode cL_fails 33 = .ok (.ldc 15, 2) := by decide +kernel
theorem dL_fails_35 : decode cL_fails 35 = .ok (.if_icmp .ne 91, 3) := by decide +kernel
theorem dL_fails_38 : decode cL_fails 38 = .ok (.aload_n 0, 1) := by decide +kernel
theorem dL_fails_39 : decode cL_fails 39 = .ok (.iload_n 2, 1) := by decide +kernel
theorem dL_fails_40 : decode cL_fails 40 = .ok (.iconst 0, 1) := by decide +kernel
theorem dL_fails_41 : decode cL_fails 41 = .ok (.invokestatic 188, 3) := by decide +kernel
theorem dL_fails_44 : decode cL_fails 44 = .ok (.ldc 40, 2) := by decide +kernel
theorem dL_fails_46 : decode cL_fails 46 = .ok (.if_icmp .ne 80, 3) := by decide +kernel
theorem dL_fails_49 : decode cL_fails 49 = .ok (.aload_n 0, 1) := by decide +kernel
theorem dL_fails_50 : decode cL_fails 50 = .ok (.iconst 0, 1) := by decide +kernel
theorem dL_fails_51 : decode cL_fails 51 = .ok (.bipush 7, 2) := by decide +kernel
theorem dL_fails_53 : decode cL_fails 53 = .ok (.invokestatic 188, 3) := by decide +kernel
theorem dL_fails_56 : decode cL_fails 56 = .ok (.ldc 15, 2) := by decide +kernel
theorem dL_fails_58 : decode cL_fails 58 = .ok (.if_icmp .ne 68, 3) := by decide +kernel
