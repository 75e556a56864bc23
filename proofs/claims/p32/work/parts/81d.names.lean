theorem dL_numbers_178 : decode cL_numbers 178 = .ok (.iload 5, 2) := by decide +kernel
theorem dL_numbers_180 : decode cL_numbers 180 = .ok (.iconst 3, 1) := by decide +kernel
theorem dL_numbers_181 : decode cL_numbers 181 = .ok (.invokestatic 190, 3) := by decide +kernel
theorem dL_numbers_184 : decode cL_numbers 184 = .ok (.iadd, 1) := by decide +kernel
theorem dL_numbers_185 : decode cL_numbers 185 = .ok (.istore_n 3, 1) := by decide +kernel
theorem dL_numbers_186 : decode cL_numbers 186 = .ok (.iload_n 1, 1) := by decide +kernel
theorem dL_numbers_187 : decode cL_numbers 187 = .ok (.aload_n 0, 1) := by decide +kernel
theorem dL_numbers_188 : decode cL_numbers 188 = .ok (.iload 5, 2) := by decide +kernel
theorem dL_numbers_190 : decode cL_numbers 190 = .ok (.iconst 2, 1) := by decide +kernel
theorem dL_numbers_191 : decode cL_numbers 191 = .ok (.invokestatic 190, 3) := by decide +kernel
theorem dL_numbers_194 : decode cL_numbers 194 = .ok (.aload_n 0, 1) := by decide +kernel
theorem dL_numbers_195 : decode cL_numbers 195 = .ok (.iload 5, 2) := by decide +kernel
theorem dL_numbers_197 : decode cL_numbers 197 = .ok (.iconst 4, 1) := by decide +kernel
theorem dL_numbers_198 : decode cL_numbers 198 = .ok (.invokestatic 190, 3) := by decide +kernel
theorem dL_numbers_201 : decode cL_numbers 201 = .ok (.if_icmp .lt 17, 3) := by decide +kernel
theorem dL_numbers_204 : decode cL_numbers 204 = .ok (.aload_n 0, 1) := by decide +kernel
theorem dL_numbers_205 : decode cL_numbers 205 = .ok (.iload 5, 2) := by decide +kernel
theorem dL_numbers_207 : decode cL_numbers 207 = .ok (.iconst 4, 1) := by decide +kernel
theorem dL_numbers_208 : decode cL_numbers 208 = .ok (.invokestatic 190, 3) := by decide +kernel
theorem dL_numbers_211 : decode cL_numbers 211 = .ok (.ifCond .lt 7, 3) := by decide +kernel
theorem dL_numbers_214 : decode cL_numbers 214 = .ok (.iconst 1, 1) := by decide +kernel
theorem dL_numbers_215 : decode cL_numbers 215 = .ok (.goto 4, 3) := by decide +kernel
theorem dL_numbers_218 : decode cL_numbers 218 = .ok (.iconst 0, 1) := by decide +kernel
theorem dL_numbers_219 : decode cL_numbers 219 = .ok (.iand, 1) := by decide +kernel
theorem dL_numbers_220 : decode cL_numbers 220 = .ok (.istore_n 1, 1) := by decide +kernel
theorem dL_numbers_221 : decode cL_numbers 221 = .ok (.iinc 5 1, 3) := by decide +kernel
theorem dL_numbers_224 : decode cL_numbers 224 = .ok (.goto (-58), 3) := by decide +kernel
theorem dL_numbers_227 : decode cL_numbers 227 = .ok (.iconst 0, 1) := by decide +kernel
theorem dL_numbers_228 : decode cL_numbers 228 = .ok (.istore 5, 2) := by decide +kernel
theorem dL_numbers_230 : decode cL_numbers 230 = .ok (.iload 5, 2) := by decide +kernel
theorem dL_numbers_232 : decode cL_numbers 232 = .ok (.aload_n 0, 1) := by decide +kernel
theorem dL_numbers_233 : decode cL_numbers 233 = .ok (.iconst 2, 1) := by decide +kernel
theorem dL_numbers_234 : decode cL_numbers 234 = .ok (.invokestatic 186, 3) := by decide +kernel
theorem dL_numbers_237 : decode cL_numbers 237 = .ok (.if_icmp .ge 60, 3) := by decide +kernel
theorem dL_numbers_240 : decode cL_numbers 240 = .ok (.iload_n 1, 1) := by decide +kernel
theorem dL_numbers_241 : decode cL_numbers 241 = .ok (.aload_n 0, 1) := by decide +kernel
theorem dL_numbers_242 : decode cL_numbers 242 = .ok (.iload 5, 2) := by decide +kernel
theorem dL_numbers_244 : decode cL_numbers 244 = .ok (.iconst 1, 1) := by decide +kernel
theorem dL_numbers_245 : decode cL_numbers 245 = .ok (.invokestatic 192, 3) := by decide +kernel
theorem dL_numbers_248 : decode cL_numbers 248 = .ok (.ifCond .lt 40, 3) := by decide +kernel
theorem dL_numbers_251 : decode cL_numbers 251 = .ok (.aload_n 0, 1) := by decide +kernel
theorem dL_numbers_252 : decode cL_numbers 252 = .ok (.iload 5, 2) := by decide +kernel
theorem dL_numbers_254 : decode cL_numbers 254 = .ok (.iconst 1, 1) := by decide +kernel
theorem dL_numbers_255 : decode cL_numbers 255 = .ok (.invokestatic 192, 3) := by decide +kernel
theorem dL_numbers_258 : decode cL_numbers 258 = .ok (.bipush 20, 2) := by decide +kernel
theorem dL_numbers_260 : decode cL_numbers 260 = .ok (.if_icmp .gt 28, 3) := by decide +kernel
theorem dL_numbers_263 : decode cL_numbers 263 = .ok (.aload_n 0, 1) := by decide +kernel
theorem dL_numbers_264 : decode cL_numbers 264 = .ok (.iload 5, 2) := by decide +kernel
theorem dL_numbers_266 : decode cL_numbers 266 = .ok (.iconst 2, 1) := by decide +kernel
theorem dL_numbers_267 : decode cL_numbers 267 = .ok (.invokestatic 192, 3) := by decide +kernel
theorem dL_numbers_270 : decode cL_numbers 270 = .ok (.ifCond .lt 18, 3) := by decide +kernel
theorem dL_numbers_273 : decode cL_numbers 273 = .ok (.aload_n 0, 1) := by decide +kernel
theorem dL_numbers_274 : decode cL_numbers 274 = .ok (.iload 5, 2) := by decide +kernel
theorem dL_numbers_276 : decode cL_numbers 276 = .ok (.iconst 2, 1) := by decide +kernel
theorem dL_numbers_277 : decode cL_numbers 277 = .ok (.invokestatic 192, 3) := by decide +kernel
theorem dL_numbers_280 : decode cL_numbers 280 = .ok (.iconst 4, 1) := by decide +kernel
theorem dL_numbers_281 : decode cL_numbers 281 = .ok (.if_icmp .gt 7, 3) := by decide +kernel
theorem dL_numbers_284 : decode cL_numbers 284 = .ok (.iconst 1, 1) := by decide +kernel
theorem dL_numbers_285 : decode cL_numbers 285 = .ok (.goto 4, 3) := by decide +kernel
theorem dL_numbers_288 : decode cL_numbers 288 = .ok (.iconst 0, 1) := by decide +kernel
theorem dL_numbers_289 : decode cL_numbers 289 = .ok (.iand, 1) := by decide +kernel
theorem dL_numbers_290 : decode cL_numbers 290 = .ok (.istore_n 1, 1) := by decide +kernel
theorem dL_numbers_291 : decode cL_numbers 291 = .ok (.iinc 5 1, 3) := by decide +kernel
theorem dL_numbers_294 : decode cL_numbers 294 = .ok (.goto (-64), 3) := by decide +kernel
theorem dL_numbers_297 : decode cL_numbers 297 = .ok (.iload_n 1, 1) := by decide +kernel
theorem dL_numbers_298 : decode cL_numbers 298 = .ok (.ifCond .eq 43, 3) := by decide +kernel
theorem dL_numbers_301 : decode cL_numbers 301 = .ok (.iload_n 2, 1) := by decide +kernel
theorem dL_numbers_302 : decode cL_numbers 302 = .ok (.aload_n 0, 1) := by decide +kernel
theorem dL_numbers_303 : decode cL_numbers 303 = .ok (.bipush 10, 2) := by decide +kernel
theorem dL_numbers_305 : decode cL_numbers 305 = .ok (.invokestatic 186, 3) := by decide +kernel
theorem dL_numbers_308 : decode cL_numbers 308 = .ok (.if_icmp .ne 33, 3) := by decide +kernel
theorem dL_numbers_311 : decode cL_numbers 311 = .ok (.iload_n 3, 1) := by decide +kernel
theorem dL_numbers_312 : decode cL_numbers 312 = .ok (.iload_n 2, 1) := by decide +kernel
theorem dL_numbers_313 : decode cL_numbers 313 = .ok (.if_icmp .ne 28, 3) := by decide +kernel
theorem dL_numbers_316 : decode cL_numbers 316 = .ok (.iload 4, 2) := by decide +kernel
theorem dL_numbers_318 : decode cL_numbers 318 = .ok (.aload_n 0, 1) := by decide +kernel
theorem dL_numbers_319 : decode cL_numbers 319 = .ok (.bipush 12, 2) := by decide +kernel
theorem dL_numbers_321 : decode cL_numbers 321 = .ok (.invokestatic 186, 3) := by decide +kernel
theorem dL_numbers_324 : decode cL_numbers 324 = .ok (.if_icmp .ne 17, 3) := by decide +kernel
theorem dL_numbers_327 : decode cL_numbers 327 = .ok (.aload_n 0, 1) := by decide +kernel
theorem dL_numbers_328 : decode cL_numbers 328 = .ok (.iconst 4, 1) := by decide +kernel
theorem dL_numbers_329 : decode cL_numbers 329 = .ok (.invokestatic 186, 3) := by decide +kernel
theorem dL_numbers_332 : decode cL_numbers 332 = .ok (.bipush 10, 2) := by decide +kernel
theorem dL_numbers_334 : decode cL_numbers 334 = .ok (.if_icmp .ge 7, 3) := by decide +kernel
theorem dL_numbers_337 : decode cL_numbers 337 = .ok (.iconst 1, 1) := by decide +kernel
theorem dL_numbers_338 : decode cL_numbers 338 = .ok (.goto 4, 3) := by decide +kernel
theorem dL_numbers_341 : decode cL_numbers 341 = .ok (.iconst 0, 1) := by decide +kernel
theorem dL_numbers_342 : decode cL_numbers 342 = .ok (.ireturn, 1) := by decide +kernel
theorem dL_latest_0 : decode cL_latest 0 = .ok (.iconst 0, 1) := by decide +kernel
theorem dL_latest_1 : decode cL_latest 1 = .ok (.istore_n 1, 1) := by decide +kernel
theorem dL_latest_2 : decode cL_latest 2 = .ok (.iconst 0, 1) := by decide +kernel
theorem dL_latest_3 : decode cL_latest 3 = .ok (.istore_n 2, 1) := by decide +kernel
theorem dL_latest_4 : decode cL_latest 4 = .ok (.iload_n 2, 1) := by decide +kernel
theorem dL_latest_5 : decode cL_latest 5 = .ok (.aload_n 0, 1) := by decide +kernel
theorem dL_latest_6 : decode cL_latest 6 = .ok (.iconst 1, 1) := by decide +kernel
theorem dL_latest_7 : decode cL_latest 7 = .ok (.invokestatic 186, 3) := by decide +kernel
theorem dL_latest_10 : decode cL_latest 10 = .ok (.if_icmp .ge 18, 3) := by decide +kernel
theorem dL_latest_13 : decode cL_latest 13 = .ok (.iload_n 1, 1) := by decide +kernel
theorem dL_latest_14 : decode cL_latest 14 = .ok (.aload_n 0, 1) := by decide +kernel
theorem dL_latest_15 : decode cL_latest 15 = .ok (.iload_n 2, 1) := by decide +kernel
theorem dL_latest_16 : decode cL_latest 16 = .ok (.iconst 4, 1) := by decide +kernel
theorem dL_latest_17 : decode cL_latest 17 = .ok (.invokestatic 190, 3) := by decide +kernel
theorem dL_latest_20 : decode cL_latest 20 = .ok (.iadd, 1) := by decide +kernel
theorem dL_latest_21 : decode cL_latest 21 = .ok (.istore_n 1, 1) := by decide +kernel
theorem dL_latest_22 : decode cL_latest 22 = .ok (.iinc 2 1, 3) := by decide +kernel
theorem dL_latest_25 : decode cL_latest 25 = .ok (.goto (-21), 3) := by decide +kernel
theorem dL_latest_28 : decode cL_latest 28 = .ok (.iload_n 1, 1) := by decide +kernel
theorem dL_latest_29 : decode cL_latest 29 = .ok (.ireturn, 1) := by decide +kernel
theorem dL_hours_0 : decode cL_hours 0 = .ok (.aload_n 0, 1) := by decide +kernel
theorem dL_hours_1 : decode cL_hours 1 = .ok (.invokestatic 194, 3) := by decide +kernel
theorem dL_hours_4 : decode cL_hours 4 = .ok (.lstore_n 3, 1) := by decide +kernel
theorem dL_hours_5 : decode cL_hours 5 = .ok (.aload_n 0, 1) := by decide +kernel
theorem dL_hours_6 : decode cL_hours 6 = .ok (.bipush 17, 2) := by decide +kernel
theorem dL_hours_8 : decode cL_hours 8 = .ok (.iload_n 1, 1) := by decide +kernel
theorem dL_hours_9 : decode cL_hours 9 = .ok (.iload_n 2, 1) := by decide +kernel
theorem dL_hours_10 : decode cL_hours 10 = .ok (.iconst 0, 1) := by decide +kernel
theorem dL_hours_11 : decode cL_hours 11 = .ok (.iconst 0, 1) := by decide +kernel
theorem dL_hours_12 : decode cL_hours 12 = .ok (.invokestatic 180, 3) := by decide +kernel
theorem dL_hours_15 : decode cL_hours 15 = .ok (.istore 5, 2) := by decide +kernel
theorem dL_hours_17 : decode cL_hours 17 = .ok (.aload_n 0, 1) := by decide +kernel
theorem dL_hours_18 : decode cL_hours 18 = .ok (.bipush 21, 2) := by decide +kernel
theorem dL_hours_20 : decode cL_hours 20 = .ok (.iload_n 1, 1) := by decide +kernel
theorem dL_hours_21 : decode cL_hours 21 = .ok (.iconst 0, 1) := by decide +kernel
theorem dL_hours_22 : decode cL_hours 22 = .ok (.iconst 0, 1) := by decide +kernel
theorem dL_hours_23 : decode cL_hours 23 = .ok (.iconst 0, 1) := by decide +kernel
theorem dL_hours_24 : decode cL_hours 24 = .ok (.invokestatic 180, 3) := by decide +kernel
theorem dL_hours_27 : decode cL_hours 27 = .ok (.istore 6, 2) := by decide +kernel
theorem dL_hours_29 : decode cL_hours 29 = .ok (.aload_n 0, 1) := by decide +kernel
theorem dL_hours_30 : decode cL_hours 30 = .ok (.iload_n 1, 1) := by decide +kernel
theorem dL_hours_31 : decode cL_hours 31 = .ok (.iconst 3, 1) := by decide +kernel
theorem dL_hours_32 : decode cL_hours 32 = .ok (.invokestatic 190, 3) := by decide +kernel
theorem dL_hours_35 : decode cL_hours 35 = .ok (.istore 7, 2) := by decide +kernel
theorem dL_hours_37 : decode cL_hours 37 = .ok (.aload_n 0, 1) := by decide +kernel
theorem dL_hours_38 : decode cL_hours 38 = .ok (.bipush 10, 2) := by decide +kernel
theorem dL_hours_40 : decode cL_hours 40 = .ok (.invokestatic 186, 3) := by decide +kernel
theorem dL_hours_43 : decode cL_hours 43 = .ok (.istore 8, 2) := by decide +kernel
theorem dL_hours_45 : decode cL_hours 45 = .ok (.bipush 10, 2) := by decide +kernel
theorem dL_hours_47 : decode cL_hours 47 = .ok (.aload_n 0, 1) := by decide +kernel
theorem dL_hours_48 : decode cL_hours 48 = .ok (.iconst 3, 1) := by decide +kernel
theorem dL_hours_49 : decode cL_hours 49 = .ok (.invokestatic 186, 3) := by decide +kernel
theorem dL_hours_52 : decode cL_hours 52 = .ok (.imul, 1) := by decide +kernel
theorem dL_hours_53 : decode cL_hours 53 = .ok (.aload_n 0, 1) := by decide +kernel
theorem dL_hours_54 : decode cL_hours 54 = .ok (.iconst 4, 1) := by decide +kernel
theorem dL_hours_55 : decode cL_hours 55 = .ok (.invokestatic 186, 3) := by decide +kernel
theorem dL_hours_58 : decode cL_hours 58 = .ok (.iadd, 1) := by decide +kernel
theorem dL_hours_59 : decode cL_hours 59 = .ok (.istore 9, 2) := by decide +kernel
theorem dL_hours_61 : decode cL_hours 61 = .ok (.aload_n 0, 1) := by decide +kernel
theorem dL_hours_62 : decode cL_hours 62 = .ok (.bipush 14, 2) := by decide +kernel
theorem dL_hours_64 : decode cL_hours 64 = .ok (.iload_n 2, 1) := by decide +kernel
theorem dL_hours_65 : decode cL_hours 65 = .ok (.iconst 0, 1) := by decide +kernel
theorem dL_hours_66 : decode cL_hours 66 = .ok (.iconst 0, 1) := by decide +kernel
theorem dL_hours_67 : decode cL_hours 67 = .ok (.iconst 0, 1) := by decide +kernel
theorem dL_hours_68 : decode cL_hours 68 = .ok (.invokestatic 180, 3) := by decide +kernel
theorem dL_hours_71 : decode cL_hours 71 = .ok (.istore 10, 2) := by decide +kernel
theorem dL_hours_73 : decode cL_hours 73 = .ok (.aload_n 0, 1) := by decide +kernel
theorem dL_hours_74 : decode cL_hours 74 = .ok (.iload_n 1, 1) := by decide +kernel
theorem dL_hours_75 : decode cL_hours 75 = .ok (.iconst 4, 1) := by decide +kernel
theorem dL_hours_76 : decode cL_hours 76 = .ok (.invokestatic 190, 3) := by decide +kernel
theorem dL_hours_79 : decode cL_hours 79 = .ok (.iload 5, 2) := by decide +kernel
theorem dL_hours_81 : decode cL_hours 81 = .ok (.if_icmp .ne 86, 3) := by decide +kernel
theorem dL_hours_84 : decode cL_hours 84 = .ok (.iload 10, 2) := by decide +kernel
theorem dL_hours_86 : decode cL_hours 86 = .ok (.aload_n 0, 1) := by decide +kernel
theorem dL_hours_87 : decode cL_hours 87 = .ok (.bipush 10, 2) := by decide +kernel
theorem dL_hours_89 : decode cL_hours 89 = .ok (.invokestatic 186, 3) := by decide +kernel
theorem dL_hours_92 : decode cL_hours 92 = .ok (.iload 8, 2) := by decide +kernel
theorem dL_hours_94 : decode cL_hours 94 = .ok (.isub, 1) := by decide +kernel
theorem dL_hours_95 : decode cL_hours 95 = .ok (.if_icmp .ne 72, 3) := by decide +kernel
theorem dL_hours_98 : decode cL_hours 98 = .ok (.aload_n 0, 1) := by decide +kernel
theorem dL_hours_99 : decode cL_hours 99 = .ok (.iload_n 1, 1) := by decide +kernel
theorem dL_hours_100 : decode cL_hours 100 = .ok (.iconst 3, 1) := by decide +kernel
theorem dL_hours_101 : decode cL_hours 101 = .ok (.invokestatic 190, 3) := by decide +kernel
theorem dL_hours_104 : decode cL_hours 104 = .ok (.iload 7, 2) := by decide +kernel
theorem dL_hours_106 : decode cL_hours 106 = .ok (.if_icmp .le 7, 3) := by decide +kernel
theorem dL_hours_109 : decode cL_hours 109 = .ok (.iconst 1, 1) := by decide +kernel
theorem dL_hours_110 : decode cL_hours 110 = .ok (.goto 4, 3) := by decide +kernel
theorem dL_hours_113 : decode cL_hours 113 = .ok (.iconst 0, 1) := by decide +kernel
theorem dL_hours_114 : decode cL_hours 114 = .ok (.iload 6, 2) := by decide +kernel
theorem dL_hours_116 : decode cL_hours 116 = .ok (.bipush (-9), 2) := by decide +kernel
theorem dL_hours_118 : decode cL_hours 118 = .ok (.if_icmp .eq 13, 3) := by decide +kernel
theorem dL_hours_121 : decode cL_hours 121 = .ok (.iload 6, 2) := by decide +kernel
theorem dL_hours_123 : decode cL_hours 123 = .ok (.iload_n 2, 1) := by decide +kernel
theorem dL_hours_124 : decode cL_hours 124 = .ok (.if_icmp .gt 7, 3) := by decide +kernel
theorem dL_hours_127 : decode cL_hours 127 = .ok (.iconst 1, 1) := by decide +kernel
theorem dL_hours_128 : decode cL_hours 128 = .ok (.goto 4, 3) := by decide +kernel
theorem dL_hours_131 : decode cL_hours 131 = .ok (.iconst 0, 1) := by decide +kernel
theorem dL_hours_132 : decode cL_hours 132 = .ok (.if_icmp .ne 35, 3) := by decide +kernel
theorem dL_hours_135 : decode cL_hours 135 = .ok (.bipush 10, 2) := by decide +kernel
theorem dL_hours_137 : decode cL_hours 137 = .ok (.aload_n 0, 1) := by decide +kernel
theorem dL_hours_138 : decode cL_hours 138 = .ok (.iconst 3, 1) := by decide +kernel
theorem dL_hours_139 : decode cL_hours 139 = .ok (.invokestatic 186, 3) := by decide +kernel
theorem dL_hours_142 : decode cL_hours 142 = .ok (.imul, 1) := by decide +kernel
theorem dL_hours_143 : decode cL_hours 143 = .ok (.aload_n 0, 1) := by decide +kernel
theorem dL_hours_144 : decode cL_hours 144 = .ok (.iconst 4, 1) := by decide +kernel
theorem dL_hours_145 : decode cL_hours 145 = .ok (.invokestatic 186, 3) := by decide +kernel
theorem dL_hours_148 : decode cL_hours 148 = .ok (.iadd, 1) := by decide +kernel
theorem dL_hours_149 : decode cL_hours 149 = .ok (.iload 9, 2) := by decide +kernel
theorem dL_hours_151 : decode cL_hours 151 = .ok (.iload_n 2, 1) := by decide +kernel
theorem dL_hours_152 : decode cL_hours 152 = .ok (.iadd, 1) := by decide +kernel
theorem dL_hours_153 : decode cL_hours 153 = .ok (.if_icmp .ne 14, 3) := by decide +kernel
theorem dL_hours_156 : decode cL_hours 156 = .ok (.aload_n 0, 1) := by decide +kernel
