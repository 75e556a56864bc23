theorem dL_hours_157 : decode cL_hours 157 = .ok (.invokestatic 198, 3) := by decide +kernel
theorem dL_hours_160 : decode cL_hours 160 = .ok (.ifCond .eq 7, 3) := by decide +kernel
theorem dL_hours_163 : decode cL_hours 163 = .ok (.iconst 1, 1) := by decide +kernel
theorem dL_hours_164 : decode cL_hours 164 = .ok (.goto 4, 3) := by decide +kernel
theorem dL_hours_167 : decode cL_hours 167 = .ok (.iconst 0, 1) := by decide +kernel
theorem dL_hours_168 : decode cL_hours 168 = .ok (.istore 11, 2) := by decide +kernel
theorem dL_hours_170 : decode cL_hours 170 = .ok (.iload 11, 2) := by decide +kernel
theorem dL_hours_172 : decode cL_hours 172 = .ok (.aload_n 0, 1) := by decide +kernel
theorem dL_hours_173 : decode cL_hours 173 = .ok (.bipush 15, 2) := by decide +kernel
theorem dL_hours_175 : decode cL_hours 175 = .ok (.iconst 0, 1) := by decide +kernel
theorem dL_hours_176 : decode cL_hours 176 = .ok (.iconst 0, 1) := by decide +kernel
theorem dL_hours_177 : decode cL_hours 177 = .ok (.iconst 0, 1) := by decide +kernel
theorem dL_hours_178 : decode cL_hours 178 = .ok (.iconst 0, 1) := by decide +kernel
theorem dL_hours_179 : decode cL_hours 179 = .ok (.invokestatic 180, 3) := by decide +kernel
theorem dL_hours_182 : decode cL_hours 182 = .ok (.ifCond .lt 16, 3) := by decide +kernel
theorem dL_hours_185 : decode cL_hours 185 = .ok (.aload_n 0, 1) := by decide +kernel
theorem dL_hours_186 : decode cL_hours 186 = .ok (.invokestatic 194, 3) := by decide +kernel
theorem dL_hours_189 : decode cL_hours 189 = .ok (.lload_n 3, 1) := by decide +kernel
theorem dL_hours_190 : decode cL_hours 190 = .ok (.lcmp, 1) := by decide +kernel
theorem dL_hours_191 : decode cL_hours 191 = .ok (.ifCond .ne 7, 3) := by decide +kernel
theorem dL_hours_194 : decode cL_hours 194 = .ok (.iconst 1, 1) := by decide +kernel
theorem dL_hours_195 : decode cL_hours 195 = .ok (.goto 4, 3) := by decide +kernel
theorem dL_hours_198 : decode cL_hours 198 = .ok (.iconst 0, 1) := by decide +kernel
theorem dL_hours_199 : decode cL_hours 199 = .ok (.iand, 1) := by decide +kernel
theorem dL_hours_200 : decode cL_hours 200 = .ok (.istore 11, 2) := by decide +kernel
theorem dL_hours_202 : decode cL_hours 202 = .ok (.iload 6, 2) := by decide +kernel
theorem dL_hours_204 : decode cL_hours 204 = .ok (.bipush (-9), 2) := by decide +kernel
theorem dL_hours_206 : decode cL_hours 206 = .ok (.if_icmp .eq 128, 3) := by decide +kernel
theorem dL_hours_209 : decode cL_hours 209 = .ok (.iload 11, 2) := by decide +kernel
theorem dL_hours_211 : decode cL_hours 211 = .ok (.ifCond .eq 123, 3) := by decide +kernel
theorem dL_hours_214 : decode cL_hours 214 = .ok (.iload 6, 2) := by decide +kernel
theorem dL_hours_216 : decode cL_hours 216 = .ok (.iconst 1, 1) := by decide +kernel
theorem dL_hours_217 : decode cL_hours 217 = .ok (.if_icmp .le 50, 3) := by decide +kernel
theorem dL_hours_220 : decode cL_hours 220 = .ok (.aload_n 0, 1) := by decide +kernel
theorem dL_hours_221 : decode cL_hours 221 = .ok (.bipush 14, 2) := by decide +kernel
theorem dL_hours_223 : decode cL_hours 223 = .ok (.iload 6, 2) := by decide +kernel
theorem dL_hours_225 : decode cL_hours 225 = .ok (.iconst 1, 1) := by decide +kernel
theorem dL_hours_226 : decode cL_hours 226 = .ok (.isub, 1) := by decide +kernel
theorem dL_hours_227 : decode cL_hours 227 = .ok (.iconst 0, 1) := by decide +kernel
theorem dL_hours_228 : decode cL_hours 228 = .ok (.iconst 0, 1) := by decide +kernel
theorem dL_hours_229 : decode cL_hours 229 = .ok (.iconst 0, 1) := by decide +kernel
theorem dL_hours_230 : decode cL_hours 230 = .ok (.invokestatic 180, 3) := by decide +kernel
theorem dL_hours_233 : decode cL_hours 233 = .ok (.ifCond .lt 31, 3) := by decide +kernel
theorem dL_hours_236 : decode cL_hours 236 = .ok (.aload_n 0, 1) := by decide +kernel
theorem dL_hours_237 : decode cL_hours 237 = .ok (.iload_n 1, 1) := by decide +kernel
theorem dL_hours_238 : decode cL_hours 238 = .ok (.iconst 3, 1) := by decide +kernel
theorem dL_hours_239 : decode cL_hours 239 = .ok (.invokestatic 190, 3) := by decide +kernel
theorem dL_hours_242 : decode cL_hours 242 = .ok (.iload 7, 2) := by decide +kernel
theorem dL_hours_244 : decode cL_hours 244 = .ok (.if_icmp .ne 20, 3) := by decide +kernel
theorem dL_hours_247 : decode cL_hours 247 = .ok (.aload_n 0, 1) := by decide +kernel
theorem dL_hours_248 : decode cL_hours 248 = .ok (.bipush 15, 2) := by decide +kernel
theorem dL_hours_250 : decode cL_hours 250 = .ok (.iconst 0, 1) := by decide +kernel
theorem dL_hours_251 : decode cL_hours 251 = .ok (.iconst 0, 1) := by decide +kernel
theorem dL_hours_252 : decode cL_hours 252 = .ok (.iconst 0, 1) := by decide +kernel
theorem dL_hours_253 : decode cL_hours 253 = .ok (.iconst 0, 1) := by decide +kernel
theorem dL_hours_254 : decode cL_hours 254 = .ok (.invokestatic 180, 3) := by decide +kernel
theorem dL_hours_257 : decode cL_hours 257 = .ok (.ifCond .lt 7, 3) := by decide +kernel
theorem dL_hours_260 : decode cL_hours 260 = .ok (.iconst 1, 1) := by decide +kernel
theorem dL_hours_261 : decode cL_hours 261 = .ok (.goto 4, 3) := by decide +kernel
theorem dL_hours_264 : decode cL_hours 264 = .ok (.iconst 0, 1) := by decide +kernel
theorem dL_hours_265 : decode cL_hours 265 = .ok (.istore 11, 2) := by decide +kernel
theorem dL_hours_267 : decode cL_hours 267 = .ok (.iload 11, 2) := by decide +kernel
theorem dL_hours_269 : decode cL_hours 269 = .ok (.ifCond .eq 62, 3) := by decide +kernel
theorem dL_hours_272 : decode cL_hours 272 = .ok (.aload_n 0, 1) := by decide +kernel
theorem dL_hours_273 : decode cL_hours 273 = .ok (.bipush 14, 2) := by decide +kernel
theorem dL_hours_275 : decode cL_hours 275 = .ok (.iload 6, 2) := by decide +kernel
theorem dL_hours_277 : decode cL_hours 277 = .ok (.iconst 0, 1) := by decide +kernel
theorem dL_hours_278 : decode cL_hours 278 = .ok (.iconst 0, 1) := by decide +kernel
theorem dL_hours_279 : decode cL_hours 279 = .ok (.iconst 0, 1) := by decide +kernel
theorem dL_hours_280 : decode cL_hours 280 = .ok (.invokestatic 180, 3) := by decide +kernel
theorem dL_hours_283 : decode cL_hours 283 = .ok (.ifCond .le 48, 3) := by decide +kernel
theorem dL_hours_286 : decode cL_hours 286 = .ok (.aload_n 0, 1) := by decide +kernel
theorem dL_hours_287 : decode cL_hours 287 = .ok (.iload_n 1, 1) := by decide +kernel
theorem dL_hours_288 : decode cL_hours 288 = .ok (.iconst 3, 1) := by decide +kernel
theorem dL_hours_289 : decode cL_hours 289 = .ok (.invokestatic 190, 3) := by decide +kernel
theorem dL_hours_292 : decode cL_hours 292 = .ok (.iload 7, 2) := by decide +kernel
theorem dL_hours_294 : decode cL_hours 294 = .ok (.iconst 1, 1) := by decide +kernel
theorem dL_hours_295 : decode cL_hours 295 = .ok (.iadd, 1) := by decide +kernel
theorem dL_hours_296 : decode cL_hours 296 = .ok (.if_icmp .ne 35, 3) := by decide +kernel
theorem dL_hours_299 : decode cL_hours 299 = .ok (.aload_n 0, 1) := by decide +kernel
theorem dL_hours_300 : decode cL_hours 300 = .ok (.iload_n 1, 1) := by decide +kernel
theorem dL_hours_301 : decode cL_hours 301 = .ok (.iconst 4, 1) := by decide +kernel
theorem dL_hours_302 : decode cL_hours 302 = .ok (.invokestatic 190, 3) := by decide +kernel
theorem dL_hours_305 : decode cL_hours 305 = .ok (.aload_n 0, 1) := by decide +kernel
theorem dL_hours_306 : decode cL_hours 306 = .ok (.bipush 7, 2) := by decide +kernel
theorem dL_hours_308 : decode cL_hours 308 = .ok (.invokestatic 186, 3) := by decide +kernel
theorem dL_hours_311 : decode cL_hours 311 = .ok (.if_icmp .lt 20, 3) := by decide +kernel
theorem dL_hours_314 : decode cL_hours 314 = .ok (.aload_n 0, 1) := by decide +kernel
theorem dL_hours_315 : decode cL_hours 315 = .ok (.bipush 15, 2) := by decide +kernel
theorem dL_hours_317 : decode cL_hours 317 = .ok (.iconst 0, 1) := by decide +kernel
theorem dL_hours_318 : decode cL_hours 318 = .ok (.iconst 0, 1) := by decide +kernel
theorem dL_hours_319 : decode cL_hours 319 = .ok (.iconst 0, 1) := by decide +kernel
theorem dL_hours_320 : decode cL_hours 320 = .ok (.iconst 0, 1) := by decide +kernel
theorem dL_hours_321 : decode cL_hours 321 = .ok (.invokestatic 180, 3) := by decide +kernel
theorem dL_hours_324 : decode cL_hours 324 = .ok (.ifCond .lt 7, 3) := by decide +kernel
theorem dL_hours_327 : decode cL_hours 327 = .ok (.iconst 1, 1) := by decide +kernel
theorem dL_hours_328 : decode cL_hours 328 = .ok (.goto 4, 3) := by decide +kernel
theorem dL_hours_331 : decode cL_hours 331 = .ok (.iconst 0, 1) := by decide +kernel
theorem dL_hours_332 : decode cL_hours 332 = .ok (.istore 11, 2) := by decide +kernel
theorem dL_hours_334 : decode cL_hours 334 = .ok (.iload 11, 2) := by decide +kernel
theorem dL_hours_336 : decode cL_hours 336 = .ok (.ifCond .eq 16, 3) := by decide +kernel
theorem dL_hours_339 : decode cL_hours 339 = .ok (.aload_n 0, 1) := by decide +kernel
theorem dL_hours_340 : decode cL_hours 340 = .ok (.invokestatic 194, 3) := by decide +kernel
theorem dL_hours_343 : decode cL_hours 343 = .ok (.lload_n 3, 1) := by decide +kernel
theorem dL_hours_344 : decode cL_hours 344 = .ok (.lcmp, 1) := by decide +kernel
theorem dL_hours_345 : decode cL_hours 345 = .ok (.ifCond .ne 7, 3) := by decide +kernel
theorem dL_hours_348 : decode cL_hours 348 = .ok (.iconst 1, 1) := by decide +kernel
theorem dL_hours_349 : decode cL_hours 349 = .ok (.goto 4, 3) := by decide +kernel
theorem dL_hours_352 : decode cL_hours 352 = .ok (.iconst 0, 1) := by decide +kernel
theorem dL_hours_353 : decode cL_hours 353 = .ok (.ireturn, 1) := by decide +kernel
theorem dL_limits_0 : decode cL_limits 0 = .ok (.aload_n 0, 1) := by decide +kernel
theorem dL_limits_1 : decode cL_limits 1 = .ok (.invokestatic 194, 3) := by decide +kernel
theorem dL_limits_4 : decode cL_limits 4 = .ok (.lstore_n 2, 1) := by decide +kernel
theorem dL_limits_5 : decode cL_limits 5 = .ok (.aload_n 0, 1) := by decide +kernel
theorem dL_limits_6 : decode cL_limits 6 = .ok (.iload_n 1, 1) := by decide +kernel
theorem dL_limits_7 : decode cL_limits 7 = .ok (.iconst 0, 1) := by decide +kernel
theorem dL_limits_8 : decode cL_limits 8 = .ok (.invokestatic 190, 3) := by decide +kernel
theorem dL_limits_11 : decode cL_limits 11 = .ok (.istore 4, 2) := by decide +kernel
theorem dL_limits_13 : decode cL_limits 13 = .ok (.aload_n 0, 1) := by decide +kernel
theorem dL_limits_14 : decode cL_limits 14 = .ok (.bipush 19, 2) := by decide +kernel
theorem dL_limits_16 : decode cL_limits 16 = .ok (.iload_n 1, 1) := by decide +kernel
theorem dL_limits_17 : decode cL_limits 17 = .ok (.iconst 0, 1) := by decide +kernel
theorem dL_limits_18 : decode cL_limits 18 = .ok (.iconst 0, 1) := by decide +kernel
theorem dL_limits_19 : decode cL_limits 19 = .ok (.iconst 0, 1) := by decide +kernel
theorem dL_limits_20 : decode cL_limits 20 = .ok (.invokestatic 180, 3) := by decide +kernel
theorem dL_limits_23 : decode cL_limits 23 = .ok (.istore 5, 2) := by decide +kernel
theorem dL_limits_25 : decode cL_limits 25 = .ok (.iconst 5, 1) := by decide +kernel
theorem dL_limits_26 : decode cL_limits 26 = .ok (.aload_n 0, 1) := by decide +kernel
theorem dL_limits_27 : decode cL_limits 27 = .ok (.iload 4, 2) := by decide +kernel
theorem dL_limits_29 : decode cL_limits 29 = .ok (.iconst 2, 1) := by decide +kernel
theorem dL_limits_30 : decode cL_limits 30 = .ok (.invokestatic 188, 3) := by decide +kernel
theorem dL_limits_33 : decode cL_limits 33 = .ok (.isub, 1) := by decide +kernel
theorem dL_limits_34 : decode cL_limits 34 = .ok (.istore 6, 2) := by decide +kernel
theorem dL_limits_36 : decode cL_limits 36 = .ok (.aload_n 0, 1) := by decide +kernel
theorem dL_limits_37 : decode cL_limits 37 = .ok (.iload_n 1, 1) := by decide +kernel
theorem dL_limits_38 : decode cL_limits 38 = .ok (.iconst 3, 1) := by decide +kernel
theorem dL_limits_39 : decode cL_limits 39 = .ok (.invokestatic 190, 3) := by decide +kernel
theorem dL_limits_42 : decode cL_limits 42 = .ok (.istore 7, 2) := by decide +kernel
theorem dL_limits_44 : decode cL_limits 44 = .ok (.iload 5, 2) := by decide +kernel
theorem dL_limits_46 : decode cL_limits 46 = .ok (.bipush (-9), 2) := by decide +kernel
theorem dL_limits_48 : decode cL_limits 48 = .ok (.if_icmp .eq 16, 3) := by decide +kernel
theorem dL_limits_51 : decode cL_limits 51 = .ok (.iload 5, 2) := by decide +kernel
theorem dL_limits_53 : decode cL_limits 53 = .ok (.iconst 1, 1) := by decide +kernel
theorem dL_limits_54 : decode cL_limits 54 = .ok (.if_icmp .lt 14, 3) := by decide +kernel
theorem dL_limits_57 : decode cL_limits 57 = .ok (.iload 5, 2) := by decide +kernel
theorem dL_limits_59 : decode cL_limits 59 = .ok (.iload 6, 2) := by decide +kernel
theorem dL_limits_61 : decode cL_limits 61 = .ok (.if_icmp .gt 7, 3) := by decide +kernel
theorem dL_limits_64 : decode cL_limits 64 = .ok (.iconst 1, 1) := by decide +kernel
theorem dL_limits_65 : decode cL_limits 65 = .ok (.goto 4, 3) := by decide +kernel
theorem dL_limits_68 : decode cL_limits 68 = .ok (.iconst 0, 1) := by decide +kernel
theorem dL_limits_69 : decode cL_limits 69 = .ok (.istore 8, 2) := by decide +kernel
theorem dL_limits_71 : decode cL_limits 71 = .ok (.iload 5, 2) := by decide +kernel
theorem dL_limits_73 : decode cL_limits 73 = .ok (.bipush (-9), 2) := by decide +kernel
theorem dL_limits_75 : decode cL_limits 75 = .ok (.if_icmp .eq 78, 3) := by decide +kernel
theorem dL_limits_78 : decode cL_limits 78 = .ok (.iload 8, 2) := by decide +kernel
theorem dL_limits_80 : decode cL_limits 80 = .ok (.aload_n 0, 1) := by decide +kernel
theorem dL_limits_81 : decode cL_limits 81 = .ok (.bipush 9, 2) := by decide +kernel
theorem dL_limits_83 : decode cL_limits 83 = .ok (.iload 4, 2) := by decide +kernel
theorem dL_limits_85 : decode cL_limits 85 = .ok (.iload 5, 2) := by decide +kernel
theorem dL_limits_87 : decode cL_limits 87 = .ok (.iconst 0, 1) := by decide +kernel
theorem dL_limits_88 : decode cL_limits 88 = .ok (.iconst 0, 1) := by decide +kernel
theorem dL_limits_89 : decode cL_limits 89 = .ok (.invokestatic 180, 3) := by decide +kernel
theorem dL_limits_92 : decode cL_limits 92 = .ok (.ifCond .le 57, 3) := by decide +kernel
theorem dL_limits_95 : decode cL_limits 95 = .ok (.aload_n 0, 1) := by decide +kernel
theorem dL_limits_96 : decode cL_limits 96 = .ok (.bipush 14, 2) := by decide +kernel
theorem dL_limits_98 : decode cL_limits 98 = .ok (.iconst 1, 1) := by decide +kernel
theorem dL_limits_99 : decode cL_limits 99 = .ok (.iconst 0, 1) := by decide +kernel
theorem dL_limits_100 : decode cL_limits 100 = .ok (.iconst 0, 1) := by decide +kernel
theorem dL_limits_101 : decode cL_limits 101 = .ok (.iconst 0, 1) := by decide +kernel
theorem dL_limits_102 : decode cL_limits 102 = .ok (.invokestatic 180, 3) := by decide +kernel
theorem dL_limits_105 : decode cL_limits 105 = .ok (.ifCond .lt 44, 3) := by decide +kernel
theorem dL_limits_108 : decode cL_limits 108 = .ok (.aload_n 0, 1) := by decide +kernel
theorem dL_limits_109 : decode cL_limits 109 = .ok (.iload_n 1, 1) := by decide +kernel
theorem dL_limits_110 : decode cL_limits 110 = .ok (.iconst 3, 1) := by decide +kernel
theorem dL_limits_111 : decode cL_limits 111 = .ok (.invokestatic 190, 3) := by decide +kernel
theorem dL_limits_114 : decode cL_limits 114 = .ok (.iload 7, 2) := by decide +kernel
theorem dL_limits_116 : decode cL_limits 116 = .ok (.if_icmp .ne 33, 3) := by decide +kernel
theorem dL_limits_119 : decode cL_limits 119 = .ok (.aload_n 0, 1) := by decide +kernel
theorem dL_limits_120 : decode cL_limits 120 = .ok (.bipush 15, 2) := by decide +kernel
theorem dL_limits_122 : decode cL_limits 122 = .ok (.iconst 0, 1) := by decide +kernel
theorem dL_limits_123 : decode cL_limits 123 = .ok (.iconst 0, 1) := by decide +kernel
theorem dL_limits_124 : decode cL_limits 124 = .ok (.iconst 0, 1) := by decide +kernel
theorem dL_limits_125 : decode cL_limits 125 = .ok (.iconst 0, 1) := by decide +kernel
theorem dL_limits_126 : decode cL_limits 126 = .ok (.invokestatic 180, 3) := by decide +kernel
theorem dL_limits_129 : decode cL_limits 129 = .ok (.ifCond .lt 20, 3) := by decide +kernel
theorem dL_limits_132 : decode cL_limits 132 = .ok (.aload_n 0, 1) := by decide +kernel
theorem dL_limits_133 : decode cL_limits 133 = .ok (.bipush 15, 2) := by decide +kernel
theorem dL_limits_135 : decode cL_limits 135 = .ok (.iconst 0, 1) := by decide +kernel
theorem dL_limits_136 : decode cL_limits 136 = .ok (.iconst 0, 1) := by decide +kernel
theorem dL_limits_137 : decode cL_limits 137 = .ok (.iconst 0, 1) := by decide +kernel
theorem dL_limits_138 : decode cL_limits 138 = .ok (.iconst 0, 1) := by decide +kernel
theorem dL_limits_139 : decode cL_limits 139 = .ok (.invokestatic 180, 3) := by decide +kernel
theorem dL_limits_142 : decode cL_limits 142 = .ok (.ifCond .lt 7, 3) := by decide +kernel
theorem dL_limits_145 : decode cL_limits 145 = .ok (.iconst 1, 1) := by decide +kernel
theorem dL_limits_146 : decode cL_limits 146 = .ok (.goto 4, 3) := by decide +kernel
theorem dL_limits_149 : decode cL_limits 149 = .ok (.iconst 0, 1) := by decide +kernel
theorem dL_limits_150 : decode cL_limits 150 = .ok (.iand, 1) := by decide +kernel
theorem dL_limits_151 : decode cL_limits 151 = .ok (.istore 8, 2) := by decide +kernel
theorem dL_limits_153 : decode cL_limits 153 = .ok (.iload 5, 2) := by decide +kernel
theorem dL_limits_155 : decode cL_limits 155 = .ok (.bipush (-9), 2) := by decide +kernel
