theorem dL_water_235 : decode cL_water 235 = .ok (.iand, 1) := by decide +kernel
theorem dL_water_236 : decode cL_water 236 = .ok (.istore 8, 2) := by decide +kernel
theorem dL_water_238 : decode cL_water 238 = .ok (.iload 5, 2) := by decide +kernel
theorem dL_water_240 : decode cL_water 240 = .ok (.ifCond .le 94, 3) := by decide +kernel
theorem dL_water_243 : decode cL_water 243 = .ok (.iload 8, 2) := by decide +kernel
theorem dL_water_245 : decode cL_water 245 = .ok (.iload 5, 2) := by decide +kernel
theorem dL_water_247 : decode cL_water 247 = .ok (.iconst 1, 1) := by decide +kernel
theorem dL_water_248 : decode cL_water 248 = .ok (.if_icmp .eq 20, 3) := by decide +kernel
theorem dL_water_251 : decode cL_water 251 = .ok (.aload_n 0, 1) := by decide +kernel
theorem dL_water_252 : decode cL_water 252 = .ok (.bipush 12, 2) := by decide +kernel
theorem dL_water_254 : decode cL_water 254 = .ok (.iload 7, 2) := by decide +kernel
theorem dL_water_256 : decode cL_water 256 = .ok (.iload 5, 2) := by decide +kernel
theorem dL_water_258 : decode cL_water 258 = .ok (.iconst 1, 1) := by decide +kernel
theorem dL_water_259 : decode cL_water 259 = .ok (.isub, 1) := by decide +kernel
theorem dL_water_260 : decode cL_water 260 = .ok (.iconst 0, 1) := by decide +kernel
theorem dL_water_261 : decode cL_water 261 = .ok (.iconst 0, 1) := by decide +kernel
theorem dL_water_262 : decode cL_water 262 = .ok (.invokestatic 180, 3) := by decide +kernel
theorem dL_water_265 : decode cL_water 265 = .ok (.ifCond .lt 65, 3) := by decide +kernel
theorem dL_water_268 : decode cL_water 268 = .ok (.aload_n 0, 1) := by decide +kernel
theorem dL_water_269 : decode cL_water 269 = .ok (.bipush 14, 2) := by decide +kernel
theorem dL_water_271 : decode cL_water 271 = .ok (.iconst 1, 1) := by decide +kernel
theorem dL_water_272 : decode cL_water 272 = .ok (.iconst 0, 1) := by decide +kernel
theorem dL_water_273 : decode cL_water 273 = .ok (.iconst 0, 1) := by decide +kernel
theorem dL_water_274 : decode cL_water 274 = .ok (.iconst 0, 1) := by decide +kernel
theorem dL_water_275 : decode cL_water 275 = .ok (.invokestatic 180, 3) := by decide +kernel
theorem dL_water_278 : decode cL_water 278 = .ok (.ifCond .le 52, 3) := by decide +kernel
theorem dL_water_281 : decode cL_water 281 = .ok (.aload_n 0, 1) := by decide +kernel
theorem dL_water_282 : decode cL_water 282 = .ok (.iload_n 1, 1) := by decide +kernel
theorem dL_water_283 : decode cL_water 283 = .ok (.iconst 3, 1) := by decide +kernel
theorem dL_water_284 : decode cL_water 284 = .ok (.invokestatic 190, 3) := by decide +kernel
theorem dL_water_287 : decode cL_water 287 = .ok (.iload 6, 2) := by decide +kernel
theorem dL_water_289 : decode cL_water 289 = .ok (.iconst 1, 1) := by decide +kernel
theorem dL_water_290 : decode cL_water 290 = .ok (.iadd, 1) := by decide +kernel
theorem dL_water_291 : decode cL_water 291 = .ok (.if_icmp .ne 39, 3) := by decide +kernel
theorem dL_water_294 : decode cL_water 294 = .ok (.aload_n 0, 1) := by decide +kernel
theorem dL_water_295 : decode cL_water 295 = .ok (.bipush 15, 2) := by decide +kernel
theorem dL_water_297 : decode cL_water 297 = .ok (.iconst 0, 1) := by decide +kernel
theorem dL_water_298 : decode cL_water 298 = .ok (.iconst 0, 1) := by decide +kernel
theorem dL_water_299 : decode cL_water 299 = .ok (.iconst 0, 1) := by decide +kernel
theorem dL_water_300 : decode cL_water 300 = .ok (.iconst 0, 1) := by decide +kernel
theorem dL_water_301 : decode cL_water 301 = .ok (.invokestatic 180, 3) := by decide +kernel
theorem dL_water_304 : decode cL_water 304 = .ok (.ifCond .lt 26, 3) := by decide +kernel
theorem dL_water_307 : decode cL_water 307 = .ok (.iload 5, 2) := by decide +kernel
theorem dL_water_309 : decode cL_water 309 = .ok (.iconst 1, 1) := by decide +kernel
theorem dL_water_310 : decode cL_water 310 = .ok (.if_icmp .eq 16, 3) := by decide +kernel
theorem dL_water_313 : decode cL_water 313 = .ok (.aload_n 0, 1) := by decide +kernel
theorem dL_water_314 : decode cL_water 314 = .ok (.bipush 15, 2) := by decide +kernel
theorem dL_water_316 : decode cL_water 316 = .ok (.iconst 0, 1) := by decide +kernel
theorem dL_water_317 : decode cL_water 317 = .ok (.iconst 0, 1) := by decide +kernel
theorem dL_water_318 : decode cL_water 318 = .ok (.iconst 0, 1) := by decide +kernel
theorem dL_water_319 : decode cL_water 319 = .ok (.iconst 0, 1) := by decide +kernel
theorem dL_water_320 : decode cL_water 320 = .ok (.invokestatic 180, 3) := by decide +kernel
theorem dL_water_323 : decode cL_water 323 = .ok (.ifCond .lt 7, 3) := by decide +kernel
theorem dL_water_326 : decode cL_water 326 = .ok (.iconst 1, 1) := by decide +kernel
theorem dL_water_327 : decode cL_water 327 = .ok (.goto 4, 3) := by decide +kernel
theorem dL_water_330 : decode cL_water 330 = .ok (.iconst 0, 1) := by decide +kernel
theorem dL_water_331 : decode cL_water 331 = .ok (.iand, 1) := by decide +kernel
theorem dL_water_332 : decode cL_water 332 = .ok (.istore 8, 2) := by decide +kernel
theorem dL_water_334 : decode cL_water 334 = .ok (.iload 8, 2) := by decide +kernel
theorem dL_water_336 : decode cL_water 336 = .ok (.ifCond .eq 29, 3) := by decide +kernel
theorem dL_water_339 : decode cL_water 339 = .ok (.aload_n 0, 1) := by decide +kernel
theorem dL_water_340 : decode cL_water 340 = .ok (.bipush 15, 2) := by decide +kernel
theorem dL_water_342 : decode cL_water 342 = .ok (.iconst 0, 1) := by decide +kernel
theorem dL_water_343 : decode cL_water 343 = .ok (.iconst 0, 1) := by decide +kernel
theorem dL_water_344 : decode cL_water 344 = .ok (.iconst 0, 1) := by decide +kernel
theorem dL_water_345 : decode cL_water 345 = .ok (.iconst 0, 1) := by decide +kernel
theorem dL_water_346 : decode cL_water 346 = .ok (.invokestatic 180, 3) := by decide +kernel
theorem dL_water_349 : decode cL_water 349 = .ok (.ifCond .lt 16, 3) := by decide +kernel
theorem dL_water_352 : decode cL_water 352 = .ok (.aload_n 0, 1) := by decide +kernel
theorem dL_water_353 : decode cL_water 353 = .ok (.invokestatic 194, 3) := by decide +kernel
theorem dL_water_356 : decode cL_water 356 = .ok (.lload_n 2, 1) := by decide +kernel
theorem dL_water_357 : decode cL_water 357 = .ok (.lcmp, 1) := by decide +kernel
theorem dL_water_358 : decode cL_water 358 = .ok (.ifCond .ne 7, 3) := by decide +kernel
theorem dL_water_361 : decode cL_water 361 = .ok (.iconst 1, 1) := by decide +kernel
theorem dL_water_362 : decode cL_water 362 = .ok (.goto 4, 3) := by decide +kernel
theorem dL_water_365 : decode cL_water 365 = .ok (.iconst 0, 1) := by decide +kernel
theorem dL_water_366 : decode cL_water 366 = .ok (.ireturn, 1) := by decide +kernel
theorem dL_bySpray_0 : decode cL_bySpray 0 = .ok (.aload_n 0, 1) := by decide +kernel
theorem dL_bySpray_1 : decode cL_bySpray 1 = .ok (.bipush 11, 2) := by decide +kernel
theorem dL_bySpray_3 : decode cL_bySpray 3 = .ok (.iload_n 1, 1) := by decide +kernel
theorem dL_bySpray_4 : decode cL_bySpray 4 = .ok (.iload_n 2, 1) := by decide +kernel
theorem dL_bySpray_5 : decode cL_bySpray 5 = .ok (.iconst 0, 1) := by decide +kernel
theorem dL_bySpray_6 : decode cL_bySpray 6 = .ok (.iconst 0, 1) := by decide +kernel
theorem dL_bySpray_7 : decode cL_bySpray 7 = .ok (.invokestatic 180, 3) := by decide +kernel
theorem dL_bySpray_10 : decode cL_bySpray 10 = .ok (.ifCond .ge 6, 3) := by decide +kernel
theorem dL_bySpray_13 : decode cL_bySpray 13 = .ok (.bipush (-9), 2) := by decide +kernel
theorem dL_bySpray_15 : decode cL_bySpray 15 = .ok (.ireturn, 1) := by decide +kernel
theorem dL_bySpray_16 : decode cL_bySpray 16 = .ok (.bipush (-9), 2) := by decide +kernel
theorem dL_bySpray_18 : decode cL_bySpray 18 = .ok (.istore 4, 2) := by decide +kernel
theorem dL_bySpray_20 : decode cL_bySpray 20 = .ok (.aload_n 0, 1) := by decide +kernel
theorem dL_bySpray_21 : decode cL_bySpray 21 = .ok (.bipush 12, 2) := by decide +kernel
theorem dL_bySpray_23 : decode cL_bySpray 23 = .ok (.iload_n 1, 1) := by decide +kernel
theorem dL_bySpray_24 : decode cL_bySpray 24 = .ok (.iload_n 3, 1) := by decide +kernel
theorem dL_bySpray_25 : decode cL_bySpray 25 = .ok (.iconst 0, 1) := by decide +kernel
theorem dL_bySpray_26 : decode cL_bySpray 26 = .ok (.iconst 0, 1) := by decide +kernel
theorem dL_bySpray_27 : decode cL_bySpray 27 = .ok (.invokestatic 180, 3) := by decide +kernel
theorem dL_bySpray_30 : decode cL_bySpray 30 = .ok (.ifCond .lt 42, 3) := by decide +kernel
theorem dL_bySpray_33 : decode cL_bySpray 33 = .ok (.aload_n 0, 1) := by decide +kernel
theorem dL_bySpray_34 : decode cL_bySpray 34 = .ok (.bipush 14, 2) := by decide +kernel
theorem dL_bySpray_36 : decode cL_bySpray 36 = .ok (.iconst 1, 1) := by decide +kernel
theorem dL_bySpray_37 : decode cL_bySpray 37 = .ok (.iconst 0, 1) := by decide +kernel
theorem dL_bySpray_38 : decode cL_bySpray 38 = .ok (.iconst 0, 1) := by decide +kernel
theorem dL_bySpray_39 : decode cL_bySpray 39 = .ok (.iconst 0, 1) := by decide +kernel
theorem dL_bySpray_40 : decode cL_bySpray 40 = .ok (.invokestatic 180, 3) := by decide +kernel
theorem dL_bySpray_43 : decode cL_bySpray 43 = .ok (.pop, 1) := by decide +kernel
theorem dL_bySpray_44 : decode cL_bySpray 44 = .ok (.aload_n 0, 1) := by decide +kernel
theorem dL_bySpray_45 : decode cL_bySpray 45 = .ok (.invokestatic 202, 3) := by decide +kernel
theorem dL_bySpray_48 : decode cL_bySpray 48 = .ok (.istore 4, 2) := by decide +kernel
theorem dL_bySpray_50 : decode cL_bySpray 50 = .ok (.aload_n 0, 1) := by decide +kernel
theorem dL_bySpray_51 : decode cL_bySpray 51 = .ok (.bipush 15, 2) := by decide +kernel
theorem dL_bySpray_53 : decode cL_bySpray 53 = .ok (.iconst 0, 1) := by decide +kernel
theorem dL_bySpray_54 : decode cL_bySpray 54 = .ok (.iconst 0, 1) := by decide +kernel
theorem dL_bySpray_55 : decode cL_bySpray 55 = .ok (.iconst 0, 1) := by decide +kernel
theorem dL_bySpray_56 : decode cL_bySpray 56 = .ok (.iconst 0, 1) := by decide +kernel
theorem dL_bySpray_57 : decode cL_bySpray 57 = .ok (.invokestatic 180, 3) := by decide +kernel
theorem dL_bySpray_60 : decode cL_bySpray 60 = .ok (.pop, 1) := by decide +kernel
theorem dL_bySpray_61 : decode cL_bySpray 61 = .ok (.aload_n 0, 1) := by decide +kernel
theorem dL_bySpray_62 : decode cL_bySpray 62 = .ok (.bipush 15, 2) := by decide +kernel
theorem dL_bySpray_64 : decode cL_bySpray 64 = .ok (.iconst 0, 1) := by decide +kernel
theorem dL_bySpray_65 : decode cL_bySpray 65 = .ok (.iconst 0, 1) := by decide +kernel
theorem dL_bySpray_66 : decode cL_bySpray 66 = .ok (.iconst 0, 1) := by decide +kernel
theorem dL_bySpray_67 : decode cL_bySpray 67 = .ok (.iconst 0, 1) := by decide +kernel
theorem dL_bySpray_68 : decode cL_bySpray 68 = .ok (.invokestatic 180, 3) := by decide +kernel
theorem dL_bySpray_71 : decode cL_bySpray 71 = .ok (.pop, 1) := by decide +kernel
theorem dL_bySpray_72 : decode cL_bySpray 72 = .ok (.aload_n 0, 1) := by decide +kernel
theorem dL_bySpray_73 : decode cL_bySpray 73 = .ok (.bipush 15, 2) := by decide +kernel
theorem dL_bySpray_75 : decode cL_bySpray 75 = .ok (.iconst 0, 1) := by decide +kernel
theorem dL_bySpray_76 : decode cL_bySpray 76 = .ok (.iconst 0, 1) := by decide +kernel
theorem dL_bySpray_77 : decode cL_bySpray 77 = .ok (.iconst 0, 1) := by decide +kernel
theorem dL_bySpray_78 : decode cL_bySpray 78 = .ok (.iconst 0, 1) := by decide +kernel
theorem dL_bySpray_79 : decode cL_bySpray 79 = .ok (.invokestatic 180, 3) := by decide +kernel
theorem dL_bySpray_82 : decode cL_bySpray 82 = .ok (.pop, 1) := by decide +kernel
theorem dL_bySpray_83 : decode cL_bySpray 83 = .ok (.iload 4, 2) := by decide +kernel
theorem dL_bySpray_85 : decode cL_bySpray 85 = .ok (.ireturn, 1) := by decide +kernel
theorem dL_sprays_0 : decode cL_sprays 0 = .ok (.aload_n 0, 1) := by decide +kernel
theorem dL_sprays_1 : decode cL_sprays 1 = .ok (.invokestatic 194, 3) := by decide +kernel
theorem dL_sprays_4 : decode cL_sprays 4 = .ok (.lstore_n 3, 1) := by decide +kernel
theorem dL_sprays_5 : decode cL_sprays 5 = .ok (.aload_n 0, 1) := by decide +kernel
theorem dL_sprays_6 : decode cL_sprays 6 = .ok (.bipush 20, 2) := by decide +kernel
theorem dL_sprays_8 : decode cL_sprays 8 = .ok (.iload_n 1, 1) := by decide +kernel
theorem dL_sprays_9 : decode cL_sprays 9 = .ok (.iload_n 2, 1) := by decide +kernel
theorem dL_sprays_10 : decode cL_sprays 10 = .ok (.iconst 0, 1) := by decide +kernel
theorem dL_sprays_11 : decode cL_sprays 11 = .ok (.iconst 0, 1) := by decide +kernel
theorem dL_sprays_12 : decode cL_sprays 12 = .ok (.invokestatic 180, 3) := by decide +kernel
theorem dL_sprays_15 : decode cL_sprays 15 = .ok (.istore 5, 2) := by decide +kernel
theorem dL_sprays_17 : decode cL_sprays 17 = .ok (.iload 5, 2) := by decide +kernel
theorem dL_sprays_19 : decode cL_sprays 19 = .ok (.bipush (-9), 2) := by decide +kernel
theorem dL_sprays_21 : decode cL_sprays 21 = .ok (.if_icmp .ne 8, 3) := by decide +kernel
theorem dL_sprays_24 : decode cL_sprays 24 = .ok (.bipush (-9), 2) := by decide +kernel
theorem dL_sprays_26 : decode cL_sprays 26 = .ok (.goto 11, 3) := by decide +kernel
theorem dL_sprays_29 : decode cL_sprays 29 = .ok (.aload_n 0, 1) := by decide +kernel
theorem dL_sprays_30 : decode cL_sprays 30 = .ok (.iload_n 1, 1) := by decide +kernel
theorem dL_sprays_31 : decode cL_sprays 31 = .ok (.iload 5, 2) := by decide +kernel
theorem dL_sprays_33 : decode cL_sprays 33 = .ok (.iload_n 2, 1) := by decide +kernel
theorem dL_sprays_34 : decode cL_sprays 34 = .ok (.invokestatic 205, 3) := by decide +kernel
theorem dL_sprays_37 : decode cL_sprays 37 = .ok (.istore 6, 2) := by decide +kernel
theorem dL_sprays_39 : decode cL_sprays 39 = .ok (.iload 5, 2) := by decide +kernel
theorem dL_sprays_41 : decode cL_sprays 41 = .ok (.bipush (-9), 2) := by decide +kernel
theorem dL_sprays_43 : decode cL_sprays 43 = .ok (.if_icmp .eq 8, 3) := by decide +kernel
theorem dL_sprays_46 : decode cL_sprays 46 = .ok (.iload 6, 2) := by decide +kernel
theorem dL_sprays_48 : decode cL_sprays 48 = .ok (.ifCond .lt 7, 3) := by decide +kernel
theorem dL_sprays_51 : decode cL_sprays 51 = .ok (.iconst 1, 1) := by decide +kernel
theorem dL_sprays_52 : decode cL_sprays 52 = .ok (.goto 4, 3) := by decide +kernel
theorem dL_sprays_55 : decode cL_sprays 55 = .ok (.iconst 0, 1) := by decide +kernel
theorem dL_sprays_56 : decode cL_sprays 56 = .ok (.istore 7, 2) := by decide +kernel
theorem dL_sprays_58 : decode cL_sprays 58 = .ok (.iconst 0, 1) := by decide +kernel
theorem dL_sprays_59 : decode cL_sprays 59 = .ok (.istore 8, 2) := by decide +kernel
theorem dL_sprays_61 : decode cL_sprays 61 = .ok (.iload 8, 2) := by decide +kernel
theorem dL_sprays_63 : decode cL_sprays 63 = .ok (.aload_n 0, 1) := by decide +kernel
theorem dL_sprays_64 : decode cL_sprays 64 = .ok (.iconst 0, 1) := by decide +kernel
theorem dL_sprays_65 : decode cL_sprays 65 = .ok (.invokestatic 186, 3) := by decide +kernel
theorem dL_sprays_68 : decode cL_sprays 68 = .ok (.if_icmp .ge 50, 3) := by decide +kernel
theorem dL_sprays_71 : decode cL_sprays 71 = .ok (.aload_n 0, 1) := by decide +kernel
theorem dL_sprays_72 : decode cL_sprays 72 = .ok (.iload_n 1, 1) := by decide +kernel
theorem dL_sprays_73 : decode cL_sprays 73 = .ok (.iload 8, 2) := by decide +kernel
theorem dL_sprays_75 : decode cL_sprays 75 = .ok (.iload_n 2, 1) := by decide +kernel
theorem dL_sprays_76 : decode cL_sprays 76 = .ok (.invokestatic 205, 3) := by decide +kernel
theorem dL_sprays_79 : decode cL_sprays 79 = .ok (.istore 9, 2) := by decide +kernel
theorem dL_sprays_81 : decode cL_sprays 81 = .ok (.iload 7, 2) := by decide +kernel
theorem dL_sprays_83 : decode cL_sprays 83 = .ok (.iload 9, 2) := by decide +kernel
theorem dL_sprays_85 : decode cL_sprays 85 = .ok (.bipush (-9), 2) := by decide +kernel
theorem dL_sprays_87 : decode cL_sprays 87 = .ok (.if_icmp .eq 17, 3) := by decide +kernel
theorem dL_sprays_90 : decode cL_sprays 90 = .ok (.iload 5, 2) := by decide +kernel
theorem dL_sprays_92 : decode cL_sprays 92 = .ok (.bipush (-9), 2) := by decide +kernel
theorem dL_sprays_94 : decode cL_sprays 94 = .ok (.if_icmp .eq 14, 3) := by decide +kernel
theorem dL_sprays_97 : decode cL_sprays 97 = .ok (.iload 9, 2) := by decide +kernel
theorem dL_sprays_99 : decode cL_sprays 99 = .ok (.iload 6, 2) := by decide +kernel
theorem dL_sprays_101 : decode cL_sprays 101 = .ok (.if_icmp .lt 7, 3) := by decide +kernel
theorem dL_sprays_104 : decode cL_sprays 104 = .ok (.iconst 1, 1) := by decide +kernel
theorem dL_sprays_105 : decode cL_sprays 105 = .ok (.goto 4, 3) := by decide +kernel
theorem dL_sprays_108 : decode cL_sprays 108 = .ok (.iconst 0, 1) := by decide +kernel
theorem dL_sprays_109 : decode cL_sprays 109 = .ok (.iand, 1) := by decide +kernel
theorem dL_sprays_110 : decode cL_sprays 110 = .ok (.istore 7, 2) := by decide +kernel
theorem dL_sprays_112 : decode cL_sprays 112 = .ok (.iinc 8 1, 3) := by decide +kernel
theorem dL_sprays_115 : decode cL_sprays 115 = .ok (.goto (-54), 3) := by decide +kernel
theorem dL_sprays_118 : decode cL_sprays 118 = .ok (.iload 7, 2) := by decide +kernel
theorem dL_sprays_120 : decode cL_sprays 120 = .ok (.ifCond .eq 16, 3) := by decide +kernel
theorem dL_sprays_123 : decode cL_sprays 123 = .ok (.aload_n 0, 1) := by decide +kernel
theorem dL_sprays_124 : decode cL_sprays 124 = .ok (.invokestatic 194, 3) := by decide +kernel
theorem dL_sprays_127 : decode cL_sprays 127 = .ok (.lload_n 3, 1) := by decide +kernel
