theorem dL_fails_61 : decode cL_fails 61 = .ok (.aload_n 0, 1) := by decide +kernel
theorem dL_fails_62 : decode cL_fails 62 = .ok (.aload_n 0, 1) := by decide +kernel
theorem dL_fails_63 : decode cL_fails 63 = .ok (.iconst 1, 1) := by decide +kernel
theorem dL_fails_64 : decode cL_fails 64 = .ok (.invokestatic 186, 3) := by decide +kernel
theorem dL_fails_67 : decode cL_fails 67 = .ok (.iconst 0, 1) := by decide +kernel
theorem dL_fails_68 : decode cL_fails 68 = .ok (.invokestatic 190, 3) := by decide +kernel
theorem dL_fails_71 : decode cL_fails 71 = .ok (.ldc 40, 2) := by decide +kernel
theorem dL_fails_73 : decode cL_fails 73 = .ok (.if_icmp .ne 53, 3) := by decide +kernel
theorem dL_fails_76 : decode cL_fails 76 = .ok (.aload_n 0, 1) := by decide +kernel
theorem dL_fails_77 : decode cL_fails 77 = .ok (.aload_n 0, 1) := by decide +kernel
theorem dL_fails_78 : decode cL_fails 78 = .ok (.iconst 2, 1) := by decide +kernel
theorem dL_fails_79 : decode cL_fails 79 = .ok (.invokestatic 186, 3) := by decide +kernel
theorem dL_fails_82 : decode cL_fails 82 = .ok (.iconst 0, 1) := by decide +kernel
theorem dL_fails_83 : decode cL_fails 83 = .ok (.invokestatic 192, 3) := by decide +kernel
theorem dL_fails_86 : decode cL_fails 86 = .ok (.ldc 40, 2) := by decide +kernel
theorem dL_fails_88 : decode cL_fails 88 = .ok (.if_icmp .ne 38, 3) := by decide +kernel
theorem dL_fails_91 : decode cL_fails 91 = .ok (.aload_n 0, 1) := by decide +kernel
theorem dL_fails_92 : decode cL_fails 92 = .ok (.bipush 6, 2) := by decide +kernel
theorem dL_fails_94 : decode cL_fails 94 = .ok (.iload_n 2, 1) := by decide +kernel
theorem dL_fails_95 : decode cL_fails 95 = .ok (.iconst 0, 1) := by decide +kernel
theorem dL_fails_96 : decode cL_fails 96 = .ok (.iconst 0, 1) := by decide +kernel
theorem dL_fails_97 : decode cL_fails 97 = .ok (.iconst 0, 1) := by decide +kernel
theorem dL_fails_98 : decode cL_fails 98 = .ok (.invokestatic 180, 3) := by decide +kernel
theorem dL_fails_101 : decode cL_fails 101 = .ok (.ldc 40, 2) := by decide +kernel
theorem dL_fails_103 : decode cL_fails 103 = .ok (.if_icmp .ne 23, 3) := by decide +kernel
theorem dL_fails_106 : decode cL_fails 106 = .ok (.aload_n 0, 1) := by decide +kernel
theorem dL_fails_107 : decode cL_fails 107 = .ok (.bipush 6, 2) := by decide +kernel
theorem dL_fails_109 : decode cL_fails 109 = .ok (.iconst 0, 1) := by decide +kernel
theorem dL_fails_110 : decode cL_fails 110 = .ok (.bipush 10, 2) := by decide +kernel
theorem dL_fails_112 : decode cL_fails 112 = .ok (.iconst 0, 1) := by decide +kernel
theorem dL_fails_113 : decode cL_fails 113 = .ok (.iconst 0, 1) := by decide +kernel
theorem dL_fails_114 : decode cL_fails 114 = .ok (.invokestatic 180, 3) := by decide +kernel
theorem dL_fails_117 : decode cL_fails 117 = .ok (.ldc 15, 2) := by decide +kernel
theorem dL_fails_119 : decode cL_fails 119 = .ok (.if_icmp .ne 7, 3) := by decide +kernel
theorem dL_fails_122 : decode cL_fails 122 = .ok (.iconst 1, 1) := by decide +kernel
theorem dL_fails_123 : decode cL_fails 123 = .ok (.goto 4, 3) := by decide +kernel
theorem dL_fails_126 : decode cL_fails 126 = .ok (.iconst 0, 1) := by decide +kernel
theorem dL_fails_127 : decode cL_fails 127 = .ok (.istore_n 3, 1) := by decide +kernel
theorem dL_fails_128 : decode cL_fails 128 = .ok (.iload_n 3, 1) := by decide +kernel
theorem dL_fails_129 : decode cL_fails 129 = .ok (.aload_n 0, 1) := by decide +kernel
theorem dL_fails_130 : decode cL_fails 130 = .ok (.bipush 7, 2) := by decide +kernel
theorem dL_fails_132 : decode cL_fails 132 = .ok (.iload_n 2, 1) := by decide +kernel
theorem dL_fails_133 : decode cL_fails 133 = .ok (.iconst 0, 1) := by decide +kernel
theorem dL_fails_134 : decode cL_fails 134 = .ok (.iconst 0, 1) := by decide +kernel
theorem dL_fails_135 : decode cL_fails 135 = .ok (.iconst 0, 1) := by decide +kernel
theorem dL_fails_136 : decode cL_fails 136 = .ok (.invokestatic 180, 3) := by decide +kernel
theorem dL_fails_139 : decode cL_fails 139 = .ok (.ldc 40, 2) := by decide +kernel
theorem dL_fails_141 : decode cL_fails 141 = .ok (.if_icmp .ne 117, 3) := by decide +kernel
theorem dL_fails_144 : decode cL_fails 144 = .ok (.aload_n 0, 1) := by decide +kernel
theorem dL_fails_145 : decode cL_fails 145 = .ok (.bipush 8, 2) := by decide +kernel
theorem dL_fails_147 : decode cL_fails 147 = .ok (.iconst 0, 1) := by decide +kernel
theorem dL_fails_148 : decode cL_fails 148 = .ok (.iconst 3, 1) := by decide +kernel
theorem dL_fails_149 : decode cL_fails 149 = .ok (.iconst 0, 1) := by decide +kernel
theorem dL_fails_150 : decode cL_fails 150 = .ok (.iconst 0, 1) := by decide +kernel
theorem dL_fails_151 : decode cL_fails 151 = .ok (.invokestatic 180, 3) := by decide +kernel
theorem dL_fails_154 : decode cL_fails 154 = .ok (.ldc 15, 2) := by decide +kernel
theorem dL_fails_156 : decode cL_fails 156 = .ok (.if_icmp .ne 102, 3) := by decide +kernel
theorem dL_fails_159 : decode cL_fails 159 = .ok (.aload_n 0, 1) := by decide +kernel
theorem dL_fails_160 : decode cL_fails 160 = .ok (.bipush 9, 2) := by decide +kernel
theorem dL_fails_162 : decode cL_fails 162 = .ok (.iconst 0, 1) := by decide +kernel
theorem dL_fails_163 : decode cL_fails 163 = .ok (.bipush 6, 2) := by decide +kernel
theorem dL_fails_165 : decode cL_fails 165 = .ok (.iconst 0, 1) := by decide +kernel
theorem dL_fails_166 : decode cL_fails 166 = .ok (.iconst 0, 1) := by decide +kernel
theorem dL_fails_167 : decode cL_fails 167 = .ok (.invokestatic 180, 3) := by decide +kernel
theorem dL_fails_170 : decode cL_fails 170 = .ok (.ldc 15, 2) := by decide +kernel
theorem dL_fails_172 : decode cL_fails 172 = .ok (.if_icmp .ne 86, 3) := by decide +kernel
theorem dL_fails_175 : decode cL_fails 175 = .ok (.aload_n 0, 1) := by decide +kernel
theorem dL_fails_176 : decode cL_fails 176 = .ok (.bipush 9, 2) := by decide +kernel
theorem dL_fails_178 : decode cL_fails 178 = .ok (.iload_n 2, 1) := by decide +kernel
theorem dL_fails_179 : decode cL_fails 179 = .ok (.iconst 1, 1) := by decide +kernel
theorem dL_fails_180 : decode cL_fails 180 = .ok (.iconst 0, 1) := by decide +kernel
theorem dL_fails_181 : decode cL_fails 181 = .ok (.iconst 0, 1) := by decide +kernel
theorem dL_fails_182 : decode cL_fails 182 = .ok (.invokestatic 180, 3) := by decide +kernel
theorem dL_fails_185 : decode cL_fails 185 = .ok (.ldc 40, 2) := by decide +kernel
theorem dL_fails_187 : decode cL_fails 187 = .ok (.if_icmp .ne 71, 3) := by decide +kernel
theorem dL_fails_190 : decode cL_fails 190 = .ok (.aload_n 0, 1) := by decide +kernel
theorem dL_fails_191 : decode cL_fails 191 = .ok (.bipush 10, 2) := by decide +kernel
theorem dL_fails_193 : decode cL_fails 193 = .ok (.iconst 4, 1) := by decide +kernel
theorem dL_fails_194 : decode cL_fails 194 = .ok (.iconst 1, 1) := by decide +kernel
theorem dL_fails_195 : decode cL_fails 195 = .ok (.iconst 0, 1) := by decide +kernel
theorem dL_fails_196 : decode cL_fails 196 = .ok (.iconst 0, 1) := by decide +kernel
theorem dL_fails_197 : decode cL_fails 197 = .ok (.invokestatic 180, 3) := by decide +kernel
theorem dL_fails_200 : decode cL_fails 200 = .ok (.ldc 15, 2) := by decide +kernel
theorem dL_fails_202 : decode cL_fails 202 = .ok (.if_icmp .ne 56, 3) := by decide +kernel
theorem dL_fails_205 : decode cL_fails 205 = .ok (.aload_n 0, 1) := by decide +kernel
theorem dL_fails_206 : decode cL_fails 206 = .ok (.bipush 10, 2) := by decide +kernel
theorem dL_fails_208 : decode cL_fails 208 = .ok (.iconst 5, 1) := by decide +kernel
theorem dL_fails_209 : decode cL_fails 209 = .ok (.bipush 21, 2) := by decide +kernel
theorem dL_fails_211 : decode cL_fails 211 = .ok (.iconst 0, 1) := by decide +kernel
theorem dL_fails_212 : decode cL_fails 212 = .ok (.iconst 0, 1) := by decide +kernel
theorem dL_fails_213 : decode cL_fails 213 = .ok (.invokestatic 180, 3) := by decide +kernel
theorem dL_fails_216 : decode cL_fails 216 = .ok (.ldc 15, 2) := by decide +kernel
theorem dL_fails_218 : decode cL_fails 218 = .ok (.if_icmp .ne 40, 3) := by decide +kernel
theorem dL_fails_221 : decode cL_fails 221 = .ok (.aload_n 0, 1) := by decide +kernel
theorem dL_fails_222 : decode cL_fails 222 = .ok (.bipush 10, 2) := by decide +kernel
theorem dL_fails_224 : decode cL_fails 224 = .ok (.bipush 7, 2) := by decide +kernel
theorem dL_fails_226 : decode cL_fails 226 = .ok (.iconst 0, 1) := by decide +kernel
theorem dL_fails_227 : decode cL_fails 227 = .ok (.iconst 0, 1) := by decide +kernel
theorem dL_fails_228 : decode cL_fails 228 = .ok (.iconst 0, 1) := by decide +kernel
theorem dL_fails_229 : decode cL_fails 229 = .ok (.invokestatic 180, 3) := by decide +kernel
theorem dL_fails_232 : decode cL_fails 232 = .ok (.ldc 15, 2) := by decide +kernel
theorem dL_fails_234 : decode cL_fails 234 = .ok (.if_icmp .ne 24, 3) := by decide +kernel
theorem dL_fails_237 : decode cL_fails 237 = .ok (.aload_n 0, 1) := by decide +kernel
theorem dL_fails_238 : decode cL_fails 238 = .ok (.bipush 10, 2) := by decide +kernel
theorem dL_fails_240 : decode cL_fails 240 = .ok (.bipush 8, 2) := by decide +kernel
theorem dL_fails_242 : decode cL_fails 242 = .ok (.bipush 100, 2) := by decide +kernel
theorem dL_fails_244 : decode cL_fails 244 = .ok (.iconst 0, 1) := by decide +kernel
theorem dL_fails_245 : decode cL_fails 245 = .ok (.iconst 0, 1) := by decide +kernel
theorem dL_fails_246 : decode cL_fails 246 = .ok (.invokestatic 180, 3) := by decide +kernel
theorem dL_fails_249 : decode cL_fails 249 = .ok (.ldc 15, 2) := by decide +kernel
theorem dL_fails_251 : decode cL_fails 251 = .ok (.if_icmp .ne 7, 3) := by decide +kernel
theorem dL_fails_254 : decode cL_fails 254 = .ok (.iconst 1, 1) := by decide +kernel
theorem dL_fails_255 : decode cL_fails 255 = .ok (.goto 4, 3) := by decide +kernel
theorem dL_fails_258 : decode cL_fails 258 = .ok (.iconst 0, 1) := by decide +kernel
theorem dL_fails_259 : decode cL_fails 259 = .ok (.iand, 1) := by decide +kernel
theorem dL_fails_260 : decode cL_fails 260 = .ok (.istore_n 3, 1) := by decide +kernel
theorem dL_fails_261 : decode cL_fails 261 = .ok (.iload_n 3, 1) := by decide +kernel
theorem dL_fails_262 : decode cL_fails 262 = .ok (.aload_n 0, 1) := by decide +kernel
theorem dL_fails_263 : decode cL_fails 263 = .ok (.bipush 11, 2) := by decide +kernel
theorem dL_fails_265 : decode cL_fails 265 = .ok (.iconst 3, 1) := by decide +kernel
theorem dL_fails_266 : decode cL_fails 266 = .ok (.iconst 0, 1) := by decide +kernel
theorem dL_fails_267 : decode cL_fails 267 = .ok (.iconst 0, 1) := by decide +kernel
theorem dL_fails_268 : decode cL_fails 268 = .ok (.iconst 0, 1) := by decide +kernel
theorem dL_fails_269 : decode cL_fails 269 = .ok (.invokestatic 180, 3) := by decide +kernel
theorem dL_fails_272 : decode cL_fails 272 = .ok (.ldc 40, 2) := by decide +kernel
theorem dL_fails_274 : decode cL_fails 274 = .ok (.if_icmp .ne 99, 3) := by decide +kernel
theorem dL_fails_277 : decode cL_fails 277 = .ok (.aload_n 0, 1) := by decide +kernel
theorem dL_fails_278 : decode cL_fails 278 = .ok (.bipush 12, 2) := by decide +kernel
theorem dL_fails_280 : decode cL_fails 280 = .ok (.iconst 3, 1) := by decide +kernel
theorem dL_fails_281 : decode cL_fails 281 = .ok (.iconst 1, 1) := by decide +kernel
theorem dL_fails_282 : decode cL_fails 282 = .ok (.iconst 0, 1) := by decide +kernel
theorem dL_fails_283 : decode cL_fails 283 = .ok (.iconst 0, 1) := by decide +kernel
theorem dL_fails_284 : decode cL_fails 284 = .ok (.invokestatic 180, 3) := by decide +kernel
theorem dL_fails_287 : decode cL_fails 287 = .ok (.ldc 40, 2) := by decide +kernel
theorem dL_fails_289 : decode cL_fails 289 = .ok (.if_icmp .ne 84, 3) := by decide +kernel
theorem dL_fails_292 : decode cL_fails 292 = .ok (.aload_n 0, 1) := by decide +kernel
theorem dL_fails_293 : decode cL_fails 293 = .ok (.bipush 13, 2) := by decide +kernel
theorem dL_fails_295 : decode cL_fails 295 = .ok (.iconst (-1), 1) := by decide +kernel
theorem dL_fails_296 : decode cL_fails 296 = .ok (.iconst 0, 1) := by decide +kernel
theorem dL_fails_297 : decode cL_fails 297 = .ok (.iconst 0, 1) := by decide +kernel
theorem dL_fails_298 : decode cL_fails 298 = .ok (.iconst 0, 1) := by decide +kernel
theorem dL_fails_299 : decode cL_fails 299 = .ok (.invokestatic 180, 3) := by decide +kernel
theorem dL_fails_302 : decode cL_fails 302 = .ok (.ldc 40, 2) := by decide +kernel
theorem dL_fails_304 : decode cL_fails 304 = .ok (.if_icmp .ne 69, 3) := by decide +kernel
theorem dL_fails_307 : decode cL_fails 307 = .ok (.aload_n 0, 1) := by decide +kernel
theorem dL_fails_308 : decode cL_fails 308 = .ok (.bipush 14, 2) := by decide +kernel
theorem dL_fails_310 : decode cL_fails 310 = .ok (.iconst 0, 1) := by decide +kernel
theorem dL_fails_311 : decode cL_fails 311 = .ok (.iconst 0, 1) := by decide +kernel
theorem dL_fails_312 : decode cL_fails 312 = .ok (.iconst 0, 1) := by decide +kernel
theorem dL_fails_313 : decode cL_fails 313 = .ok (.iconst 0, 1) := by decide +kernel
theorem dL_fails_314 : decode cL_fails 314 = .ok (.invokestatic 180, 3) := by decide +kernel
theorem dL_fails_317 : decode cL_fails 317 = .ok (.ldc 15, 2) := by decide +kernel
theorem dL_fails_319 : decode cL_fails 319 = .ok (.if_icmp .ne 54, 3) := by decide +kernel
theorem dL_fails_322 : decode cL_fails 322 = .ok (.aload_n 0, 1) := by decide +kernel
theorem dL_fails_323 : decode cL_fails 323 = .ok (.bipush 14, 2) := by decide +kernel
theorem dL_fails_325 : decode cL_fails 325 = .ok (.bipush 51, 2) := by decide +kernel
theorem dL_fails_327 : decode cL_fails 327 = .ok (.iconst 0, 1) := by decide +kernel
theorem dL_fails_328 : decode cL_fails 328 = .ok (.iconst 0, 1) := by decide +kernel
theorem dL_fails_329 : decode cL_fails 329 = .ok (.iconst 0, 1) := by decide +kernel
theorem dL_fails_330 : decode cL_fails 330 = .ok (.invokestatic 180, 3) := by decide +kernel
theorem dL_fails_333 : decode cL_fails 333 = .ok (.ldc 15, 2) := by decide +kernel
theorem dL_fails_335 : decode cL_fails 335 = .ok (.if_icmp .ne 38, 3) := by decide +kernel
theorem dL_fails_338 : decode cL_fails 338 = .ok (.aload_n 0, 1) := by decide +kernel
theorem dL_fails_339 : decode cL_fails 339 = .ok (.bipush 16, 2) := by decide +kernel
theorem dL_fails_341 : decode cL_fails 341 = .ok (.iconst 3, 1) := by decide +kernel
theorem dL_fails_342 : decode cL_fails 342 = .ok (.iconst 0, 1) := by decide +kernel
theorem dL_fails_343 : decode cL_fails 343 = .ok (.iconst 0, 1) := by decide +kernel
theorem dL_fails_344 : decode cL_fails 344 = .ok (.iconst 0, 1) := by decide +kernel
theorem dL_fails_345 : decode cL_fails 345 = .ok (.invokestatic 180, 3) := by decide +kernel
theorem dL_fails_348 : decode cL_fails 348 = .ok (.ldc 40, 2) := by decide +kernel
theorem dL_fails_350 : decode cL_fails 350 = .ok (.if_icmp .ne 23, 3) := by decide +kernel
theorem dL_fails_353 : decode cL_fails 353 = .ok (.aload_n 0, 1) := by decide +kernel
theorem dL_fails_354 : decode cL_fails 354 = .ok (.bipush 17, 2) := by decide +kernel
theorem dL_fails_356 : decode cL_fails 356 = .ok (.bipush 8, 2) := by decide +kernel
theorem dL_fails_358 : decode cL_fails 358 = .ok (.iconst 1, 1) := by decide +kernel
theorem dL_fails_359 : decode cL_fails 359 = .ok (.iconst 0, 1) := by decide +kernel
theorem dL_fails_360 : decode cL_fails 360 = .ok (.iconst 0, 1) := by decide +kernel
theorem dL_fails_361 : decode cL_fails 361 = .ok (.invokestatic 180, 3) := by decide +kernel
theorem dL_fails_364 : decode cL_fails 364 = .ok (.ldc 40, 2) := by decide +kernel
theorem dL_fails_366 : decode cL_fails 366 = .ok (.if_icmp .ne 7, 3) := by decide +kernel
theorem dL_fails_369 : decode cL_fails 369 = .ok (.iconst 1, 1) := by decide +kernel
theorem dL_fails_370 : decode cL_fails 370 = .ok (.goto 4, 3) := by decide +kernel
theorem dL_fails_373 : decode cL_fails 373 = .ok (.iconst 0, 1) := by decide +kernel
theorem dL_fails_374 : decode cL_fails 374 = .ok (.iand, 1) := by decide +kernel
theorem dL_fails_375 : decode cL_fails 375 = .ok (.istore_n 3, 1) := by decide +kernel
theorem dL_fails_376 : decode cL_fails 376 = .ok (.iload_n 3, 1) := by decide +kernel
theorem dL_fails_377 : decode cL_fails 377 = .ok (.aload_n 0, 1) := by decide +kernel
theorem dL_fails_378 : decode cL_fails 378 = .ok (.bipush 18, 2) := by decide +kernel
theorem dL_fails_380 : decode cL_fails 380 = .ok (.bipush 8, 2) := by decide +kernel
theorem dL_fails_382 : decode cL_fails 382 = .ok (.iconst 0, 1) := by decide +kernel
theorem dL_fails_383 : decode cL_fails 383 = .ok (.iconst 0, 1) := by decide +kernel
theorem dL_fails_384 : decode cL_fails 384 = .ok (.iconst 0, 1) := by decide +kernel
theorem dL_fails_385 : decode cL_fails 385 = .ok (.invokestatic 180, 3) := by decide +kernel
theorem dL_fails_388 : decode cL_fails 388 = .ok (.ldc 40, 2) := by decide +kernel
theorem dL_fails_390 : decode cL_fails 390 = .ok (.if_icmp .ne 83, 3) := by decide +kernel
theorem dL_fails_393 : decode cL_fails 393 = .ok (.aload_n 0, 1) := by decide +kernel
theorem dL_fails_394 : decode cL_fails 394 = .ok (.bipush 19, 2) := by decide +kernel
theorem dL_fails_396 : decode cL_fails 396 = .ok (.iconst (-1), 1) := by decide +kernel
theorem dL_fails_397 : decode cL_fails 397 = .ok (.iconst 0, 1) := by decide +kernel
theorem dL_fails_398 : decode cL_fails 398 = .ok (.iconst 0, 1) := by decide +kernel
