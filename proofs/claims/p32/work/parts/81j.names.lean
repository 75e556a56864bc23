theorem dL_fails_399 : decode cL_fails 399 = .ok (.iconst 0, 1) := by decide +kernel
theorem dL_fails_400 : decode cL_fails 400 = .ok (.invokestatic 180, 3) := by decide +kernel
theorem dL_fails_403 : decode cL_fails 403 = .ok (.ldc 40, 2) := by decide +kernel
theorem dL_fails_405 : decode cL_fails 405 = .ok (.if_icmp .ne 68, 3) := by decide +kernel
theorem dL_fails_408 : decode cL_fails 408 = .ok (.aload_n 0, 1) := by decide +kernel
theorem dL_fails_409 : decode cL_fails 409 = .ok (.bipush 20, 2) := by decide +kernel
theorem dL_fails_411 : decode cL_fails 411 = .ok (.iconst 3, 1) := by decide +kernel
theorem dL_fails_412 : decode cL_fails 412 = .ok (.iconst 1, 1) := by decide +kernel
theorem dL_fails_413 : decode cL_fails 413 = .ok (.iconst 0, 1) := by decide +kernel
theorem dL_fails_414 : decode cL_fails 414 = .ok (.iconst 0, 1) := by decide +kernel
theorem dL_fails_415 : decode cL_fails 415 = .ok (.invokestatic 180, 3) := by decide +kernel
theorem dL_fails_418 : decode cL_fails 418 = .ok (.ldc 40, 2) := by decide +kernel
theorem dL_fails_420 : decode cL_fails 420 = .ok (.if_icmp .ne 53, 3) := by decide +kernel
theorem dL_fails_423 : decode cL_fails 423 = .ok (.aload_n 0, 1) := by decide +kernel
theorem dL_fails_424 : decode cL_fails 424 = .ok (.bipush 21, 2) := by decide +kernel
theorem dL_fails_426 : decode cL_fails 426 = .ok (.bipush 8, 2) := by decide +kernel
theorem dL_fails_428 : decode cL_fails 428 = .ok (.iconst 0, 1) := by decide +kernel
theorem dL_fails_429 : decode cL_fails 429 = .ok (.iconst 0, 1) := by decide +kernel
theorem dL_fails_430 : decode cL_fails 430 = .ok (.iconst 0, 1) := by decide +kernel
theorem dL_fails_431 : decode cL_fails 431 = .ok (.invokestatic 180, 3) := by decide +kernel
theorem dL_fails_434 : decode cL_fails 434 = .ok (.ldc 40, 2) := by decide +kernel
theorem dL_fails_436 : decode cL_fails 436 = .ok (.if_icmp .ne 37, 3) := by decide +kernel
theorem dL_fails_439 : decode cL_fails 439 = .ok (.aload_n 0, 1) := by decide +kernel
theorem dL_fails_440 : decode cL_fails 440 = .ok (.bipush 22, 2) := by decide +kernel
theorem dL_fails_442 : decode cL_fails 442 = .ok (.iconst 2, 1) := by decide +kernel
theorem dL_fails_443 : decode cL_fails 443 = .ok (.iconst 0, 1) := by decide +kernel
theorem dL_fails_444 : decode cL_fails 444 = .ok (.iconst 0, 1) := by decide +kernel
theorem dL_fails_445 : decode cL_fails 445 = .ok (.iconst 0, 1) := by decide +kernel
theorem dL_fails_446 : decode cL_fails 446 = .ok (.invokestatic 180, 3) := by decide +kernel
theorem dL_fails_449 : decode cL_fails 449 = .ok (.ldc 40, 2) := by decide +kernel
theorem dL_fails_451 : decode cL_fails 451 = .ok (.if_icmp .ne 22, 3) := by decide +kernel
theorem dL_fails_454 : decode cL_fails 454 = .ok (.aload_n 0, 1) := by decide +kernel
theorem dL_fails_455 : decode cL_fails 455 = .ok (.bipush 23, 2) := by decide +kernel
theorem dL_fails_457 : decode cL_fails 457 = .ok (.iconst (-1), 1) := by decide +kernel
theorem dL_fails_458 : decode cL_fails 458 = .ok (.iconst 0, 1) := by decide +kernel
theorem dL_fails_459 : decode cL_fails 459 = .ok (.iconst 0, 1) := by decide +kernel
theorem dL_fails_460 : decode cL_fails 460 = .ok (.iconst 0, 1) := by decide +kernel
theorem dL_fails_461 : decode cL_fails 461 = .ok (.invokestatic 180, 3) := by decide +kernel
theorem dL_fails_464 : decode cL_fails 464 = .ok (.ldc 40, 2) := by decide +kernel
theorem dL_fails_466 : decode cL_fails 466 = .ok (.if_icmp .ne 7, 3) := by decide +kernel
theorem dL_fails_469 : decode cL_fails 469 = .ok (.iconst 1, 1) := by decide +kernel
theorem dL_fails_470 : decode cL_fails 470 = .ok (.goto 4, 3) := by decide +kernel
theorem dL_fails_473 : decode cL_fails 473 = .ok (.iconst 0, 1) := by decide +kernel
theorem dL_fails_474 : decode cL_fails 474 = .ok (.iand, 1) := by decide +kernel
theorem dL_fails_475 : decode cL_fails 475 = .ok (.istore_n 3, 1) := by decide +kernel
theorem dL_fails_476 : decode cL_fails 476 = .ok (.iload_n 3, 1) := by decide +kernel
theorem dL_fails_477 : decode cL_fails 477 = .ok (.ifCond .eq 69, 3) := by decide +kernel
theorem dL_fails_480 : decode cL_fails 480 = .ok (.aload_n 0, 1) := by decide +kernel
theorem dL_fails_481 : decode cL_fails 481 = .ok (.iconst 5, 1) := by decide +kernel
theorem dL_fails_482 : decode cL_fails 482 = .ok (.lconst 0, 1) := by decide +kernel
theorem dL_fails_483 : decode cL_fails 483 = .ok (.invokestatic 209, 3) := by decide +kernel
theorem dL_fails_486 : decode cL_fails 486 = .ok (.ldc 15, 2) := by decide +kernel
theorem dL_fails_488 : decode cL_fails 488 = .ok (.if_icmp .ne 58, 3) := by decide +kernel
theorem dL_fails_491 : decode cL_fails 491 = .ok (.aload_n 0, 1) := by decide +kernel
theorem dL_fails_492 : decode cL_fails 492 = .ok (.iconst 1, 1) := by decide +kernel
theorem dL_fails_493 : decode cL_fails 493 = .ok (.ldc2_w 213, 3) := by decide +kernel
theorem dL_fails_496 : decode cL_fails 496 = .ok (.invokestatic 209, 3) := by decide +kernel
theorem dL_fails_499 : decode cL_fails 499 = .ok (.ldc 15, 2) := by decide +kernel
theorem dL_fails_501 : decode cL_fails 501 = .ok (.if_icmp .ne 45, 3) := by decide +kernel
theorem dL_fails_504 : decode cL_fails 504 = .ok (.aload_n 0, 1) := by decide +kernel
theorem dL_fails_505 : decode cL_fails 505 = .ok (.iconst 2, 1) := by decide +kernel
theorem dL_fails_506 : decode cL_fails 506 = .ok (.ldc2_w 215, 3) := by decide +kernel
theorem dL_fails_509 : decode cL_fails 509 = .ok (.invokestatic 209, 3) := by decide +kernel
theorem dL_fails_512 : decode cL_fails 512 = .ok (.ldc 15, 2) := by decide +kernel
theorem dL_fails_514 : decode cL_fails 514 = .ok (.if_icmp .ne 32, 3) := by decide +kernel
theorem dL_fails_517 : decode cL_fails 517 = .ok (.aload_n 0, 1) := by decide +kernel
theorem dL_fails_518 : decode cL_fails 518 = .ok (.iload_n 1, 1) := by decide +kernel
theorem dL_fails_519 : decode cL_fails 519 = .ok (.i2l, 1) := by decide +kernel
theorem dL_fails_520 : decode cL_fails 520 = .ok (.iconst 0, 1) := by decide +kernel
theorem dL_fails_521 : decode cL_fails 521 = .ok (.invokestatic 217, 3) := by decide +kernel
theorem dL_fails_524 : decode cL_fails 524 = .ok (.ldc 15, 2) := by decide +kernel
theorem dL_fails_526 : decode cL_fails 526 = .ok (.if_icmp .ne 20, 3) := by decide +kernel
theorem dL_fails_529 : decode cL_fails 529 = .ok (.aload_n 0, 1) := by decide +kernel
theorem dL_fails_530 : decode cL_fails 530 = .ok (.iload_n 1, 1) := by decide +kernel
theorem dL_fails_531 : decode cL_fails 531 = .ok (.i2l, 1) := by decide +kernel
theorem dL_fails_532 : decode cL_fails 532 = .ok (.bipush 100, 2) := by decide +kernel
theorem dL_fails_534 : decode cL_fails 534 = .ok (.invokestatic 217, 3) := by decide +kernel
theorem dL_fails_537 : decode cL_fails 537 = .ok (.ldc 15, 2) := by decide +kernel
theorem dL_fails_539 : decode cL_fails 539 = .ok (.if_icmp .ne 7, 3) := by decide +kernel
theorem dL_fails_542 : decode cL_fails 542 = .ok (.iconst 1, 1) := by decide +kernel
theorem dL_fails_543 : decode cL_fails 543 = .ok (.goto 4, 3) := by decide +kernel
theorem dL_fails_546 : decode cL_fails 546 = .ok (.iconst 0, 1) := by decide +kernel
theorem dL_fails_547 : decode cL_fails 547 = .ok (.ireturn, 1) := by decide +kernel
theorem dL_act_0 : decode cL_act 0 = .ok (.aload_n 0, 1) := by decide +kernel
theorem dL_act_1 : decode cL_act 1 = .ok (.iconst 0, 1) := by decide +kernel
theorem dL_act_2 : decode cL_act 2 = .ok (.invokestatic 186, 3) := by decide +kernel
theorem dL_act_5 : decode cL_act 5 = .ok (.istore_n 3, 1) := by decide +kernel
theorem dL_act_6 : decode cL_act 6 = .ok (.iload_n 2, 1) := by decide +kernel
theorem dL_act_7 : decode cL_act 7 = .ok (.bipush 16, 2) := by decide +kernel
theorem dL_act_9 : decode cL_act 9 = .ok (.idiv, 1) := by decide +kernel
theorem dL_act_10 : decode cL_act 10 = .ok (.iconst 3, 1) := by decide +kernel
theorem dL_act_11 : decode cL_act 11 = .ok (.irem, 1) := by decide +kernel
theorem dL_act_12 : decode cL_act 12 = .ok (.istore 4, 2) := by decide +kernel
theorem dL_act_14 : decode cL_act 14 = .ok (.iload_n 1, 1) := by decide +kernel
theorem dL_act_15 : decode cL_act 15 = .ok (.bipush 16, 2) := by decide +kernel
theorem dL_act_17 : decode cL_act 17 = .ok (.irem, 1) := by decide +kernel
theorem dL_act_18 : decode cL_act 18 = .ok (.tableswitch 262 0 14 #[74, 93, 106, 124, 144, 189, 189, 203, 203, 223, 235, 235, 235, 235, 251], 74) := by decide +kernel
theorem dL_act_92 : decode cL_act 92 = .ok (.aload_n 0, 1) := by decide +kernel
theorem dL_act_93 : decode cL_act 93 = .ok (.bipush 6, 2) := by decide +kernel
theorem dL_act_95 : decode cL_act 95 = .ok (.iload_n 2, 1) := by decide +kernel
theorem dL_act_96 : decode cL_act 96 = .ok (.iload_n 3, 1) := by decide +kernel
theorem dL_act_97 : decode cL_act 97 = .ok (.irem, 1) := by decide +kernel
theorem dL_act_98 : decode cL_act 98 = .ok (.iload_n 2, 1) := by decide +kernel
theorem dL_act_99 : decode cL_act 99 = .ok (.bipush 16, 2) := by decide +kernel
theorem dL_act_101 : decode cL_act 101 = .ok (.idiv, 1) := by decide +kernel
theorem dL_act_102 : decode cL_act 102 = .ok (.bipush 10, 2) := by decide +kernel
theorem dL_act_104 : decode cL_act 104 = .ok (.irem, 1) := by decide +kernel
theorem dL_act_105 : decode cL_act 105 = .ok (.iconst 0, 1) := by decide +kernel
theorem dL_act_106 : decode cL_act 106 = .ok (.iconst 0, 1) := by decide +kernel
theorem dL_act_107 : decode cL_act 107 = .ok (.invokestatic 180, 3) := by decide +kernel
theorem dL_act_110 : decode cL_act 110 = .ok (.ireturn, 1) := by decide +kernel
theorem dL_act_111 : decode cL_act 111 = .ok (.aload_n 0, 1) := by decide +kernel
theorem dL_act_112 : decode cL_act 112 = .ok (.bipush 7, 2) := by decide +kernel
theorem dL_act_114 : decode cL_act 114 = .ok (.iload_n 2, 1) := by decide +kernel
theorem dL_act_115 : decode cL_act 115 = .ok (.iload_n 3, 1) := by decide +kernel
theorem dL_act_116 : decode cL_act 116 = .ok (.irem, 1) := by decide +kernel
theorem dL_act_117 : decode cL_act 117 = .ok (.iconst 0, 1) := by decide +kernel
theorem dL_act_118 : decode cL_act 118 = .ok (.iconst 0, 1) := by decide +kernel
theorem dL_act_119 : decode cL_act 119 = .ok (.iconst 0, 1) := by decide +kernel
theorem dL_act_120 : decode cL_act 120 = .ok (.invokestatic 180, 3) := by decide +kernel
theorem dL_act_123 : decode cL_act 123 = .ok (.ireturn, 1) := by decide +kernel
theorem dL_act_124 : decode cL_act 124 = .ok (.aload_n 0, 1) := by decide +kernel
theorem dL_act_125 : decode cL_act 125 = .ok (.bipush 8, 2) := by decide +kernel
theorem dL_act_127 : decode cL_act 127 = .ok (.iload_n 2, 1) := by decide +kernel
theorem dL_act_128 : decode cL_act 128 = .ok (.iload_n 3, 1) := by decide +kernel
theorem dL_act_129 : decode cL_act 129 = .ok (.irem, 1) := by decide +kernel
theorem dL_act_130 : decode cL_act 130 = .ok (.iload_n 2, 1) := by decide +kernel
theorem dL_act_131 : decode cL_act 131 = .ok (.bipush 16, 2) := by decide +kernel
theorem dL_act_133 : decode cL_act 133 = .ok (.idiv, 1) := by decide +kernel
theorem dL_act_134 : decode cL_act 134 = .ok (.iconst 3, 1) := by decide +kernel
theorem dL_act_135 : decode cL_act 135 = .ok (.irem, 1) := by decide +kernel
theorem dL_act_136 : decode cL_act 136 = .ok (.iconst 0, 1) := by decide +kernel
theorem dL_act_137 : decode cL_act 137 = .ok (.iconst 0, 1) := by decide +kernel
theorem dL_act_138 : decode cL_act 138 = .ok (.invokestatic 180, 3) := by decide +kernel
theorem dL_act_141 : decode cL_act 141 = .ok (.ireturn, 1) := by decide +kernel
theorem dL_act_142 : decode cL_act 142 = .ok (.aload_n 0, 1) := by decide +kernel
theorem dL_act_143 : decode cL_act 143 = .ok (.bipush 9, 2) := by decide +kernel
theorem dL_act_145 : decode cL_act 145 = .ok (.iload_n 2, 1) := by decide +kernel
theorem dL_act_146 : decode cL_act 146 = .ok (.iload_n 3, 1) := by decide +kernel
theorem dL_act_147 : decode cL_act 147 = .ok (.irem, 1) := by decide +kernel
theorem dL_act_148 : decode cL_act 148 = .ok (.iconst 1, 1) := by decide +kernel
theorem dL_act_149 : decode cL_act 149 = .ok (.iload_n 2, 1) := by decide +kernel
theorem dL_act_150 : decode cL_act 150 = .ok (.bipush 16, 2) := by decide +kernel
theorem dL_act_152 : decode cL_act 152 = .ok (.idiv, 1) := by decide +kernel
theorem dL_act_153 : decode cL_act 153 = .ok (.iconst 5, 1) := by decide +kernel
theorem dL_act_154 : decode cL_act 154 = .ok (.irem, 1) := by decide +kernel
theorem dL_act_155 : decode cL_act 155 = .ok (.iadd, 1) := by decide +kernel
theorem dL_act_156 : decode cL_act 156 = .ok (.iconst 0, 1) := by decide +kernel
theorem dL_act_157 : decode cL_act 157 = .ok (.iconst 0, 1) := by decide +kernel
theorem dL_act_158 : decode cL_act 158 = .ok (.invokestatic 180, 3) := by decide +kernel
theorem dL_act_161 : decode cL_act 161 = .ok (.ireturn, 1) := by decide +kernel
theorem dL_act_162 : decode cL_act 162 = .ok (.aload_n 0, 1) := by decide +kernel
theorem dL_act_163 : decode cL_act 163 = .ok (.bipush 10, 2) := by decide +kernel
theorem dL_act_165 : decode cL_act 165 = .ok (.iconst 5, 1) := by decide +kernel
theorem dL_act_166 : decode cL_act 166 = .ok (.iload_n 2, 1) := by decide +kernel
theorem dL_act_167 : decode cL_act 167 = .ok (.iconst 4, 1) := by decide +kernel
theorem dL_act_168 : decode cL_act 168 = .ok (.irem, 1) := by decide +kernel
theorem dL_act_169 : decode cL_act 169 = .ok (.iadd, 1) := by decide +kernel
theorem dL_act_170 : decode cL_act 170 = .ok (.iconst 1, 1) := by decide +kernel
theorem dL_act_171 : decode cL_act 171 = .ok (.iload_n 2, 1) := by decide +kernel
theorem dL_act_172 : decode cL_act 172 = .ok (.iconst 4, 1) := by decide +kernel
theorem dL_act_173 : decode cL_act 173 = .ok (.idiv, 1) := by decide +kernel
theorem dL_act_174 : decode cL_act 174 = .ok (.iload_n 2, 1) := by decide +kernel
theorem dL_act_175 : decode cL_act 175 = .ok (.iconst 4, 1) := by decide +kernel
theorem dL_act_176 : decode cL_act 176 = .ok (.irem, 1) := by decide +kernel
theorem dL_act_177 : decode cL_act 177 = .ok (.ifCond .ne 8, 3) := by decide +kernel
theorem dL_act_180 : decode cL_act 180 = .ok (.bipush 20, 2) := by decide +kernel
theorem dL_act_182 : decode cL_act 182 = .ok (.goto 17, 3) := by decide +kernel
theorem dL_act_185 : decode cL_act 185 = .ok (.iload_n 2, 1) := by decide +kernel
theorem dL_act_186 : decode cL_act 186 = .ok (.iconst 4, 1) := by decide +kernel
theorem dL_act_187 : decode cL_act 187 = .ok (.irem, 1) := by decide +kernel
theorem dL_act_188 : decode cL_act 188 = .ok (.iconst 1, 1) := by decide +kernel
theorem dL_act_189 : decode cL_act 189 = .ok (.if_icmp .ne 8, 3) := by decide +kernel
theorem dL_act_192 : decode cL_act 192 = .ok (.bipush 9, 2) := by decide +kernel
theorem dL_act_194 : decode cL_act 194 = .ok (.goto 5, 3) := by decide +kernel
theorem dL_act_197 : decode cL_act 197 = .ok (.bipush 99, 2) := by decide +kernel
theorem dL_act_199 : decode cL_act 199 = .ok (.irem, 1) := by decide +kernel
theorem dL_act_200 : decode cL_act 200 = .ok (.iadd, 1) := by decide +kernel
theorem dL_act_201 : decode cL_act 201 = .ok (.iconst 0, 1) := by decide +kernel
theorem dL_act_202 : decode cL_act 202 = .ok (.iconst 0, 1) := by decide +kernel
theorem dL_act_203 : decode cL_act 203 = .ok (.invokestatic 180, 3) := by decide +kernel
theorem dL_act_206 : decode cL_act 206 = .ok (.ireturn, 1) := by decide +kernel
theorem dL_act_207 : decode cL_act 207 = .ok (.aload_n 0, 1) := by decide +kernel
theorem dL_act_208 : decode cL_act 208 = .ok (.bipush 11, 2) := by decide +kernel
theorem dL_act_210 : decode cL_act 210 = .ok (.iload 4, 2) := by decide +kernel
theorem dL_act_212 : decode cL_act 212 = .ok (.iload_n 2, 1) := by decide +kernel
theorem dL_act_213 : decode cL_act 213 = .ok (.iload_n 3, 1) := by decide +kernel
theorem dL_act_214 : decode cL_act 214 = .ok (.irem, 1) := by decide +kernel
theorem dL_act_215 : decode cL_act 215 = .ok (.iconst 0, 1) := by decide +kernel
theorem dL_act_216 : decode cL_act 216 = .ok (.iconst 0, 1) := by decide +kernel
theorem dL_act_217 : decode cL_act 217 = .ok (.invokestatic 180, 3) := by decide +kernel
theorem dL_act_220 : decode cL_act 220 = .ok (.ireturn, 1) := by decide +kernel
theorem dL_act_221 : decode cL_act 221 = .ok (.aload_n 0, 1) := by decide +kernel
theorem dL_act_222 : decode cL_act 222 = .ok (.bipush 12, 2) := by decide +kernel
theorem dL_act_224 : decode cL_act 224 = .ok (.iload 4, 2) := by decide +kernel
theorem dL_act_226 : decode cL_act 226 = .ok (.iconst 1, 1) := by decide +kernel
theorem dL_act_227 : decode cL_act 227 = .ok (.iload_n 2, 1) := by decide +kernel
theorem dL_act_228 : decode cL_act 228 = .ok (.bipush 64, 2) := by decide +kernel
theorem dL_act_230 : decode cL_act 230 = .ok (.idiv, 1) := by decide +kernel
theorem dL_act_231 : decode cL_act 231 = .ok (.bipush 9, 2) := by decide +kernel
