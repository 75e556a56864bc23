theorem dL_act_233 : decode cL_act 233 = .ok (.irem, 1) := by decide +kernel
theorem dL_act_234 : decode cL_act 234 = .ok (.iadd, 1) := by decide +kernel
theorem dL_act_235 : decode cL_act 235 = .ok (.iconst 0, 1) := by decide +kernel
theorem dL_act_236 : decode cL_act 236 = .ok (.iconst 0, 1) := by decide +kernel
theorem dL_act_237 : decode cL_act 237 = .ok (.invokestatic 180, 3) := by decide +kernel
theorem dL_act_240 : decode cL_act 240 = .ok (.ireturn, 1) := by decide +kernel
theorem dL_act_241 : decode cL_act 241 = .ok (.aload_n 0, 1) := by decide +kernel
theorem dL_act_242 : decode cL_act 242 = .ok (.bipush 13, 2) := by decide +kernel
theorem dL_act_244 : decode cL_act 244 = .ok (.iload 4, 2) := by decide +kernel
theorem dL_act_246 : decode cL_act 246 = .ok (.iconst 0, 1) := by decide +kernel
theorem dL_act_247 : decode cL_act 247 = .ok (.iconst 0, 1) := by decide +kernel
theorem dL_act_248 : decode cL_act 248 = .ok (.iconst 0, 1) := by decide +kernel
theorem dL_act_249 : decode cL_act 249 = .ok (.invokestatic 180, 3) := by decide +kernel
theorem dL_act_252 : decode cL_act 252 = .ok (.ireturn, 1) := by decide +kernel
theorem dL_act_253 : decode cL_act 253 = .ok (.aload_n 0, 1) := by decide +kernel
theorem dL_act_254 : decode cL_act 254 = .ok (.bipush 14, 2) := by decide +kernel
theorem dL_act_256 : decode cL_act 256 = .ok (.iconst 1, 1) := by decide +kernel
theorem dL_act_257 : decode cL_act 257 = .ok (.iload_n 2, 1) := by decide +kernel
theorem dL_act_258 : decode cL_act 258 = .ok (.bipush 9, 2) := by decide +kernel
theorem dL_act_260 : decode cL_act 260 = .ok (.irem, 1) := by decide +kernel
theorem dL_act_261 : decode cL_act 261 = .ok (.iadd, 1) := by decide +kernel
theorem dL_act_262 : decode cL_act 262 = .ok (.iconst 0, 1) := by decide +kernel
theorem dL_act_263 : decode cL_act 263 = .ok (.iconst 0, 1) := by decide +kernel
theorem dL_act_264 : decode cL_act 264 = .ok (.iconst 0, 1) := by decide +kernel
theorem dL_act_265 : decode cL_act 265 = .ok (.invokestatic 180, 3) := by decide +kernel
theorem dL_act_268 : decode cL_act 268 = .ok (.ireturn, 1) := by decide +kernel
theorem dL_act_269 : decode cL_act 269 = .ok (.aload_n 0, 1) := by decide +kernel
theorem dL_act_270 : decode cL_act 270 = .ok (.bipush 15, 2) := by decide +kernel
theorem dL_act_272 : decode cL_act 272 = .ok (.iconst 0, 1) := by decide +kernel
theorem dL_act_273 : decode cL_act 273 = .ok (.iconst 0, 1) := by decide +kernel
theorem dL_act_274 : decode cL_act 274 = .ok (.iconst 0, 1) := by decide +kernel
theorem dL_act_275 : decode cL_act 275 = .ok (.iconst 0, 1) := by decide +kernel
theorem dL_act_276 : decode cL_act 276 = .ok (.invokestatic 180, 3) := by decide +kernel
theorem dL_act_279 : decode cL_act 279 = .ok (.ireturn, 1) := by decide +kernel
theorem dL_act_280 : decode cL_act 280 = .ok (.iload_n 2, 1) := by decide +kernel
theorem dL_act_281 : decode cL_act 281 = .ok (.iconst 2, 1) := by decide +kernel
theorem dL_act_282 : decode cL_act 282 = .ok (.irem, 1) := by decide +kernel
theorem dL_act_283 : decode cL_act 283 = .ok (.ifCond .ne 16, 3) := by decide +kernel
theorem dL_act_286 : decode cL_act 286 = .ok (.aload_n 0, 1) := by decide +kernel
theorem dL_act_287 : decode cL_act 287 = .ok (.bipush 22, 2) := by decide +kernel
theorem dL_act_289 : decode cL_act 289 = .ok (.iconst 1, 1) := by decide +kernel
theorem dL_act_290 : decode cL_act 290 = .ok (.iconst 0, 1) := by decide +kernel
theorem dL_act_291 : decode cL_act 291 = .ok (.iconst 0, 1) := by decide +kernel
theorem dL_act_292 : decode cL_act 292 = .ok (.iconst 0, 1) := by decide +kernel
theorem dL_act_293 : decode cL_act 293 = .ok (.invokestatic 180, 3) := by decide +kernel
theorem dL_act_296 : decode cL_act 296 = .ok (.goto 13, 3) := by decide +kernel
theorem dL_act_299 : decode cL_act 299 = .ok (.aload_n 0, 1) := by decide +kernel
theorem dL_act_300 : decode cL_act 300 = .ok (.bipush 23, 2) := by decide +kernel
theorem dL_act_302 : decode cL_act 302 = .ok (.iconst 1, 1) := by decide +kernel
theorem dL_act_303 : decode cL_act 303 = .ok (.iconst 0, 1) := by decide +kernel
theorem dL_act_304 : decode cL_act 304 = .ok (.iconst 0, 1) := by decide +kernel
theorem dL_act_305 : decode cL_act 305 = .ok (.iconst 0, 1) := by decide +kernel
theorem dL_act_306 : decode cL_act 306 = .ok (.invokestatic 180, 3) := by decide +kernel
theorem dL_act_309 : decode cL_act 309 = .ok (.ireturn, 1) := by decide +kernel
theorem dL_begin_0 : decode cL_begin 0 = .ok (.iconst 1, 1) := by decide +kernel
theorem dL_begin_1 : decode cL_begin 1 = .ok (.iload_n 1, 1) := by decide +kernel
theorem dL_begin_2 : decode cL_begin 2 = .ok (.bipush 9, 2) := by decide +kernel
theorem dL_begin_4 : decode cL_begin 4 = .ok (.irem, 1) := by decide +kernel
theorem dL_begin_5 : decode cL_begin 5 = .ok (.iadd, 1) := by decide +kernel
theorem dL_begin_6 : decode cL_begin 6 = .ok (.istore_n 2, 1) := by decide +kernel
theorem dL_begin_7 : decode cL_begin 7 = .ok (.aload_n 0, 1) := by decide +kernel
theorem dL_begin_8 : decode cL_begin 8 = .ok (.iconst 0, 1) := by decide +kernel
theorem dL_begin_9 : decode cL_begin 9 = .ok (.bipush 82, 2) := by decide +kernel
theorem dL_begin_11 : decode cL_begin 11 = .ok (.iconst 0, 1) := by decide +kernel
theorem dL_begin_12 : decode cL_begin 12 = .ok (.iconst 0, 1) := by decide +kernel
theorem dL_begin_13 : decode cL_begin 13 = .ok (.iconst 0, 1) := by decide +kernel
theorem dL_begin_14 : decode cL_begin 14 = .ok (.invokestatic 180, 3) := by decide +kernel
theorem dL_begin_17 : decode cL_begin 17 = .ok (.iconst 1, 1) := by decide +kernel
theorem dL_begin_18 : decode cL_begin 18 = .ok (.if_icmp .ne 45, 3) := by decide +kernel
theorem dL_begin_21 : decode cL_begin 21 = .ok (.aload_n 0, 1) := by decide +kernel
theorem dL_begin_22 : decode cL_begin 22 = .ok (.invokevirtual 221, 3) := by decide +kernel
theorem dL_begin_25 : decode cL_begin 25 = .ok (.iconst 1, 1) := by decide +kernel
theorem dL_begin_26 : decode cL_begin 26 = .ok (.if_icmp .ne 37, 3) := by decide +kernel
theorem dL_begin_29 : decode cL_begin 29 = .ok (.aload_n 0, 1) := by decide +kernel
theorem dL_begin_30 : decode cL_begin 30 = .ok (.iconst 0, 1) := by decide +kernel
theorem dL_begin_31 : decode cL_begin 31 = .ok (.bipush 48, 2) := by decide +kernel
theorem dL_begin_33 : decode cL_begin 33 = .ok (.iconst 0, 1) := by decide +kernel
theorem dL_begin_34 : decode cL_begin 34 = .ok (.iconst 0, 1) := by decide +kernel
theorem dL_begin_35 : decode cL_begin 35 = .ok (.iconst 0, 1) := by decide +kernel
theorem dL_begin_36 : decode cL_begin 36 = .ok (.invokestatic 180, 3) := by decide +kernel
theorem dL_begin_39 : decode cL_begin 39 = .ok (.iconst 2, 1) := by decide +kernel
theorem dL_begin_40 : decode cL_begin 40 = .ok (.if_icmp .ne 23, 3) := by decide +kernel
theorem dL_begin_43 : decode cL_begin 43 = .ok (.aload_n 0, 1) := by decide +kernel
theorem dL_begin_44 : decode cL_begin 44 = .ok (.iconst 0, 1) := by decide +kernel
theorem dL_begin_45 : decode cL_begin 45 = .ok (.bipush 48, 2) := by decide +kernel
theorem dL_begin_47 : decode cL_begin 47 = .ok (.iload_n 2, 1) := by decide +kernel
theorem dL_begin_48 : decode cL_begin 48 = .ok (.iadd, 1) := by decide +kernel
theorem dL_begin_49 : decode cL_begin 49 = .ok (.iconst 0, 1) := by decide +kernel
theorem dL_begin_50 : decode cL_begin 50 = .ok (.iconst 0, 1) := by decide +kernel
theorem dL_begin_51 : decode cL_begin 51 = .ok (.iconst 0, 1) := by decide +kernel
theorem dL_begin_52 : decode cL_begin 52 = .ok (.invokestatic 180, 3) := by decide +kernel
theorem dL_begin_55 : decode cL_begin 55 = .ok (.iconst 3, 1) := by decide +kernel
theorem dL_begin_56 : decode cL_begin 56 = .ok (.if_icmp .ne 7, 3) := by decide +kernel
theorem dL_begin_59 : decode cL_begin 59 = .ok (.iconst 1, 1) := by decide +kernel
theorem dL_begin_60 : decode cL_begin 60 = .ok (.goto 4, 3) := by decide +kernel
theorem dL_begin_63 : decode cL_begin 63 = .ok (.iconst 0, 1) := by decide +kernel
theorem dL_begin_64 : decode cL_begin 64 = .ok (.istore_n 3, 1) := by decide +kernel
theorem dL_begin_65 : decode cL_begin 65 = .ok (.iconst 0, 1) := by decide +kernel
theorem dL_begin_66 : decode cL_begin 66 = .ok (.istore 4, 2) := by decide +kernel
theorem dL_begin_68 : decode cL_begin 68 = .ok (.iload 4, 2) := by decide +kernel
theorem dL_begin_70 : decode cL_begin 70 = .ok (.iload_n 2, 1) := by decide +kernel
theorem dL_begin_71 : decode cL_begin 71 = .ok (.if_icmp .ge 53, 3) := by decide +kernel
theorem dL_begin_74 : decode cL_begin 74 = .ok (.iload_n 3, 1) := by decide +kernel
theorem dL_begin_75 : decode cL_begin 75 = .ok (.ifCond .eq 49, 3) := by decide +kernel
theorem dL_begin_78 : decode cL_begin 78 = .ok (.aload_n 0, 1) := by decide +kernel
theorem dL_begin_79 : decode cL_begin 79 = .ok (.invokevirtual 221, 3) := by decide +kernel
theorem dL_begin_82 : decode cL_begin 82 = .ok (.iconst 3, 1) := by decide +kernel
theorem dL_begin_83 : decode cL_begin 83 = .ok (.iload 4, 2) := by decide +kernel
theorem dL_begin_85 : decode cL_begin 85 = .ok (.iadd, 1) := by decide +kernel
theorem dL_begin_86 : decode cL_begin 86 = .ok (.if_icmp .ne 30, 3) := by decide +kernel
theorem dL_begin_89 : decode cL_begin 89 = .ok (.aload_n 0, 1) := by decide +kernel
theorem dL_begin_90 : decode cL_begin 90 = .ok (.iconst 0, 1) := by decide +kernel
theorem dL_begin_91 : decode cL_begin 91 = .ok (.bipush 48, 2) := by decide +kernel
theorem dL_begin_93 : decode cL_begin 93 = .ok (.iload_n 1, 1) := by decide +kernel
theorem dL_begin_94 : decode cL_begin 94 = .ok (.bipush 16, 2) := by decide +kernel
theorem dL_begin_96 : decode cL_begin 96 = .ok (.iload 4, 2) := by decide +kernel
theorem dL_begin_98 : decode cL_begin 98 = .ok (.iadd, 1) := by decide +kernel
theorem dL_begin_99 : decode cL_begin 99 = .ok (.idiv, 1) := by decide +kernel
theorem dL_begin_100 : decode cL_begin 100 = .ok (.iconst 3, 1) := by decide +kernel
theorem dL_begin_101 : decode cL_begin 101 = .ok (.irem, 1) := by decide +kernel
theorem dL_begin_102 : decode cL_begin 102 = .ok (.iadd, 1) := by decide +kernel
theorem dL_begin_103 : decode cL_begin 103 = .ok (.iconst 0, 1) := by decide +kernel
theorem dL_begin_104 : decode cL_begin 104 = .ok (.iconst 0, 1) := by decide +kernel
theorem dL_begin_105 : decode cL_begin 105 = .ok (.iconst 0, 1) := by decide +kernel
theorem dL_begin_106 : decode cL_begin 106 = .ok (.invokestatic 180, 3) := by decide +kernel
theorem dL_begin_109 : decode cL_begin 109 = .ok (.ifCond .le 7, 3) := by decide +kernel
theorem dL_begin_112 : decode cL_begin 112 = .ok (.iconst 1, 1) := by decide +kernel
theorem dL_begin_113 : decode cL_begin 113 = .ok (.goto 4, 3) := by decide +kernel
theorem dL_begin_116 : decode cL_begin 116 = .ok (.iconst 0, 1) := by decide +kernel
theorem dL_begin_117 : decode cL_begin 117 = .ok (.istore_n 3, 1) := by decide +kernel
theorem dL_begin_118 : decode cL_begin 118 = .ok (.iinc 4 1, 3) := by decide +kernel
theorem dL_begin_121 : decode cL_begin 121 = .ok (.goto (-53), 3) := by decide +kernel
theorem dL_begin_124 : decode cL_begin 124 = .ok (.iconst 0, 1) := by decide +kernel
theorem dL_begin_125 : decode cL_begin 125 = .ok (.istore 4, 2) := by decide +kernel
theorem dL_begin_127 : decode cL_begin 127 = .ok (.iload 4, 2) := by decide +kernel
theorem dL_begin_129 : decode cL_begin 129 = .ok (.iconst 3, 1) := by decide +kernel
theorem dL_begin_130 : decode cL_begin 130 = .ok (.if_icmp .ge 89, 3) := by decide +kernel
theorem dL_begin_133 : decode cL_begin 133 = .ok (.iload_n 3, 1) := by decide +kernel
theorem dL_begin_134 : decode cL_begin 134 = .ok (.ifCond .eq 85, 3) := by decide +kernel
theorem dL_begin_137 : decode cL_begin 137 = .ok (.aload_n 0, 1) := by decide +kernel
theorem dL_begin_138 : decode cL_begin 138 = .ok (.iconst 0, 1) := by decide +kernel
theorem dL_begin_139 : decode cL_begin 139 = .ok (.bipush 104, 2) := by decide +kernel
theorem dL_begin_141 : decode cL_begin 141 = .ok (.iconst 0, 1) := by decide +kernel
theorem dL_begin_142 : decode cL_begin 142 = .ok (.iconst 0, 1) := by decide +kernel
theorem dL_begin_143 : decode cL_begin 143 = .ok (.iconst 0, 1) := by decide +kernel
theorem dL_begin_144 : decode cL_begin 144 = .ok (.invokestatic 180, 3) := by decide +kernel
theorem dL_begin_147 : decode cL_begin 147 = .ok (.ifCond .le 64, 3) := by decide +kernel
theorem dL_begin_150 : decode cL_begin 150 = .ok (.aload_n 0, 1) := by decide +kernel
theorem dL_begin_151 : decode cL_begin 151 = .ok (.iconst 0, 1) := by decide +kernel
theorem dL_begin_152 : decode cL_begin 152 = .ok (.bipush 48, 2) := by decide +kernel
theorem dL_begin_154 : decode cL_begin 154 = .ok (.iload_n 1, 1) := by decide +kernel
theorem dL_begin_155 : decode cL_begin 155 = .ok (.sipush 128, 3) := by decide +kernel
theorem dL_begin_158 : decode cL_begin 158 = .ok (.iload 4, 2) := by decide +kernel
theorem dL_begin_160 : decode cL_begin 160 = .ok (.iadd, 1) := by decide +kernel
theorem dL_begin_161 : decode cL_begin 161 = .ok (.idiv, 1) := by decide +kernel
theorem dL_begin_162 : decode cL_begin 162 = .ok (.iload_n 2, 1) := by decide +kernel
theorem dL_begin_163 : decode cL_begin 163 = .ok (.irem, 1) := by decide +kernel
theorem dL_begin_164 : decode cL_begin 164 = .ok (.iadd, 1) := by decide +kernel
theorem dL_begin_165 : decode cL_begin 165 = .ok (.iconst 0, 1) := by decide +kernel
theorem dL_begin_166 : decode cL_begin 166 = .ok (.iconst 0, 1) := by decide +kernel
theorem dL_begin_167 : decode cL_begin 167 = .ok (.iconst 0, 1) := by decide +kernel
theorem dL_begin_168 : decode cL_begin 168 = .ok (.invokestatic 180, 3) := by decide +kernel
theorem dL_begin_171 : decode cL_begin 171 = .ok (.ifCond .le 40, 3) := by decide +kernel
theorem dL_begin_174 : decode cL_begin 174 = .ok (.aload_n 0, 1) := by decide +kernel
theorem dL_begin_175 : decode cL_begin 175 = .ok (.iconst 0, 1) := by decide +kernel
theorem dL_begin_176 : decode cL_begin 176 = .ok (.bipush 48, 2) := by decide +kernel
theorem dL_begin_178 : decode cL_begin 178 = .ok (.iload_n 1, 1) := by decide +kernel
theorem dL_begin_179 : decode cL_begin 179 = .ok (.bipush 64, 2) := by decide +kernel
theorem dL_begin_181 : decode cL_begin 181 = .ok (.iload 4, 2) := by decide +kernel
theorem dL_begin_183 : decode cL_begin 183 = .ok (.iadd, 1) := by decide +kernel
theorem dL_begin_184 : decode cL_begin 184 = .ok (.idiv, 1) := by decide +kernel
theorem dL_begin_185 : decode cL_begin 185 = .ok (.bipush 10, 2) := by decide +kernel
theorem dL_begin_187 : decode cL_begin 187 = .ok (.irem, 1) := by decide +kernel
theorem dL_begin_188 : decode cL_begin 188 = .ok (.iadd, 1) := by decide +kernel
theorem dL_begin_189 : decode cL_begin 189 = .ok (.iconst 0, 1) := by decide +kernel
theorem dL_begin_190 : decode cL_begin 190 = .ok (.iconst 0, 1) := by decide +kernel
theorem dL_begin_191 : decode cL_begin 191 = .ok (.iconst 0, 1) := by decide +kernel
theorem dL_begin_192 : decode cL_begin 192 = .ok (.invokestatic 180, 3) := by decide +kernel
theorem dL_begin_195 : decode cL_begin 195 = .ok (.ifCond .le 16, 3) := by decide +kernel
theorem dL_begin_198 : decode cL_begin 198 = .ok (.aload_n 0, 1) := by decide +kernel
theorem dL_begin_199 : decode cL_begin 199 = .ok (.invokevirtual 221, 3) := by decide +kernel
theorem dL_begin_202 : decode cL_begin 202 = .ok (.bipush (-9), 2) := by decide +kernel
theorem dL_begin_204 : decode cL_begin 204 = .ok (.if_icmp .ne 7, 3) := by decide +kernel
theorem dL_begin_207 : decode cL_begin 207 = .ok (.iconst 1, 1) := by decide +kernel
theorem dL_begin_208 : decode cL_begin 208 = .ok (.goto 4, 3) := by decide +kernel
theorem dL_begin_211 : decode cL_begin 211 = .ok (.iconst 0, 1) := by decide +kernel
theorem dL_begin_212 : decode cL_begin 212 = .ok (.istore_n 3, 1) := by decide +kernel
theorem dL_begin_213 : decode cL_begin 213 = .ok (.iinc 4 1, 3) := by decide +kernel
theorem dL_begin_216 : decode cL_begin 216 = .ok (.goto (-89), 3) := by decide +kernel
theorem dL_begin_219 : decode cL_begin 219 = .ok (.iconst 0, 1) := by decide +kernel
theorem dL_begin_220 : decode cL_begin 220 = .ok (.istore 4, 2) := by decide +kernel
theorem dL_begin_222 : decode cL_begin 222 = .ok (.iload 4, 2) := by decide +kernel
theorem dL_begin_224 : decode cL_begin 224 = .ok (.iconst 2, 1) := by decide +kernel
theorem dL_begin_225 : decode cL_begin 225 = .ok (.if_icmp .ge 65, 3) := by decide +kernel
theorem dL_begin_228 : decode cL_begin 228 = .ok (.iload_n 3, 1) := by decide +kernel
theorem dL_begin_229 : decode cL_begin 229 = .ok (.ifCond .eq 61, 3) := by decide +kernel
theorem dL_begin_232 : decode cL_begin 232 = .ok (.aload_n 0, 1) := by decide +kernel
theorem dL_begin_233 : decode cL_begin 233 = .ok (.iconst 0, 1) := by decide +kernel
theorem dL_begin_234 : decode cL_begin 234 = .ok (.bipush 119, 2) := by decide +kernel
theorem dL_begin_236 : decode cL_begin 236 = .ok (.iconst 0, 1) := by decide +kernel
