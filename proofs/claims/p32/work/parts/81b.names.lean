theorem dL_tryWater_7 : decode cL_tryWater 7 = .ok (.ldc 40, 2) := by decide +kernel
theorem dL_tryWater_9 : decode cL_tryWater 9 = .ok (.ireturn, 1) := by decide +kernel
theorem dL_trySlow_0 : decode cL_trySlow 0 = .ok (.aload_n 0, 1) := by decide +kernel
theorem dL_trySlow_1 : decode cL_trySlow 1 = .ok (.iload_n 1, 1) := by decide +kernel
theorem dL_trySlow_2 : decode cL_trySlow 2 = .ok (.invokevirtual 86, 3) := by decide +kernel
theorem dL_trySlow_5 : decode cL_trySlow 5 = .ok (.ireturn, 1) := by decide +kernel
theorem dL_trySlow_6 : decode cL_trySlow 6 = .ok (.astore_n 2, 1) := by decide +kernel
theorem dL_trySlow_7 : decode cL_trySlow 7 = .ok (.ldc 40, 2) := by decide +kernel
theorem dL_trySlow_9 : decode cL_trySlow 9 = .ok (.ireturn, 1) := by decide +kernel
theorem dL_tryBest_0 : decode cL_tryBest 0 = .ok (.aload_n 0, 1) := by decide +kernel
theorem dL_tryBest_1 : decode cL_tryBest 1 = .ok (.iload_n 1, 1) := by decide +kernel
theorem dL_tryBest_2 : decode cL_tryBest 2 = .ok (.iload_n 2, 1) := by decide +kernel
theorem dL_tryBest_3 : decode cL_tryBest 3 = .ok (.invokevirtual 89, 3) := by decide +kernel
theorem dL_tryBest_6 : decode cL_tryBest 6 = .ok (.ireturn, 1) := by decide +kernel
theorem dL_tryBest_7 : decode cL_tryBest 7 = .ok (.astore_n 3, 1) := by decide +kernel
theorem dL_tryBest_8 : decode cL_tryBest 8 = .ok (.ldc 40, 2) := by decide +kernel
theorem dL_tryBest_10 : decode cL_tryBest 10 = .ok (.ireturn, 1) := by decide +kernel
theorem dL_tryBest_11 : decode cL_tryBest 11 = .ok (.astore_n 3, 1) := by decide +kernel
theorem dL_tryBest_12 : decode cL_tryBest 12 = .ok (.ldc 15, 2) := by decide +kernel
theorem dL_tryBest_14 : decode cL_tryBest 14 = .ok (.ireturn, 1) := by decide +kernel
theorem dL_tryWhen_0 : decode cL_tryWhen 0 = .ok (.aload_n 0, 1) := by decide +kernel
theorem dL_tryWhen_1 : decode cL_tryWhen 1 = .ok (.iload_n 1, 1) := by decide +kernel
theorem dL_tryWhen_2 : decode cL_tryWhen 2 = .ok (.invokevirtual 92, 3) := by decide +kernel
theorem dL_tryWhen_5 : decode cL_tryWhen 5 = .ok (.ireturn, 1) := by decide +kernel
theorem dL_tryWhen_6 : decode cL_tryWhen 6 = .ok (.astore_n 2, 1) := by decide +kernel
theorem dL_tryWhen_7 : decode cL_tryWhen 7 = .ok (.ldc 40, 2) := by decide +kernel
theorem dL_tryWhen_9 : decode cL_tryWhen 9 = .ok (.ireturn, 1) := by decide +kernel
theorem dL_trySave_0 : decode cL_trySave 0 = .ok (.aload_n 0, 1) := by decide +kernel
theorem dL_trySave_1 : decode cL_trySave 1 = .ok (.iload_n 1, 1) := by decide +kernel
theorem dL_trySave_2 : decode cL_trySave 2 = .ok (.invokevirtual 95, 3) := by decide +kernel
theorem dL_trySave_5 : decode cL_trySave 5 = .ok (.ireturn, 1) := by decide +kernel
theorem dL_trySave_6 : decode cL_trySave 6 = .ok (.astore_n 2, 1) := by decide +kernel
theorem dL_trySave_7 : decode cL_trySave 7 = .ok (.ldc 40, 2) := by decide +kernel
theorem dL_trySave_9 : decode cL_trySave 9 = .ok (.ireturn, 1) := by decide +kernel
theorem dL_tryRestore_0 : decode cL_tryRestore 0 = .ok (.aload_n 0, 1) := by decide +kernel
theorem dL_tryRestore_1 : decode cL_tryRestore 1 = .ok (.iload_n 1, 1) := by decide +kernel
theorem dL_tryRestore_2 : decode cL_tryRestore 2 = .ok (.invokevirtual 98, 3) := by decide +kernel
theorem dL_tryRestore_5 : decode cL_tryRestore 5 = .ok (.ireturn, 1) := by decide +kernel
theorem dL_tryRestore_6 : decode cL_tryRestore 6 = .ok (.astore_n 2, 1) := by decide +kernel
theorem dL_tryRestore_7 : decode cL_tryRestore 7 = .ok (.ldc 40, 2) := by decide +kernel
theorem dL_tryRestore_9 : decode cL_tryRestore 9 = .ok (.ireturn, 1) := by decide +kernel
theorem dL_tryRestore_10 : decode cL_tryRestore 10 = .ok (.astore_n 2, 1) := by decide +kernel
theorem dL_tryRestore_11 : decode cL_tryRestore 11 = .ok (.ldc 26, 2) := by decide +kernel
theorem dL_tryRestore_13 : decode cL_tryRestore 13 = .ok (.ireturn, 1) := by decide +kernel
theorem dL_call_0 : decode cL_call 0 = .ok (.iload_n 1, 1) := by decide +kernel
theorem dL_call_1 : decode cL_call 1 = .ok (.tableswitch 254 0 22 #[107, 113, 118, 124, 131, 138, 145, 152, 158, 165, 172, 179, 186, 193, 199, 205, 210, 216, 223, 229, 235, 242, 248], 107) := by decide +kernel
theorem dL_call_108 : decode cL_call 108 = .ok (.aload_n 0, 1) := by decide +kernel
theorem dL_call_109 : decode cL_call 109 = .ok (.iload_n 2, 1) := by decide +kernel
theorem dL_call_110 : decode cL_call 110 = .ok (.invokestatic 101, 3) := by decide +kernel
theorem dL_call_113 : decode cL_call 113 = .ok (.ireturn, 1) := by decide +kernel
theorem dL_call_114 : decode cL_call 114 = .ok (.aload_n 0, 1) := by decide +kernel
theorem dL_call_115 : decode cL_call 115 = .ok (.invokestatic 107, 3) := by decide +kernel
theorem dL_call_118 : decode cL_call 118 = .ok (.ireturn, 1) := by decide +kernel
theorem dL_call_119 : decode cL_call 119 = .ok (.aload_n 0, 1) := by decide +kernel
theorem dL_call_120 : decode cL_call 120 = .ok (.iload_n 2, 1) := by decide +kernel
theorem dL_call_121 : decode cL_call 121 = .ok (.invokestatic 111, 3) := by decide +kernel
theorem dL_call_124 : decode cL_call 124 = .ok (.ireturn, 1) := by decide +kernel
theorem dL_call_125 : decode cL_call 125 = .ok (.aload_n 0, 1) := by decide +kernel
theorem dL_call_126 : decode cL_call 126 = .ok (.iload_n 2, 1) := by decide +kernel
theorem dL_call_127 : decode cL_call 127 = .ok (.iload_n 3, 1) := by decide +kernel
theorem dL_call_128 : decode cL_call 128 = .ok (.invokestatic 114, 3) := by decide +kernel
theorem dL_call_131 : decode cL_call 131 = .ok (.ireturn, 1) := by decide +kernel
theorem dL_call_132 : decode cL_call 132 = .ok (.aload_n 0, 1) := by decide +kernel
theorem dL_call_133 : decode cL_call 133 = .ok (.iload_n 2, 1) := by decide +kernel
theorem dL_call_134 : decode cL_call 134 = .ok (.iload_n 3, 1) := by decide +kernel
theorem dL_call_135 : decode cL_call 135 = .ok (.invokestatic 118, 3) := by decide +kernel
theorem dL_call_138 : decode cL_call 138 = .ok (.ireturn, 1) := by decide +kernel
theorem dL_call_139 : decode cL_call 139 = .ok (.aload_n 0, 1) := by decide +kernel
theorem dL_call_140 : decode cL_call 140 = .ok (.iload_n 2, 1) := by decide +kernel
theorem dL_call_141 : decode cL_call 141 = .ok (.iload_n 3, 1) := by decide +kernel
theorem dL_call_142 : decode cL_call 142 = .ok (.invokestatic 121, 3) := by decide +kernel
theorem dL_call_145 : decode cL_call 145 = .ok (.ireturn, 1) := by decide +kernel
theorem dL_call_146 : decode cL_call 146 = .ok (.aload_n 0, 1) := by decide +kernel
theorem dL_call_147 : decode cL_call 147 = .ok (.iload_n 2, 1) := by decide +kernel
theorem dL_call_148 : decode cL_call 148 = .ok (.iload_n 3, 1) := by decide +kernel
theorem dL_call_149 : decode cL_call 149 = .ok (.invokestatic 124, 3) := by decide +kernel
theorem dL_call_152 : decode cL_call 152 = .ok (.ireturn, 1) := by decide +kernel
theorem dL_call_153 : decode cL_call 153 = .ok (.aload_n 0, 1) := by decide +kernel
theorem dL_call_154 : decode cL_call 154 = .ok (.iload_n 2, 1) := by decide +kernel
theorem dL_call_155 : decode cL_call 155 = .ok (.invokestatic 127, 3) := by decide +kernel
theorem dL_call_158 : decode cL_call 158 = .ok (.ireturn, 1) := by decide +kernel
theorem dL_call_159 : decode cL_call 159 = .ok (.aload_n 0, 1) := by decide +kernel
theorem dL_call_160 : decode cL_call 160 = .ok (.iload_n 2, 1) := by decide +kernel
theorem dL_call_161 : decode cL_call 161 = .ok (.iload_n 3, 1) := by decide +kernel
theorem dL_call_162 : decode cL_call 162 = .ok (.invokestatic 130, 3) := by decide +kernel
theorem dL_call_165 : decode cL_call 165 = .ok (.ireturn, 1) := by decide +kernel
theorem dL_call_166 : decode cL_call 166 = .ok (.aload_n 0, 1) := by decide +kernel
theorem dL_call_167 : decode cL_call 167 = .ok (.iload_n 2, 1) := by decide +kernel
theorem dL_call_168 : decode cL_call 168 = .ok (.iload_n 3, 1) := by decide +kernel
theorem dL_call_169 : decode cL_call 169 = .ok (.invokestatic 133, 3) := by decide +kernel
theorem dL_call_172 : decode cL_call 172 = .ok (.ireturn, 1) := by decide +kernel
theorem dL_call_173 : decode cL_call 173 = .ok (.aload_n 0, 1) := by decide +kernel
theorem dL_call_174 : decode cL_call 174 = .ok (.iload_n 2, 1) := by decide +kernel
theorem dL_call_175 : decode cL_call 175 = .ok (.iload_n 3, 1) := by decide +kernel
theorem dL_call_176 : decode cL_call 176 = .ok (.invokestatic 136, 3) := by decide +kernel
theorem dL_call_179 : decode cL_call 179 = .ok (.ireturn, 1) := by decide +kernel
theorem dL_call_180 : decode cL_call 180 = .ok (.aload_n 0, 1) := by decide +kernel
theorem dL_call_181 : decode cL_call 181 = .ok (.iload_n 2, 1) := by decide +kernel
theorem dL_call_182 : decode cL_call 182 = .ok (.iload_n 3, 1) := by decide +kernel
theorem dL_call_183 : decode cL_call 183 = .ok (.invokestatic 139, 3) := by decide +kernel
theorem dL_call_186 : decode cL_call 186 = .ok (.ireturn, 1) := by decide +kernel
theorem dL_call_187 : decode cL_call 187 = .ok (.aload_n 0, 1) := by decide +kernel
theorem dL_call_188 : decode cL_call 188 = .ok (.iload_n 2, 1) := by decide +kernel
theorem dL_call_189 : decode cL_call 189 = .ok (.iload_n 3, 1) := by decide +kernel
theorem dL_call_190 : decode cL_call 190 = .ok (.invokestatic 142, 3) := by decide +kernel
theorem dL_call_193 : decode cL_call 193 = .ok (.ireturn, 1) := by decide +kernel
theorem dL_call_194 : decode cL_call 194 = .ok (.aload_n 0, 1) := by decide +kernel
theorem dL_call_195 : decode cL_call 195 = .ok (.iload_n 2, 1) := by decide +kernel
theorem dL_call_196 : decode cL_call 196 = .ok (.invokestatic 145, 3) := by decide +kernel
theorem dL_call_199 : decode cL_call 199 = .ok (.ireturn, 1) := by decide +kernel
theorem dL_call_200 : decode cL_call 200 = .ok (.aload_n 0, 1) := by decide +kernel
theorem dL_call_201 : decode cL_call 201 = .ok (.iload_n 2, 1) := by decide +kernel
theorem dL_call_202 : decode cL_call 202 = .ok (.invokestatic 148, 3) := by decide +kernel
theorem dL_call_205 : decode cL_call 205 = .ok (.ireturn, 1) := by decide +kernel
theorem dL_call_206 : decode cL_call 206 = .ok (.aload_n 0, 1) := by decide +kernel
theorem dL_call_207 : decode cL_call 207 = .ok (.invokestatic 151, 3) := by decide +kernel
theorem dL_call_210 : decode cL_call 210 = .ok (.ireturn, 1) := by decide +kernel
theorem dL_call_211 : decode cL_call 211 = .ok (.aload_n 0, 1) := by decide +kernel
theorem dL_call_212 : decode cL_call 212 = .ok (.iload_n 2, 1) := by decide +kernel
theorem dL_call_213 : decode cL_call 213 = .ok (.invokestatic 154, 3) := by decide +kernel
theorem dL_call_216 : decode cL_call 216 = .ok (.ireturn, 1) := by decide +kernel
theorem dL_call_217 : decode cL_call 217 = .ok (.aload_n 0, 1) := by decide +kernel
theorem dL_call_218 : decode cL_call 218 = .ok (.iload_n 2, 1) := by decide +kernel
theorem dL_call_219 : decode cL_call 219 = .ok (.iload_n 3, 1) := by decide +kernel
theorem dL_call_220 : decode cL_call 220 = .ok (.invokestatic 157, 3) := by decide +kernel
theorem dL_call_223 : decode cL_call 223 = .ok (.ireturn, 1) := by decide +kernel
theorem dL_call_224 : decode cL_call 224 = .ok (.aload_n 0, 1) := by decide +kernel
theorem dL_call_225 : decode cL_call 225 = .ok (.iload_n 2, 1) := by decide +kernel
theorem dL_call_226 : decode cL_call 226 = .ok (.invokestatic 160, 3) := by decide +kernel
theorem dL_call_229 : decode cL_call 229 = .ok (.ireturn, 1) := by decide +kernel
theorem dL_call_230 : decode cL_call 230 = .ok (.aload_n 0, 1) := by decide +kernel
theorem dL_call_231 : decode cL_call 231 = .ok (.iload_n 2, 1) := by decide +kernel
theorem dL_call_232 : decode cL_call 232 = .ok (.invokestatic 163, 3) := by decide +kernel
theorem dL_call_235 : decode cL_call 235 = .ok (.ireturn, 1) := by decide +kernel
theorem dL_call_236 : decode cL_call 236 = .ok (.aload_n 0, 1) := by decide +kernel
theorem dL_call_237 : decode cL_call 237 = .ok (.iload_n 2, 1) := by decide +kernel
theorem dL_call_238 : decode cL_call 238 = .ok (.iload_n 3, 1) := by decide +kernel
theorem dL_call_239 : decode cL_call 239 = .ok (.invokestatic 166, 3) := by decide +kernel
theorem dL_call_242 : decode cL_call 242 = .ok (.ireturn, 1) := by decide +kernel
theorem dL_call_243 : decode cL_call 243 = .ok (.aload_n 0, 1) := by decide +kernel
theorem dL_call_244 : decode cL_call 244 = .ok (.iload_n 2, 1) := by decide +kernel
theorem dL_call_245 : decode cL_call 245 = .ok (.invokestatic 169, 3) := by decide +kernel
theorem dL_call_248 : decode cL_call 248 = .ok (.ireturn, 1) := by decide +kernel
theorem dL_call_249 : decode cL_call 249 = .ok (.aload_n 0, 1) := by decide +kernel
theorem dL_call_250 : decode cL_call 250 = .ok (.iload_n 2, 1) := by decide +kernel
theorem dL_call_251 : decode cL_call 251 = .ok (.invokestatic 172, 3) := by decide +kernel
theorem dL_call_254 : decode cL_call 254 = .ok (.ireturn, 1) := by decide +kernel
theorem dL_call_255 : decode cL_call 255 = .ok (.aload_n 0, 1) := by decide +kernel
theorem dL_call_256 : decode cL_call 256 = .ok (.iload_n 2, 1) := by decide +kernel
theorem dL_call_257 : decode cL_call 257 = .ok (.invokestatic 175, 3) := by decide +kernel
theorem dL_call_260 : decode cL_call 260 = .ok (.ireturn, 1) := by decide +kernel
theorem dL_cell_0 : decode cL_cell 0 = .ok (.iload_n 1, 1) := by decide +kernel
theorem dL_cell_1 : decode cL_cell 1 = .ok (.aload_n 0, 1) := by decide +kernel
theorem dL_cell_2 : decode cL_cell 2 = .ok (.arraylength, 1) := by decide +kernel
theorem dL_cell_3 : decode cL_cell 3 = .ok (.if_icmp .ge 9, 3) := by decide +kernel
theorem dL_cell_6 : decode cL_cell 6 = .ok (.aload_n 0, 1) := by decide +kernel
theorem dL_cell_7 : decode cL_cell 7 = .ok (.iload_n 1, 1) := by decide +kernel
theorem dL_cell_8 : decode cL_cell 8 = .ok (.iaload, 1) := by decide +kernel
theorem dL_cell_9 : decode cL_cell 9 = .ok (.goto 13, 3) := by decide +kernel
theorem dL_cell_12 : decode cL_cell 12 = .ok (.ldc 178, 2) := by decide +kernel
theorem dL_cell_14 : decode cL_cell 14 = .ok (.iload_n 1, 1) := by decide +kernel
theorem dL_cell_15 : decode cL_cell 15 = .ok (.iconst 3, 1) := by decide +kernel
theorem dL_cell_16 : decode cL_cell 16 = .ok (.iadd, 1) := by decide +kernel
theorem dL_cell_17 : decode cL_cell 17 = .ok (.imul, 1) := by decide +kernel
theorem dL_cell_18 : decode cL_cell 18 = .ok (.sipush 10301, 3) := by decide +kernel
theorem dL_cell_21 : decode cL_cell 21 = .ok (.iadd, 1) := by decide +kernel
theorem dL_cell_22 : decode cL_cell 22 = .ok (.ldc 179, 2) := by decide +kernel
theorem dL_cell_24 : decode cL_cell 24 = .ok (.iand, 1) := by decide +kernel
theorem dL_cell_25 : decode cL_cell 25 = .ok (.ireturn, 1) := by decide +kernel
theorem dL_about_0 : decode cL_about 0 = .ok (.aload_n 0, 1) := by decide +kernel
theorem dL_about_1 : decode cL_about 1 = .ok (.iconst 2, 1) := by decide +kernel
theorem dL_about_2 : decode cL_about 2 = .ok (.iload_n 1, 1) := by decide +kernel
theorem dL_about_3 : decode cL_about 3 = .ok (.iconst 0, 1) := by decide +kernel
theorem dL_about_4 : decode cL_about 4 = .ok (.iconst 0, 1) := by decide +kernel
theorem dL_about_5 : decode cL_about 5 = .ok (.iconst 0, 1) := by decide +kernel
theorem dL_about_6 : decode cL_about 6 = .ok (.invokestatic 180, 3) := by decide +kernel
theorem dL_about_9 : decode cL_about 9 = .ok (.ireturn, 1) := by decide +kernel
theorem dL_segment_0 : decode cL_segment 0 = .ok (.aload_n 0, 1) := by decide +kernel
theorem dL_segment_1 : decode cL_segment 1 = .ok (.iconst 3, 1) := by decide +kernel
theorem dL_segment_2 : decode cL_segment 2 = .ok (.iload_n 1, 1) := by decide +kernel
theorem dL_segment_3 : decode cL_segment 3 = .ok (.iload_n 2, 1) := by decide +kernel
theorem dL_segment_4 : decode cL_segment 4 = .ok (.iconst 0, 1) := by decide +kernel
theorem dL_segment_5 : decode cL_segment 5 = .ok (.iconst 0, 1) := by decide +kernel
theorem dL_segment_6 : decode cL_segment 6 = .ok (.invokestatic 180, 3) := by decide +kernel
theorem dL_segment_9 : decode cL_segment 9 = .ok (.ireturn, 1) := by decide +kernel
theorem dL_house_0 : decode cL_house 0 = .ok (.aload_n 0, 1) := by decide +kernel
theorem dL_house_1 : decode cL_house 1 = .ok (.iconst 4, 1) := by decide +kernel
theorem dL_house_2 : decode cL_house 2 = .ok (.iload_n 1, 1) := by decide +kernel
theorem dL_house_3 : decode cL_house 3 = .ok (.iload_n 2, 1) := by decide +kernel
theorem dL_house_4 : decode cL_house 4 = .ok (.iconst 0, 1) := by decide +kernel
theorem dL_house_5 : decode cL_house 5 = .ok (.iconst 0, 1) := by decide +kernel
theorem dL_house_6 : decode cL_house 6 = .ok (.invokestatic 180, 3) := by decide +kernel
theorem dL_house_9 : decode cL_house 9 = .ok (.ireturn, 1) := by decide +kernel
theorem dL_wagon_0 : decode cL_wagon 0 = .ok (.aload_n 0, 1) := by decide +kernel
theorem dL_wagon_1 : decode cL_wagon 1 = .ok (.iconst 5, 1) := by decide +kernel
theorem dL_wagon_2 : decode cL_wagon 2 = .ok (.iload_n 1, 1) := by decide +kernel
theorem dL_wagon_3 : decode cL_wagon 3 = .ok (.iload_n 2, 1) := by decide +kernel
theorem dL_wagon_4 : decode cL_wagon 4 = .ok (.iconst 0, 1) := by decide +kernel
theorem dL_wagon_5 : decode cL_wagon 5 = .ok (.iconst 0, 1) := by decide +kernel
theorem dL_wagon_6 : decode cL_wagon 6 = .ok (.invokestatic 180, 3) := by decide +kernel
