theorem dL_wagon_9 : decode cL_wagon 9 = .ok (.ireturn, 1) := by decide +kernel
theorem dL_sum_0 : decode cL_sum 0 = .ok (.lconst 0, 1) := by decide +kernel
theorem dL_sum_1 : decode cL_sum 1 = .ok (.lstore_n 1, 1) := by decide +kernel
theorem dL_sum_2 : decode cL_sum 2 = .ok (.iconst 0, 1) := by decide +kernel
theorem dL_sum_3 : decode cL_sum 3 = .ok (.istore_n 3, 1) := by decide +kernel
theorem dL_sum_4 : decode cL_sum 4 = .ok (.iload_n 3, 1) := by decide +kernel
theorem dL_sum_5 : decode cL_sum 5 = .ok (.bipush 13, 2) := by decide +kernel
theorem dL_sum_7 : decode cL_sum 7 = .ok (.if_icmp .ge 22, 3) := by decide +kernel
theorem dL_sum_10 : decode cL_sum 10 = .ok (.ldc2_w 184, 3) := by decide +kernel
theorem dL_sum_13 : decode cL_sum 13 = .ok (.lload_n 1, 1) := by decide +kernel
theorem dL_sum_14 : decode cL_sum 14 = .ok (.lmul, 1) := by decide +kernel
theorem dL_sum_15 : decode cL_sum 15 = .ok (.aload_n 0, 1) := by decide +kernel
theorem dL_sum_16 : decode cL_sum 16 = .ok (.iload_n 3, 1) := by decide +kernel
theorem dL_sum_17 : decode cL_sum 17 = .ok (.invokestatic 186, 3) := by decide +kernel
theorem dL_sum_20 : decode cL_sum 20 = .ok (.i2l, 1) := by decide +kernel
theorem dL_sum_21 : decode cL_sum 21 = .ok (.ladd, 1) := by decide +kernel
theorem dL_sum_22 : decode cL_sum 22 = .ok (.lstore_n 1, 1) := by decide +kernel
theorem dL_sum_23 : decode cL_sum 23 = .ok (.iinc 3 1, 3) := by decide +kernel
theorem dL_sum_26 : decode cL_sum 26 = .ok (.goto (-22), 3) := by decide +kernel
theorem dL_sum_29 : decode cL_sum 29 = .ok (.iconst 0, 1) := by decide +kernel
theorem dL_sum_30 : decode cL_sum 30 = .ok (.istore_n 3, 1) := by decide +kernel
theorem dL_sum_31 : decode cL_sum 31 = .ok (.iload_n 3, 1) := by decide +kernel
theorem dL_sum_32 : decode cL_sum 32 = .ok (.aload_n 0, 1) := by decide +kernel
theorem dL_sum_33 : decode cL_sum 33 = .ok (.iconst 0, 1) := by decide +kernel
theorem dL_sum_34 : decode cL_sum 34 = .ok (.invokestatic 186, 3) := by decide +kernel
theorem dL_sum_37 : decode cL_sum 37 = .ok (.if_icmp .ge 40, 3) := by decide +kernel
theorem dL_sum_40 : decode cL_sum 40 = .ok (.iconst 0, 1) := by decide +kernel
theorem dL_sum_41 : decode cL_sum 41 = .ok (.istore 4, 2) := by decide +kernel
theorem dL_sum_43 : decode cL_sum 43 = .ok (.iload 4, 2) := by decide +kernel
theorem dL_sum_45 : decode cL_sum 45 = .ok (.bipush 7, 2) := by decide +kernel
theorem dL_sum_47 : decode cL_sum 47 = .ok (.if_icmp .ge 24, 3) := by decide +kernel
theorem dL_sum_50 : decode cL_sum 50 = .ok (.ldc2_w 184, 3) := by decide +kernel
theorem dL_sum_53 : decode cL_sum 53 = .ok (.lload_n 1, 1) := by decide +kernel
theorem dL_sum_54 : decode cL_sum 54 = .ok (.lmul, 1) := by decide +kernel
theorem dL_sum_55 : decode cL_sum 55 = .ok (.aload_n 0, 1) := by decide +kernel
theorem dL_sum_56 : decode cL_sum 56 = .ok (.iload_n 3, 1) := by decide +kernel
theorem dL_sum_57 : decode cL_sum 57 = .ok (.iload 4, 2) := by decide +kernel
theorem dL_sum_59 : decode cL_sum 59 = .ok (.invokestatic 188, 3) := by decide +kernel
theorem dL_sum_62 : decode cL_sum 62 = .ok (.i2l, 1) := by decide +kernel
theorem dL_sum_63 : decode cL_sum 63 = .ok (.ladd, 1) := by decide +kernel
theorem dL_sum_64 : decode cL_sum 64 = .ok (.lstore_n 1, 1) := by decide +kernel
theorem dL_sum_65 : decode cL_sum 65 = .ok (.iinc 4 1, 3) := by decide +kernel
theorem dL_sum_68 : decode cL_sum 68 = .ok (.goto (-25), 3) := by decide +kernel
theorem dL_sum_71 : decode cL_sum 71 = .ok (.iinc 3 1, 3) := by decide +kernel
theorem dL_sum_74 : decode cL_sum 74 = .ok (.goto (-43), 3) := by decide +kernel
theorem dL_sum_77 : decode cL_sum 77 = .ok (.iconst 0, 1) := by decide +kernel
theorem dL_sum_78 : decode cL_sum 78 = .ok (.istore_n 3, 1) := by decide +kernel
theorem dL_sum_79 : decode cL_sum 79 = .ok (.iload_n 3, 1) := by decide +kernel
theorem dL_sum_80 : decode cL_sum 80 = .ok (.aload_n 0, 1) := by decide +kernel
theorem dL_sum_81 : decode cL_sum 81 = .ok (.iconst 1, 1) := by decide +kernel
theorem dL_sum_82 : decode cL_sum 82 = .ok (.invokestatic 186, 3) := by decide +kernel
theorem dL_sum_85 : decode cL_sum 85 = .ok (.if_icmp .ge 39, 3) := by decide +kernel
theorem dL_sum_88 : decode cL_sum 88 = .ok (.iconst 0, 1) := by decide +kernel
theorem dL_sum_89 : decode cL_sum 89 = .ok (.istore 4, 2) := by decide +kernel
theorem dL_sum_91 : decode cL_sum 91 = .ok (.iload 4, 2) := by decide +kernel
theorem dL_sum_93 : decode cL_sum 93 = .ok (.iconst 5, 1) := by decide +kernel
theorem dL_sum_94 : decode cL_sum 94 = .ok (.if_icmp .ge 24, 3) := by decide +kernel
theorem dL_sum_97 : decode cL_sum 97 = .ok (.ldc2_w 184, 3) := by decide +kernel
theorem dL_sum_100 : decode cL_sum 100 = .ok (.lload_n 1, 1) := by decide +kernel
theorem dL_sum_101 : decode cL_sum 101 = .ok (.lmul, 1) := by decide +kernel
theorem dL_sum_102 : decode cL_sum 102 = .ok (.aload_n 0, 1) := by decide +kernel
theorem dL_sum_103 : decode cL_sum 103 = .ok (.iload_n 3, 1) := by decide +kernel
theorem dL_sum_104 : decode cL_sum 104 = .ok (.iload 4, 2) := by decide +kernel
theorem dL_sum_106 : decode cL_sum 106 = .ok (.invokestatic 190, 3) := by decide +kernel
theorem dL_sum_109 : decode cL_sum 109 = .ok (.i2l, 1) := by decide +kernel
theorem dL_sum_110 : decode cL_sum 110 = .ok (.ladd, 1) := by decide +kernel
theorem dL_sum_111 : decode cL_sum 111 = .ok (.lstore_n 1, 1) := by decide +kernel
theorem dL_sum_112 : decode cL_sum 112 = .ok (.iinc 4 1, 3) := by decide +kernel
theorem dL_sum_115 : decode cL_sum 115 = .ok (.goto (-24), 3) := by decide +kernel
theorem dL_sum_118 : decode cL_sum 118 = .ok (.iinc 3 1, 3) := by decide +kernel
theorem dL_sum_121 : decode cL_sum 121 = .ok (.goto (-42), 3) := by decide +kernel
theorem dL_sum_124 : decode cL_sum 124 = .ok (.iconst 0, 1) := by decide +kernel
theorem dL_sum_125 : decode cL_sum 125 = .ok (.istore_n 3, 1) := by decide +kernel
theorem dL_sum_126 : decode cL_sum 126 = .ok (.iload_n 3, 1) := by decide +kernel
theorem dL_sum_127 : decode cL_sum 127 = .ok (.aload_n 0, 1) := by decide +kernel
theorem dL_sum_128 : decode cL_sum 128 = .ok (.iconst 2, 1) := by decide +kernel
theorem dL_sum_129 : decode cL_sum 129 = .ok (.invokestatic 186, 3) := by decide +kernel
theorem dL_sum_132 : decode cL_sum 132 = .ok (.if_icmp .ge 39, 3) := by decide +kernel
theorem dL_sum_135 : decode cL_sum 135 = .ok (.iconst 0, 1) := by decide +kernel
theorem dL_sum_136 : decode cL_sum 136 = .ok (.istore 4, 2) := by decide +kernel
theorem dL_sum_138 : decode cL_sum 138 = .ok (.iload 4, 2) := by decide +kernel
theorem dL_sum_140 : decode cL_sum 140 = .ok (.iconst 3, 1) := by decide +kernel
theorem dL_sum_141 : decode cL_sum 141 = .ok (.if_icmp .ge 24, 3) := by decide +kernel
theorem dL_sum_144 : decode cL_sum 144 = .ok (.ldc2_w 184, 3) := by decide +kernel
theorem dL_sum_147 : decode cL_sum 147 = .ok (.lload_n 1, 1) := by decide +kernel
theorem dL_sum_148 : decode cL_sum 148 = .ok (.lmul, 1) := by decide +kernel
theorem dL_sum_149 : decode cL_sum 149 = .ok (.aload_n 0, 1) := by decide +kernel
theorem dL_sum_150 : decode cL_sum 150 = .ok (.iload_n 3, 1) := by decide +kernel
theorem dL_sum_151 : decode cL_sum 151 = .ok (.iload 4, 2) := by decide +kernel
theorem dL_sum_153 : decode cL_sum 153 = .ok (.invokestatic 192, 3) := by decide +kernel
theorem dL_sum_156 : decode cL_sum 156 = .ok (.i2l, 1) := by decide +kernel
theorem dL_sum_157 : decode cL_sum 157 = .ok (.ladd, 1) := by decide +kernel
theorem dL_sum_158 : decode cL_sum 158 = .ok (.lstore_n 1, 1) := by decide +kernel
theorem dL_sum_159 : decode cL_sum 159 = .ok (.iinc 4 1, 3) := by decide +kernel
theorem dL_sum_162 : decode cL_sum 162 = .ok (.goto (-24), 3) := by decide +kernel
theorem dL_sum_165 : decode cL_sum 165 = .ok (.iinc 3 1, 3) := by decide +kernel
theorem dL_sum_168 : decode cL_sum 168 = .ok (.goto (-42), 3) := by decide +kernel
theorem dL_sum_171 : decode cL_sum 171 = .ok (.lload_n 1, 1) := by decide +kernel
theorem dL_sum_172 : decode cL_sum 172 = .ok (.lreturn, 1) := by decide +kernel
theorem dL_numbers_0 : decode cL_numbers 0 = .ok (.iconst 1, 1) := by decide +kernel
theorem dL_numbers_1 : decode cL_numbers 1 = .ok (.istore_n 1, 1) := by decide +kernel
theorem dL_numbers_2 : decode cL_numbers 2 = .ok (.iconst 0, 1) := by decide +kernel
theorem dL_numbers_3 : decode cL_numbers 3 = .ok (.istore_n 2, 1) := by decide +kernel
theorem dL_numbers_4 : decode cL_numbers 4 = .ok (.iconst 0, 1) := by decide +kernel
theorem dL_numbers_5 : decode cL_numbers 5 = .ok (.istore_n 3, 1) := by decide +kernel
theorem dL_numbers_6 : decode cL_numbers 6 = .ok (.iconst 0, 1) := by decide +kernel
theorem dL_numbers_7 : decode cL_numbers 7 = .ok (.istore 4, 2) := by decide +kernel
theorem dL_numbers_9 : decode cL_numbers 9 = .ok (.iconst 0, 1) := by decide +kernel
theorem dL_numbers_10 : decode cL_numbers 10 = .ok (.istore 5, 2) := by decide +kernel
theorem dL_numbers_12 : decode cL_numbers 12 = .ok (.iload 5, 2) := by decide +kernel
theorem dL_numbers_14 : decode cL_numbers 14 = .ok (.aload_n 0, 1) := by decide +kernel
theorem dL_numbers_15 : decode cL_numbers 15 = .ok (.iconst 0, 1) := by decide +kernel
theorem dL_numbers_16 : decode cL_numbers 16 = .ok (.invokestatic 186, 3) := by decide +kernel
theorem dL_numbers_19 : decode cL_numbers 19 = .ok (.if_icmp .ge 144, 3) := by decide +kernel
theorem dL_numbers_22 : decode cL_numbers 22 = .ok (.aload_n 0, 1) := by decide +kernel
theorem dL_numbers_23 : decode cL_numbers 23 = .ok (.iload 5, 2) := by decide +kernel
theorem dL_numbers_25 : decode cL_numbers 25 = .ok (.bipush 6, 2) := by decide +kernel
theorem dL_numbers_27 : decode cL_numbers 27 = .ok (.invokestatic 188, 3) := by decide +kernel
theorem dL_numbers_30 : decode cL_numbers 30 = .ok (.istore 6, 2) := by decide +kernel
theorem dL_numbers_32 : decode cL_numbers 32 = .ok (.aload_n 0, 1) := by decide +kernel
theorem dL_numbers_33 : decode cL_numbers 33 = .ok (.iload 5, 2) := by decide +kernel
theorem dL_numbers_35 : decode cL_numbers 35 = .ok (.iconst 2, 1) := by decide +kernel
theorem dL_numbers_36 : decode cL_numbers 36 = .ok (.invokestatic 188, 3) := by decide +kernel
theorem dL_numbers_39 : decode cL_numbers 39 = .ok (.istore 7, 2) := by decide +kernel
theorem dL_numbers_41 : decode cL_numbers 41 = .ok (.iload_n 1, 1) := by decide +kernel
theorem dL_numbers_42 : decode cL_numbers 42 = .ok (.aload_n 0, 1) := by decide +kernel
theorem dL_numbers_43 : decode cL_numbers 43 = .ok (.iload 5, 2) := by decide +kernel
theorem dL_numbers_45 : decode cL_numbers 45 = .ok (.iconst 1, 1) := by decide +kernel
theorem dL_numbers_46 : decode cL_numbers 46 = .ok (.invokestatic 188, 3) := by decide +kernel
theorem dL_numbers_49 : decode cL_numbers 49 = .ok (.iconst 1, 1) := by decide +kernel
theorem dL_numbers_50 : decode cL_numbers 50 = .ok (.if_icmp .lt 87, 3) := by decide +kernel
theorem dL_numbers_53 : decode cL_numbers 53 = .ok (.aload_n 0, 1) := by decide +kernel
theorem dL_numbers_54 : decode cL_numbers 54 = .ok (.iload 5, 2) := by decide +kernel
theorem dL_numbers_56 : decode cL_numbers 56 = .ok (.iconst 1, 1) := by decide +kernel
theorem dL_numbers_57 : decode cL_numbers 57 = .ok (.invokestatic 188, 3) := by decide +kernel
theorem dL_numbers_60 : decode cL_numbers 60 = .ok (.iload 7, 2) := by decide +kernel
theorem dL_numbers_62 : decode cL_numbers 62 = .ok (.iadd, 1) := by decide +kernel
theorem dL_numbers_63 : decode cL_numbers 63 = .ok (.iconst 5, 1) := by decide +kernel
theorem dL_numbers_64 : decode cL_numbers 64 = .ok (.if_icmp .gt 73, 3) := by decide +kernel
theorem dL_numbers_67 : decode cL_numbers 67 = .ok (.iload 7, 2) := by decide +kernel
theorem dL_numbers_69 : decode cL_numbers 69 = .ok (.iload 6, 2) := by decide +kernel
theorem dL_numbers_71 : decode cL_numbers 71 = .ok (.iconst 3, 1) := by decide +kernel
theorem dL_numbers_72 : decode cL_numbers 72 = .ok (.idiv, 1) := by decide +kernel
theorem dL_numbers_73 : decode cL_numbers 73 = .ok (.iconst 4, 1) := by decide +kernel
theorem dL_numbers_74 : decode cL_numbers 74 = .ok (.if_icmp .ge 10, 3) := by decide +kernel
theorem dL_numbers_77 : decode cL_numbers 77 = .ok (.iload 6, 2) := by decide +kernel
theorem dL_numbers_79 : decode cL_numbers 79 = .ok (.iconst 3, 1) := by decide +kernel
theorem dL_numbers_80 : decode cL_numbers 80 = .ok (.idiv, 1) := by decide +kernel
theorem dL_numbers_81 : decode cL_numbers 81 = .ok (.goto 4, 3) := by decide +kernel
theorem dL_numbers_84 : decode cL_numbers 84 = .ok (.iconst 4, 1) := by decide +kernel
theorem dL_numbers_85 : decode cL_numbers 85 = .ok (.if_icmp .ne 52, 3) := by decide +kernel
theorem dL_numbers_88 : decode cL_numbers 88 = .ok (.aload_n 0, 1) := by decide +kernel
theorem dL_numbers_89 : decode cL_numbers 89 = .ok (.iload 5, 2) := by decide +kernel
theorem dL_numbers_91 : decode cL_numbers 91 = .ok (.iconst 3, 1) := by decide +kernel
theorem dL_numbers_92 : decode cL_numbers 92 = .ok (.invokestatic 188, 3) := by decide +kernel
theorem dL_numbers_95 : decode cL_numbers 95 = .ok (.ifCond .lt 42, 3) := by decide +kernel
theorem dL_numbers_98 : decode cL_numbers 98 = .ok (.aload_n 0, 1) := by decide +kernel
theorem dL_numbers_99 : decode cL_numbers 99 = .ok (.iload 5, 2) := by decide +kernel
theorem dL_numbers_101 : decode cL_numbers 101 = .ok (.iconst 3, 1) := by decide +kernel
theorem dL_numbers_102 : decode cL_numbers 102 = .ok (.invokestatic 188, 3) := by decide +kernel
theorem dL_numbers_105 : decode cL_numbers 105 = .ok (.sipush 999, 3) := by decide +kernel
theorem dL_numbers_108 : decode cL_numbers 108 = .ok (.if_icmp .gt 29, 3) := by decide +kernel
theorem dL_numbers_111 : decode cL_numbers 111 = .ok (.aload_n 0, 1) := by decide +kernel
theorem dL_numbers_112 : decode cL_numbers 112 = .ok (.iload 5, 2) := by decide +kernel
theorem dL_numbers_114 : decode cL_numbers 114 = .ok (.iconst 4, 1) := by decide +kernel
theorem dL_numbers_115 : decode cL_numbers 115 = .ok (.invokestatic 188, 3) := by decide +kernel
theorem dL_numbers_118 : decode cL_numbers 118 = .ok (.ifCond .lt 19, 3) := by decide +kernel
theorem dL_numbers_121 : decode cL_numbers 121 = .ok (.aload_n 0, 1) := by decide +kernel
theorem dL_numbers_122 : decode cL_numbers 122 = .ok (.iload 5, 2) := by decide +kernel
theorem dL_numbers_124 : decode cL_numbers 124 = .ok (.iconst 4, 1) := by decide +kernel
theorem dL_numbers_125 : decode cL_numbers 125 = .ok (.invokestatic 188, 3) := by decide +kernel
theorem dL_numbers_128 : decode cL_numbers 128 = .ok (.bipush 9, 2) := by decide +kernel
theorem dL_numbers_130 : decode cL_numbers 130 = .ok (.if_icmp .gt 7, 3) := by decide +kernel
theorem dL_numbers_133 : decode cL_numbers 133 = .ok (.iconst 1, 1) := by decide +kernel
theorem dL_numbers_134 : decode cL_numbers 134 = .ok (.goto 4, 3) := by decide +kernel
theorem dL_numbers_137 : decode cL_numbers 137 = .ok (.iconst 0, 1) := by decide +kernel
theorem dL_numbers_138 : decode cL_numbers 138 = .ok (.iand, 1) := by decide +kernel
theorem dL_numbers_139 : decode cL_numbers 139 = .ok (.istore_n 1, 1) := by decide +kernel
theorem dL_numbers_140 : decode cL_numbers 140 = .ok (.iload_n 2, 1) := by decide +kernel
theorem dL_numbers_141 : decode cL_numbers 141 = .ok (.iload 6, 2) := by decide +kernel
theorem dL_numbers_143 : decode cL_numbers 143 = .ok (.iadd, 1) := by decide +kernel
theorem dL_numbers_144 : decode cL_numbers 144 = .ok (.istore_n 2, 1) := by decide +kernel
theorem dL_numbers_145 : decode cL_numbers 145 = .ok (.iload 4, 2) := by decide +kernel
theorem dL_numbers_147 : decode cL_numbers 147 = .ok (.aload_n 0, 1) := by decide +kernel
theorem dL_numbers_148 : decode cL_numbers 148 = .ok (.iload 5, 2) := by decide +kernel
theorem dL_numbers_150 : decode cL_numbers 150 = .ok (.iconst 3, 1) := by decide +kernel
theorem dL_numbers_151 : decode cL_numbers 151 = .ok (.invokestatic 188, 3) := by decide +kernel
theorem dL_numbers_154 : decode cL_numbers 154 = .ok (.iadd, 1) := by decide +kernel
theorem dL_numbers_155 : decode cL_numbers 155 = .ok (.istore 4, 2) := by decide +kernel
theorem dL_numbers_157 : decode cL_numbers 157 = .ok (.iinc 5 1, 3) := by decide +kernel
theorem dL_numbers_160 : decode cL_numbers 160 = .ok (.goto (-148), 3) := by decide +kernel
theorem dL_numbers_163 : decode cL_numbers 163 = .ok (.iconst 0, 1) := by decide +kernel
theorem dL_numbers_164 : decode cL_numbers 164 = .ok (.istore 5, 2) := by decide +kernel
theorem dL_numbers_166 : decode cL_numbers 166 = .ok (.iload 5, 2) := by decide +kernel
theorem dL_numbers_168 : decode cL_numbers 168 = .ok (.aload_n 0, 1) := by decide +kernel
theorem dL_numbers_169 : decode cL_numbers 169 = .ok (.iconst 1, 1) := by decide +kernel
theorem dL_numbers_170 : decode cL_numbers 170 = .ok (.invokestatic 186, 3) := by decide +kernel
theorem dL_numbers_173 : decode cL_numbers 173 = .ok (.if_icmp .ge 54, 3) := by decide +kernel
theorem dL_numbers_176 : decode cL_numbers 176 = .ok (.iload_n 3, 1) := by decide +kernel
theorem dL_numbers_177 : decode cL_numbers 177 = .ok (.aload_n 0, 1) := by decide +kernel
