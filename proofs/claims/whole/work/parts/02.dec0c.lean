theorem dX0_performShift_0 : decode cX0_performShift 0 = .ok (.aload_n 0, 1) := by decide +kernel
theorem dX0_performShift_1 : decode cX0_performShift 1 = .ok (.getfield 16, 3) := by decide +kernel
theorem dX0_performShift_4 : decode cX0_performShift 4 = .ok (.iload_n 1, 1) := by decide +kernel
theorem dX0_performShift_5 : decode cX0_performShift 5 = .ok (.invokestatic 84, 3) := by decide +kernel
theorem dX0_performShift_8 : decode cX0_performShift 8 = .ok (.iaload, 1) := by decide +kernel
theorem dX0_performShift_9 : decode cX0_performShift 9 = .ok (.istore_n 2, 1) := by decide +kernel
theorem dX0_performShift_10 : decode cX0_performShift 10 = .ok (.iload_n 1, 1) := by decide +kernel
theorem dX0_performShift_11 : decode cX0_performShift 11 = .ok (.invokestatic 145, 3) := by decide +kernel
theorem dX0_performShift_14 : decode cX0_performShift 14 = .ok (.istore_n 3, 1) := by decide +kernel
theorem dX0_performShift_15 : decode cX0_performShift 15 = .ok (.aload_n 0, 1) := by decide +kernel
theorem dX0_performShift_16 : decode cX0_performShift 16 = .ok (.getfield 16, 3) := by decide +kernel
theorem dX0_performShift_19 : decode cX0_performShift 19 = .ok (.iload_n 1, 1) := by decide +kernel
theorem dX0_performShift_20 : decode cX0_performShift 20 = .ok (.invokestatic 109, 3) := by decide +kernel
theorem dX0_performShift_23 : decode cX0_performShift 23 = .ok (.iaload, 1) := by decide +kernel
theorem dX0_performShift_24 : decode cX0_performShift 24 = .ok (.bipush 31, 2) := by decide +kernel
theorem dX0_performShift_26 : decode cX0_performShift 26 = .ok (.iand, 1) := by decide +kernel
theorem dX0_performShift_27 : decode cX0_performShift 27 = .ok (.istore 4, 2) := by decide +kernel
theorem dX0_performShift_29 : decode cX0_performShift 29 = .ok (.iload_n 1, 1) := by decide +kernel
theorem dX0_performShift_30 : decode cX0_performShift 30 = .ok (.invokestatic 120, 3) := by decide +kernel
theorem dX0_performShift_33 : decode cX0_performShift 33 = .ok (.istore 5, 2) := by decide +kernel
theorem dX0_performShift_35 : decode cX0_performShift 35 = .ok (.iload_n 1, 1) := by decide +kernel
theorem dX0_performShift_36 : decode cX0_performShift 36 = .ok (.invokestatic 81, 3) := by decide +kernel
theorem dX0_performShift_39 : decode cX0_performShift 39 = .ok (.tableswitch 108 0 7 #[45, 108, 55, 65, 75, 108, 86, 97], 45) := by decide +kernel
theorem dX0_performShift_84 : decode cX0_performShift 84 = .ok (.aload_n 0, 1) := by decide +kernel
theorem dX0_performShift_85 : decode cX0_performShift 85 = .ok (.iload 5, 2) := by decide +kernel
theorem dX0_performShift_87 : decode cX0_performShift 87 = .ok (.iload_n 2, 1) := by decide +kernel
theorem dX0_performShift_88 : decode cX0_performShift 88 = .ok (.iload_n 3, 1) := by decide +kernel
theorem dX0_performShift_89 : decode cX0_performShift 89 = .ok (.ishl, 1) := by decide +kernel
theorem dX0_performShift_90 : decode cX0_performShift 90 = .ok (.invokevirtual 105, 3) := by decide +kernel
theorem dX0_performShift_93 : decode cX0_performShift 93 = .ok (.ireturn, 1) := by decide +kernel
theorem dX0_performShift_94 : decode cX0_performShift 94 = .ok (.aload_n 0, 1) := by decide +kernel
theorem dX0_performShift_95 : decode cX0_performShift 95 = .ok (.iload 5, 2) := by decide +kernel
theorem dX0_performShift_97 : decode cX0_performShift 97 = .ok (.iload_n 2, 1) := by decide +kernel
theorem dX0_performShift_98 : decode cX0_performShift 98 = .ok (.iload_n 3, 1) := by decide +kernel
theorem dX0_performShift_99 : decode cX0_performShift 99 = .ok (.iushr, 1) := by decide +kernel
theorem dX0_performShift_100 : decode cX0_performShift 100 = .ok (.invokevirtual 105, 3) := by decide +kernel
theorem dX0_performShift_103 : decode cX0_performShift 103 = .ok (.ireturn, 1) := by decide +kernel
theorem dX0_performShift_104 : decode cX0_performShift 104 = .ok (.aload_n 0, 1) := by decide +kernel
theorem dX0_performShift_105 : decode cX0_performShift 105 = .ok (.iload 5, 2) := by decide +kernel
theorem dX0_performShift_107 : decode cX0_performShift 107 = .ok (.iload_n 2, 1) := by decide +kernel
theorem dX0_performShift_108 : decode cX0_performShift 108 = .ok (.iload_n 3, 1) := by decide +kernel
theorem dX0_performShift_109 : decode cX0_performShift 109 = .ok (.ishr, 1) := by decide +kernel
theorem dX0_performShift_110 : decode cX0_performShift 110 = .ok (.invokevirtual 105, 3) := by decide +kernel
theorem dX0_performShift_113 : decode cX0_performShift 113 = .ok (.ireturn, 1) := by decide +kernel
theorem dX0_performShift_114 : decode cX0_performShift 114 = .ok (.aload_n 0, 1) := by decide +kernel
theorem dX0_performShift_115 : decode cX0_performShift 115 = .ok (.iload 5, 2) := by decide +kernel
theorem dX0_performShift_117 : decode cX0_performShift 117 = .ok (.iload_n 2, 1) := by decide +kernel
theorem dX0_performShift_118 : decode cX0_performShift 118 = .ok (.iload 4, 2) := by decide +kernel
theorem dX0_performShift_120 : decode cX0_performShift 120 = .ok (.ishl, 1) := by decide +kernel
theorem dX0_performShift_121 : decode cX0_performShift 121 = .ok (.invokevirtual 105, 3) := by decide +kernel
theorem dX0_performShift_124 : decode cX0_performShift 124 = .ok (.ireturn, 1) := by decide +kernel
theorem dX0_performShift_125 : decode cX0_performShift 125 = .ok (.aload_n 0, 1) := by decide +kernel
theorem dX0_performShift_126 : decode cX0_performShift 126 = .ok (.iload 5, 2) := by decide +kernel
theorem dX0_performShift_128 : decode cX0_performShift 128 = .ok (.iload_n 2, 1) := by decide +kernel
theorem dX0_performShift_129 : decode cX0_performShift 129 = .ok (.iload 4, 2) := by decide +kernel
theorem dX0_performShift_131 : decode cX0_performShift 131 = .ok (.iushr, 1) := by decide +kernel
theorem dX0_performShift_132 : decode cX0_performShift 132 = .ok (.invokevirtual 105, 3) := by decide +kernel
theorem dX0_performShift_135 : decode cX0_performShift 135 = .ok (.ireturn, 1) := by decide +kernel
theorem dX0_performShift_136 : decode cX0_performShift 136 = .ok (.aload_n 0, 1) := by decide +kernel
theorem dX0_performShift_137 : decode cX0_performShift 137 = .ok (.iload 5, 2) := by decide +kernel
theorem dX0_performShift_139 : decode cX0_performShift 139 = .ok (.iload_n 2, 1) := by decide +kernel
theorem dX0_performShift_140 : decode cX0_performShift 140 = .ok (.iload 4, 2) := by decide +kernel
theorem dX0_performShift_142 : decode cX0_performShift 142 = .ok (.ishr, 1) := by decide +kernel
theorem dX0_performShift_143 : decode cX0_performShift 143 = .ok (.invokevirtual 105, 3) := by decide +kernel
theorem dX0_performShift_146 : decode cX0_performShift 146 = .ok (.ireturn, 1) := by decide +kernel
theorem dX0_performShift_147 : decode cX0_performShift 147 = .ok (.iconst 1, 1) := by decide +kernel
theorem dX0_performShift_148 : decode cX0_performShift 148 = .ok (.ireturn, 1) := by decide +kernel
theorem dX0_performHiLo_0 : decode cX0_performHiLo 0 = .ok (.aload_n 0, 1) := by decide +kernel
theorem dX0_performHiLo_1 : decode cX0_performHiLo 1 = .ok (.getfield 16, 3) := by decide +kernel
theorem dX0_performHiLo_4 : decode cX0_performHiLo 4 = .ok (.iload_n 1, 1) := by decide +kernel
theorem dX0_performHiLo_5 : decode cX0_performHiLo 5 = .ok (.invokestatic 109, 3) := by decide +kernel
theorem dX0_performHiLo_8 : decode cX0_performHiLo 8 = .ok (.iaload, 1) := by decide +kernel
theorem dX0_performHiLo_9 : decode cX0_performHiLo 9 = .ok (.istore_n 2, 1) := by decide +kernel
theorem dX0_performHiLo_10 : decode cX0_performHiLo 10 = .ok (.aload_n 0, 1) := by decide +kernel
theorem dX0_performHiLo_11 : decode cX0_performHiLo 11 = .ok (.getfield 16, 3) := by decide +kernel
theorem dX0_performHiLo_14 : decode cX0_performHiLo 14 = .ok (.iload_n 1, 1) := by decide +kernel
theorem dX0_performHiLo_15 : decode cX0_performHiLo 15 = .ok (.invokestatic 84, 3) := by decide +kernel
theorem dX0_performHiLo_18 : decode cX0_performHiLo 18 = .ok (.iaload, 1) := by decide +kernel
theorem dX0_performHiLo_19 : decode cX0_performHiLo 19 = .ok (.istore_n 3, 1) := by decide +kernel
theorem dX0_performHiLo_20 : decode cX0_performHiLo 20 = .ok (.iload_n 1, 1) := by decide +kernel
theorem dX0_performHiLo_21 : decode cX0_performHiLo 21 = .ok (.invokestatic 81, 3) := by decide +kernel
theorem dX0_performHiLo_24 : decode cX0_performHiLo 24 = .ok (.tableswitch 158 16 27 #[64, 80, 88, 104, 158, 158, 158, 158, 112, 122, 136, 145], 64) := by decide +kernel
theorem dX0_performHiLo_88 : decode cX0_performHiLo 88 = .ok (.aload_n 0, 1) := by decide +kernel
theorem dX0_performHiLo_89 : decode cX0_performHiLo 89 = .ok (.iload_n 1, 1) := by decide +kernel
theorem dX0_performHiLo_90 : decode cX0_performHiLo 90 = .ok (.invokestatic 120, 3) := by decide +kernel
theorem dX0_performHiLo_93 : decode cX0_performHiLo 93 = .ok (.aload_n 0, 1) := by decide +kernel
theorem dX0_performHiLo_94 : decode cX0_performHiLo 94 = .ok (.getfield 16, 3) := by decide +kernel
theorem dX0_performHiLo_97 : decode cX0_performHiLo 97 = .ok (.bipush 32, 2) := by decide +kernel
theorem dX0_performHiLo_99 : decode cX0_performHiLo 99 = .ok (.iaload, 1) := by decide +kernel
theorem dX0_performHiLo_100 : decode cX0_performHiLo 100 = .ok (.invokevirtual 105, 3) := by decide +kernel
theorem dX0_performHiLo_103 : decode cX0_performHiLo 103 = .ok (.ireturn, 1) := by decide +kernel
theorem dX0_performHiLo_104 : decode cX0_performHiLo 104 = .ok (.aload_n 0, 1) := by decide +kernel
theorem dX0_performHiLo_105 : decode cX0_performHiLo 105 = .ok (.bipush 32, 2) := by decide +kernel
theorem dX0_performHiLo_107 : decode cX0_performHiLo 107 = .ok (.iload_n 2, 1) := by decide +kernel
theorem dX0_performHiLo_108 : decode cX0_performHiLo 108 = .ok (.invokevirtual 105, 3) := by decide +kernel
theorem dX0_performHiLo_111 : decode cX0_performHiLo 111 = .ok (.ireturn, 1) := by decide +kernel
theorem dX0_performHiLo_112 : decode cX0_performHiLo 112 = .ok (.aload_n 0, 1) := by decide +kernel
theorem dX0_performHiLo_113 : decode cX0_performHiLo 113 = .ok (.iload_n 1, 1) := by decide +kernel
theorem dX0_performHiLo_114 : decode cX0_performHiLo 114 = .ok (.invokestatic 120, 3) := by decide +kernel
theorem dX0_performHiLo_117 : decode cX0_performHiLo 117 = .ok (.aload_n 0, 1) := by decide +kernel
theorem dX0_performHiLo_118 : decode cX0_performHiLo 118 = .ok (.getfield 16, 3) := by decide +kernel
theorem dX0_performHiLo_121 : decode cX0_performHiLo 121 = .ok (.bipush 33, 2) := by decide +kernel
theorem dX0_performHiLo_123 : decode cX0_performHiLo 123 = .ok (.iaload, 1) := by decide +kernel
theorem dX0_performHiLo_124 : decode cX0_performHiLo 124 = .ok (.invokevirtual 105, 3) := by decide +kernel
theorem dX0_performHiLo_127 : decode cX0_performHiLo 127 = .ok (.ireturn, 1) := by decide +kernel
theorem dX0_performHiLo_128 : decode cX0_performHiLo 128 = .ok (.aload_n 0, 1) := by decide +kernel
theorem dX0_performHiLo_129 : decode cX0_performHiLo 129 = .ok (.bipush 33, 2) := by decide +kernel
theorem dX0_performHiLo_131 : decode cX0_performHiLo 131 = .ok (.iload_n 2, 1) := by decide +kernel
theorem dX0_performHiLo_132 : decode cX0_performHiLo 132 = .ok (.invokevirtual 105, 3) := by decide +kernel
theorem dX0_performHiLo_135 : decode cX0_performHiLo 135 = .ok (.ireturn, 1) := by decide +kernel
theorem dX0_performHiLo_136 : decode cX0_performHiLo 136 = .ok (.aload_n 0, 1) := by decide +kernel
theorem dX0_performHiLo_137 : decode cX0_performHiLo 137 = .ok (.iload_n 2, 1) := by decide +kernel
theorem dX0_performHiLo_138 : decode cX0_performHiLo 138 = .ok (.i2l, 1) := by decide +kernel
theorem dX0_performHiLo_139 : decode cX0_performHiLo 139 = .ok (.iload_n 3, 1) := by decide +kernel
theorem dX0_performHiLo_140 : decode cX0_performHiLo 140 = .ok (.i2l, 1) := by decide +kernel
theorem dX0_performHiLo_141 : decode cX0_performHiLo 141 = .ok (.lmul, 1) := by decide +kernel
theorem dX0_performHiLo_142 : decode cX0_performHiLo 142 = .ok (.invokevirtual 148, 3) := by decide +kernel
theorem dX0_performHiLo_145 : decode cX0_performHiLo 145 = .ok (.ireturn, 1) := by decide +kernel
theorem dX0_performHiLo_146 : decode cX0_performHiLo 146 = .ok (.aload_n 0, 1) := by decide +kernel
theorem dX0_performHiLo_147 : decode cX0_performHiLo 147 = .ok (.iload_n 2, 1) := by decide +kernel
theorem dX0_performHiLo_148 : decode cX0_performHiLo 148 = .ok (.invokestatic 152, 3) := by decide +kernel
theorem dX0_performHiLo_151 : decode cX0_performHiLo 151 = .ok (.iload_n 3, 1) := by decide +kernel
theorem dX0_performHiLo_152 : decode cX0_performHiLo 152 = .ok (.invokestatic 152, 3) := by decide +kernel
theorem dX0_performHiLo_155 : decode cX0_performHiLo 155 = .ok (.lmul, 1) := by decide +kernel
theorem dX0_performHiLo_156 : decode cX0_performHiLo 156 = .ok (.invokevirtual 148, 3) := by decide +kernel
theorem dX0_performHiLo_159 : decode cX0_performHiLo 159 = .ok (.ireturn, 1) := by decide +kernel
theorem dX0_performHiLo_160 : decode cX0_performHiLo 160 = .ok (.aload_n 0, 1) := by decide +kernel
theorem dX0_performHiLo_161 : decode cX0_performHiLo 161 = .ok (.iload_n 2, 1) := by decide +kernel
theorem dX0_performHiLo_162 : decode cX0_performHiLo 162 = .ok (.i2l, 1) := by decide +kernel
theorem dX0_performHiLo_163 : decode cX0_performHiLo 163 = .ok (.iload_n 3, 1) := by decide +kernel
theorem dX0_performHiLo_164 : decode cX0_performHiLo 164 = .ok (.i2l, 1) := by decide +kernel
theorem dX0_performHiLo_165 : decode cX0_performHiLo 165 = .ok (.invokevirtual 156, 3) := by decide +kernel
theorem dX0_performHiLo_168 : decode cX0_performHiLo 168 = .ok (.ireturn, 1) := by decide +kernel
theorem dX0_performHiLo_169 : decode cX0_performHiLo 169 = .ok (.aload_n 0, 1) := by decide +kernel
theorem dX0_performHiLo_170 : decode cX0_performHiLo 170 = .ok (.iload_n 2, 1) := by decide +kernel
theorem dX0_performHiLo_171 : decode cX0_performHiLo 171 = .ok (.invokestatic 152, 3) := by decide +kernel
theorem dX0_performHiLo_174 : decode cX0_performHiLo 174 = .ok (.iload_n 3, 1) := by decide +kernel
theorem dX0_performHiLo_175 : decode cX0_performHiLo 175 = .ok (.invokestatic 152, 3) := by decide +kernel
theorem dX0_performHiLo_178 : decode cX0_performHiLo 178 = .ok (.invokevirtual 156, 3) := by decide +kernel
theorem dX0_performHiLo_181 : decode cX0_performHiLo 181 = .ok (.ireturn, 1) := by decide +kernel
theorem dX0_performHiLo_182 : decode cX0_performHiLo 182 = .ok (.iconst 1, 1) := by decide +kernel
theorem dX0_performHiLo_183 : decode cX0_performHiLo 183 = .ok (.ireturn, 1) := by decide +kernel
theorem dX0_putProduct_0 : decode cX0_putProduct 0 = .ok (.aload_n 0, 1) := by decide +kernel
theorem dX0_putProduct_1 : decode cX0_putProduct 1 = .ok (.bipush 32, 2) := by decide +kernel
theorem dX0_putProduct_3 : decode cX0_putProduct 3 = .ok (.lload_n 1, 1) := by decide +kernel
theorem dX0_putProduct_4 : decode cX0_putProduct 4 = .ok (.bipush 32, 2) := by decide +kernel
theorem dX0_putProduct_6 : decode cX0_putProduct 6 = .ok (.lushr, 1) := by decide +kernel
theorem dX0_putProduct_7 : decode cX0_putProduct 7 = .ok (.l2i, 1) := by decide +kernel
theorem dX0_putProduct_8 : decode cX0_putProduct 8 = .ok (.invokevirtual 105, 3) := by decide +kernel
theorem dX0_putProduct_11 : decode cX0_putProduct 11 = .ok (.pop, 1) := by decide +kernel
theorem dX0_putProduct_12 : decode cX0_putProduct 12 = .ok (.aload_n 0, 1) := by decide +kernel
theorem dX0_putProduct_13 : decode cX0_putProduct 13 = .ok (.bipush 33, 2) := by decide +kernel
theorem dX0_putProduct_15 : decode cX0_putProduct 15 = .ok (.lload_n 1, 1) := by decide +kernel
theorem dX0_putProduct_16 : decode cX0_putProduct 16 = .ok (.l2i, 1) := by decide +kernel
theorem dX0_putProduct_17 : decode cX0_putProduct 17 = .ok (.invokevirtual 105, 3) := by decide +kernel
theorem dX0_putProduct_20 : decode cX0_putProduct 20 = .ok (.ireturn, 1) := by decide +kernel
theorem dX0_divide_0 : decode cX0_divide 0 = .ok (.lload_n 3, 1) := by decide +kernel
theorem dX0_divide_1 : decode cX0_divide 1 = .ok (.lconst 0, 1) := by decide +kernel
theorem dX0_divide_2 : decode cX0_divide 2 = .ok (.lcmp, 1) := by decide +kernel
theorem dX0_divide_3 : decode cX0_divide 3 = .ok (.ifCond .ne 20, 3) := by decide +kernel
theorem dX0_divide_6 : decode cX0_divide 6 = .ok (.aload_n 0, 1) := by decide +kernel
theorem dX0_divide_7 : decode cX0_divide 7 = .ok (.bipush 32, 2) := by decide +kernel
theorem dX0_divide_9 : decode cX0_divide 9 = .ok (.lload_n 1, 1) := by decide +kernel
theorem dX0_divide_10 : decode cX0_divide 10 = .ok (.l2i, 1) := by decide +kernel
theorem dX0_divide_11 : decode cX0_divide 11 = .ok (.invokevirtual 105, 3) := by decide +kernel
theorem dX0_divide_14 : decode cX0_divide 14 = .ok (.pop, 1) := by decide +kernel
theorem dX0_divide_15 : decode cX0_divide 15 = .ok (.aload_n 0, 1) := by decide +kernel
theorem dX0_divide_16 : decode cX0_divide 16 = .ok (.bipush 33, 2) := by decide +kernel
theorem dX0_divide_18 : decode cX0_divide 18 = .ok (.iconst (-1), 1) := by decide +kernel
theorem dX0_divide_19 : decode cX0_divide 19 = .ok (.invokevirtual 105, 3) := by decide +kernel
theorem dX0_divide_22 : decode cX0_divide 22 = .ok (.ireturn, 1) := by decide +kernel
theorem dX0_divide_23 : decode cX0_divide 23 = .ok (.aload_n 0, 1) := by decide +kernel
theorem dX0_divide_24 : decode cX0_divide 24 = .ok (.bipush 32, 2) := by decide +kernel
theorem dX0_divide_26 : decode cX0_divide 26 = .ok (.lload_n 1, 1) := by decide +kernel
theorem dX0_divide_27 : decode cX0_divide 27 = .ok (.lload_n 3, 1) := by decide +kernel
theorem dX0_divide_28 : decode cX0_divide 28 = .ok (.lrem, 1) := by decide +kernel
theorem dX0_divide_29 : decode cX0_divide 29 = .ok (.l2i, 1) := by decide +kernel
theorem dX0_divide_30 : decode cX0_divide 30 = .ok (.invokevirtual 105, 3) := by decide +kernel
theorem dX0_divide_33 : decode cX0_divide 33 = .ok (.pop, 1) := by decide +kernel
theorem dX0_divide_34 : decode cX0_divide 34 = .ok (.aload_n 0, 1) := by decide +kernel
theorem dX0_divide_35 : decode cX0_divide 35 = .ok (.bipush 33, 2) := by decide +kernel
theorem dX0_divide_37 : decode cX0_divide 37 = .ok (.lload_n 1, 1) := by decide +kernel
theorem dX0_divide_38 : decode cX0_divide 38 = .ok (.lload_n 3, 1) := by decide +kernel
theorem dX0_divide_39 : decode cX0_divide 39 = .ok (.ldiv, 1) := by decide +kernel
theorem dX0_divide_40 : decode cX0_divide 40 = .ok (.l2i, 1) := by decide +kernel
theorem dX0_divide_41 : decode cX0_divide 41 = .ok (.invokevirtual 105, 3) := by decide +kernel
theorem dX0_divide_44 : decode cX0_divide 44 = .ok (.ireturn, 1) := by decide +kernel
theorem dX0_performArithmetic_0 : decode cX0_performArithmetic 0 = .ok (.aload_n 0, 1) := by decide +kernel
theorem dX0_performArithmetic_1 : decode cX0_performArithmetic 1 = .ok (.getfield 16, 3) := by decide +kernel
theorem dX0_performArithmetic_4 : decode cX0_performArithmetic 4 = .ok (.iload_n 1, 1) := by decide +kernel
theorem dX0_performArithmetic_5 : decode cX0_performArithmetic 5 = .ok (.invokestatic 109, 3) := by decide +kernel
theorem dX0_performArithmetic_8 : decode cX0_performArithmetic 8 = .ok (.iaload, 1) := by decide +kernel
theorem dX0_performArithmetic_9 : decode cX0_performArithmetic 9 = .ok (.istore_n 2, 1) := by decide +kernel
theorem dX0_performArithmetic_10 : decode cX0_performArithmetic 10 = .ok (.aload_n 0, 1) := by decide +kernel
theorem dX0_performArithmetic_11 : decode cX0_performArithmetic 11 = .ok (.getfield 16, 3) := by decide +kernel
theorem dX0_performArithmetic_14 : decode cX0_performArithmetic 14 = .ok (.iload_n 1, 1) := by decide +kernel
theorem dX0_performArithmetic_15 : decode cX0_performArithmetic 15 = .ok (.invokestatic 84, 3) := by decide +kernel
theorem dX0_performArithmetic_18 : decode cX0_performArithmetic 18 = .ok (.iaload, 1) := by decide +kernel
theorem dX0_performArithmetic_19 : decode cX0_performArithmetic 19 = .ok (.istore_n 3, 1) := by decide +kernel
theorem dX0_performArithmetic_20 : decode cX0_performArithmetic 20 = .ok (.iload_n 1, 1) := by decide +kernel
theorem dX0_performArithmetic_21 : decode cX0_performArithmetic 21 = .ok (.invokestatic 120, 3) := by decide +kernel
theorem dX0_performArithmetic_24 : decode cX0_performArithmetic 24 = .ok (.istore 4, 2) := by decide +kernel
theorem dX0_performArithmetic_26 : decode cX0_performArithmetic 26 = .ok (.iload_n 1, 1) := by decide +kernel
theorem dX0_performArithmetic_27 : decode cX0_performArithmetic 27 = .ok (.invokestatic 81, 3) := by decide +kernel
theorem dX0_performArithmetic_30 : decode cX0_performArithmetic 30 = .ok (.tableswitch 189 32 43 #[62, 74, 84, 96, 106, 116, 126, 136, 189, 189, 148, 165], 62) := by decide +kernel
theorem dX0_performArithmetic_92 : decode cX0_performArithmetic 92 = .ok (.aload_n 0, 1) := by decide +kernel
theorem dX0_performArithmetic_93 : decode cX0_performArithmetic 93 = .ok (.iload 4, 2) := by decide +kernel
theorem dX0_performArithmetic_95 : decode cX0_performArithmetic 95 = .ok (.iload_n 2, 1) := by decide +kernel
theorem dX0_performArithmetic_96 : decode cX0_performArithmetic 96 = .ok (.i2l, 1) := by decide +kernel
theorem dX0_performArithmetic_97 : decode cX0_performArithmetic 97 = .ok (.iload_n 3, 1) := by decide +kernel
theorem dX0_performArithmetic_98 : decode cX0_performArithmetic 98 = .ok (.i2l, 1) := by decide +kernel
theorem dX0_performArithmetic_99 : decode cX0_performArithmetic 99 = .ok (.ladd, 1) := by decide +kernel
theorem dX0_performArithmetic_100 : decode cX0_performArithmetic 100 = .ok (.invokevirtual 160, 3) := by decide +kernel
theorem dX0_performArithmetic_103 : decode cX0_performArithmetic 103 = .ok (.ireturn, 1) := by decide +kernel
theorem dX0_performArithmetic_104 : decode cX0_performArithmetic 104 = .ok (.aload_n 0, 1) := by decide +kernel
theorem dX0_performArithmetic_105 : decode cX0_performArithmetic 105 = .ok (.iload 4, 2) := by decide +kernel
theorem dX0_performArithmetic_107 : decode cX0_performArithmetic 107 = .ok (.iload_n 2, 1) := by decide +kernel
theorem dX0_performArithmetic_108 : decode cX0_performArithmetic 108 = .ok (.iload_n 3, 1) := by decide +kernel
theorem dX0_performArithmetic_109 : decode cX0_performArithmetic 109 = .ok (.iadd, 1) := by decide +kernel
theorem dX0_performArithmetic_110 : decode cX0_performArithmetic 110 = .ok (.invokevirtual 105, 3) := by decide +kernel
theorem dX0_performArithmetic_113 : decode cX0_performArithmetic 113 = .ok (.ireturn, 1) := by decide +kernel
theorem dX0_performArithmetic_114 : decode cX0_performArithmetic 114 = .ok (.aload_n 0, 1) := by decide +kernel
theorem dX0_performArithmetic_115 : decode cX0_performArithmetic 115 = .ok (.iload 4, 2) := by decide +kernel
theorem dX0_performArithmetic_117 : decode cX0_performArithmetic 117 = .ok (.iload_n 2, 1) := by decide +kernel
theorem dX0_performArithmetic_118 : decode cX0_performArithmetic 118 = .ok (.i2l, 1) := by decide +kernel
theorem dX0_performArithmetic_119 : decode cX0_performArithmetic 119 = .ok (.iload_n 3, 1) := by decide +kernel
theorem dX0_performArithmetic_120 : decode cX0_performArithmetic 120 = .ok (.i2l, 1) := by decide +kernel
theorem dX0_performArithmetic_121 : decode cX0_performArithmetic 121 = .ok (.lsub, 1) := by decide +kernel
theorem dX0_performArithmetic_122 : decode cX0_performArithmetic 122 = .ok (.invokevirtual 160, 3) := by decide +kernel
theorem dX0_performArithmetic_125 : decode cX0_performArithmetic 125 = .ok (.ireturn, 1) := by decide +kernel
theorem dX0_performArithmetic_126 : decode cX0_performArithmetic 126 = .ok (.aload_n 0, 1) := by decide +kernel
theorem dX0_performArithmetic_127 : decode cX0_performArithmetic 127 = .ok (.iload 4, 2) := by decide +kernel
theorem dX0_performArithmetic_129 : decode cX0_performArithmetic 129 = .ok (.iload_n 2, 1) := by decide +kernel
theorem dX0_performArithmetic_130 : decode cX0_performArithmetic 130 = .ok (.iload_n 3, 1) := by decide +kernel
theorem dX0_performArithmetic_131 : decode cX0_performArithmetic 131 = .ok (.isub, 1) := by decide +kernel
theorem dX0_performArithmetic_132 : decode cX0_performArithmetic 132 = .ok (.invokevirtual 105, 3) := by decide +kernel
theorem dX0_performArithmetic_135 : decode cX0_performArithmetic 135 = .ok (.ireturn, 1) := by decide +kernel
theorem dX0_performArithmetic_136 : decode cX0_performArithmetic 136 = .ok (.aload_n 0, 1) := by decide +kernel
theorem dX0_performArithmetic_137 : decode cX0_performArithmetic 137 = .ok (.iload 4, 2) := by decide +kernel
theorem dX0_performArithmetic_139 : decode cX0_performArithmetic 139 = .ok (.iload_n 2, 1) := by decide +kernel
theorem dX0_performArithmetic_140 : decode cX0_performArithmetic 140 = .ok (.iload_n 3, 1) := by decide +kernel
theorem dX0_performArithmetic_141 : decode cX0_performArithmetic 141 = .ok (.iand, 1) := by decide +kernel
theorem dX0_performArithmetic_142 : decode cX0_performArithmetic 142 = .ok (.invokevirtual 105, 3) := by decide +kernel
theorem dX0_performArithmetic_145 : decode cX0_performArithmetic 145 = .ok (.ireturn, 1) := by decide +kernel
theorem dX0_performArithmetic_146 : decode cX0_performArithmetic 146 = .ok (.aload_n 0, 1) := by decide +kernel
theorem dX0_performArithmetic_147 : decode cX0_performArithmetic 147 = .ok (.iload 4, 2) := by decide +kernel
theorem dX0_performArithmetic_149 : decode cX0_performArithmetic 149 = .ok (.iload_n 2, 1) := by decide +kernel
theorem dX0_performArithmetic_150 : decode cX0_performArithmetic 150 = .ok (.iload_n 3, 1) := by decide +kernel
theorem dX0_performArithmetic_151 : decode cX0_performArithmetic 151 = .ok (.ior, 1) := by decide +kernel
theorem dX0_performArithmetic_152 : decode cX0_performArithmetic 152 = .ok (.invokevirtual 105, 3) := by decide +kernel
theorem dX0_performArithmetic_155 : decode cX0_performArithmetic 155 = .ok (.ireturn, 1) := by decide +kernel
theorem dX0_performArithmetic_156 : decode cX0_performArithmetic 156 = .ok (.aload_n 0, 1) := by decide +kernel
theorem dX0_performArithmetic_157 : decode cX0_performArithmetic 157 = .ok (.iload 4, 2) := by decide +kernel
theorem dX0_performArithmetic_159 : decode cX0_performArithmetic 159 = .ok (.iload_n 2, 1) := by decide +kernel
theorem dX0_performArithmetic_160 : decode cX0_performArithmetic 160 = .ok (.iload_n 3, 1) := by decide +kernel
theorem dX0_performArithmetic_161 : decode cX0_performArithmetic 161 = .ok (.ixor, 1) := by decide +kernel
theorem dX0_performArithmetic_162 : decode cX0_performArithmetic 162 = .ok (.invokevirtual 105, 3) := by decide +kernel
theorem dX0_performArithmetic_165 : decode cX0_performArithmetic 165 = .ok (.ireturn, 1) := by decide +kernel
theorem dX0_performArithmetic_166 : decode cX0_performArithmetic 166 = .ok (.aload_n 0, 1) := by decide +kernel
theorem dX0_performArithmetic_167 : decode cX0_performArithmetic 167 = .ok (.iload 4, 2) := by decide +kernel
theorem dX0_performArithmetic_169 : decode cX0_performArithmetic 169 = .ok (.iload_n 2, 1) := by decide +kernel
theorem dX0_performArithmetic_170 : decode cX0_performArithmetic 170 = .ok (.iload_n 3, 1) := by decide +kernel
theorem dX0_performArithmetic_171 : decode cX0_performArithmetic 171 = .ok (.ior, 1) := by decide +kernel
theorem dX0_performArithmetic_172 : decode cX0_performArithmetic 172 = .ok (.iconst (-1), 1) := by decide +kernel
theorem dX0_performArithmetic_173 : decode cX0_performArithmetic 173 = .ok (.ixor, 1) := by decide +kernel
theorem dX0_performArithmetic_174 : decode cX0_performArithmetic 174 = .ok (.invokevirtual 105, 3) := by decide +kernel
theorem dX0_performArithmetic_177 : decode cX0_performArithmetic 177 = .ok (.ireturn, 1) := by decide +kernel
theorem dX0_performArithmetic_178 : decode cX0_performArithmetic 178 = .ok (.aload_n 0, 1) := by decide +kernel
theorem dX0_performArithmetic_179 : decode cX0_performArithmetic 179 = .ok (.iload 4, 2) := by decide +kernel
theorem dX0_performArithmetic_181 : decode cX0_performArithmetic 181 = .ok (.iload_n 2, 1) := by decide +kernel
theorem dX0_performArithmetic_182 : decode cX0_performArithmetic 182 = .ok (.iload_n 3, 1) := by decide +kernel
theorem dX0_performArithmetic_183 : decode cX0_performArithmetic 183 = .ok (.if_icmp .ge 7, 3) := by decide +kernel
theorem dX0_performArithmetic_186 : decode cX0_performArithmetic 186 = .ok (.iconst 1, 1) := by decide +kernel
theorem dX0_performArithmetic_187 : decode cX0_performArithmetic 187 = .ok (.goto 4, 3) := by decide +kernel
theorem dX0_performArithmetic_190 : decode cX0_performArithmetic 190 = .ok (.iconst 0, 1) := by decide +kernel
theorem dX0_performArithmetic_191 : decode cX0_performArithmetic 191 = .ok (.invokevirtual 105, 3) := by decide +kernel
theorem dX0_performArithmetic_194 : decode cX0_performArithmetic 194 = .ok (.ireturn, 1) := by decide +kernel
theorem dX0_performArithmetic_195 : decode cX0_performArithmetic 195 = .ok (.aload_n 0, 1) := by decide +kernel
theorem dX0_performArithmetic_196 : decode cX0_performArithmetic 196 = .ok (.iload 4, 2) := by decide +kernel
theorem dX0_performArithmetic_198 : decode cX0_performArithmetic 198 = .ok (.iload_n 2, 1) := by decide +kernel
theorem dX0_performArithmetic_199 : decode cX0_performArithmetic 199 = .ok (.invokestatic 152, 3) := by decide +kernel
theorem dX0_performArithmetic_202 : decode cX0_performArithmetic 202 = .ok (.iload_n 3, 1) := by decide +kernel
theorem dX0_performArithmetic_203 : decode cX0_performArithmetic 203 = .ok (.invokestatic 152, 3) := by decide +kernel
theorem dX0_performArithmetic_206 : decode cX0_performArithmetic 206 = .ok (.lcmp, 1) := by decide +kernel
theorem dX0_performArithmetic_207 : decode cX0_performArithmetic 207 = .ok (.ifCond .ge 7, 3) := by decide +kernel
theorem dX0_performArithmetic_210 : decode cX0_performArithmetic 210 = .ok (.iconst 1, 1) := by decide +kernel
theorem dX0_performArithmetic_211 : decode cX0_performArithmetic 211 = .ok (.goto 4, 3) := by decide +kernel
theorem dX0_performArithmetic_214 : decode cX0_performArithmetic 214 = .ok (.iconst 0, 1) := by decide +kernel
theorem dX0_performArithmetic_215 : decode cX0_performArithmetic 215 = .ok (.invokevirtual 105, 3) := by decide +kernel
theorem dX0_performArithmetic_218 : decode cX0_performArithmetic 218 = .ok (.ireturn, 1) := by decide +kernel
theorem dX0_performArithmetic_219 : decode cX0_performArithmetic 219 = .ok (.iconst 1, 1) := by decide +kernel
theorem dX0_performArithmetic_220 : decode cX0_performArithmetic 220 = .ok (.ireturn, 1) := by decide +kernel
