theorem dX1_aim_0 : decode cX1_aim 0 = .ok (.iload_n 1, 1) := by decide +kernel
theorem dX1_aim_1 : decode cX1_aim 1 = .ok (.invokestatic 61, 3) := by decide +kernel
theorem dX1_aim_4 : decode cX1_aim 4 = .ok (.istore_n 2, 1) := by decide +kernel
theorem dX1_aim_5 : decode cX1_aim 5 = .ok (.aload_n 0, 1) := by decide +kernel
theorem dX1_aim_6 : decode cX1_aim 6 = .ok (.getfield 25, 3) := by decide +kernel
theorem dX1_aim_9 : decode cX1_aim 9 = .ok (.iload_n 1, 1) := by decide +kernel
theorem dX1_aim_10 : decode cX1_aim 10 = .ok (.invokestatic 68, 3) := by decide +kernel
theorem dX1_aim_13 : decode cX1_aim 13 = .ok (.iaload, 1) := by decide +kernel
theorem dX1_aim_14 : decode cX1_aim 14 = .ok (.istore_n 3, 1) := by decide +kernel
theorem dX1_aim_15 : decode cX1_aim 15 = .ok (.iload_n 1, 1) := by decide +kernel
theorem dX1_aim_16 : decode cX1_aim 16 = .ok (.invokestatic 65, 3) := by decide +kernel
theorem dX1_aim_19 : decode cX1_aim 19 = .ok (.istore 4, 2) := by decide +kernel
theorem dX1_aim_21 : decode cX1_aim 21 = .ok (.aload_n 0, 1) := by decide +kernel
theorem dX1_aim_22 : decode cX1_aim 22 = .ok (.iconst 1, 1) := by decide +kernel
theorem dX1_aim_23 : decode cX1_aim 23 = .ok (.putfield 71, 3) := by decide +kernel
theorem dX1_aim_26 : decode cX1_aim 26 = .ok (.aload_n 0, 1) := by decide +kernel
theorem dX1_aim_27 : decode cX1_aim 27 = .ok (.iconst 0, 1) := by decide +kernel
theorem dX1_aim_28 : decode cX1_aim 28 = .ok (.putfield 74, 3) := by decide +kernel
theorem dX1_aim_31 : decode cX1_aim 31 = .ok (.aload_n 0, 1) := by decide +kernel
theorem dX1_aim_32 : decode cX1_aim 32 = .ok (.ldc 77, 2) := by decide +kernel
theorem dX1_aim_34 : decode cX1_aim 34 = .ok (.iconst 4, 1) := by decide +kernel
theorem dX1_aim_35 : decode cX1_aim 35 = .ok (.aload_n 0, 1) := by decide +kernel
theorem dX1_aim_36 : decode cX1_aim 36 = .ok (.getfield 39, 3) := by decide +kernel
theorem dX1_aim_39 : decode cX1_aim 39 = .ok (.iconst 1, 1) := by decide +kernel
theorem dX1_aim_40 : decode cX1_aim 40 = .ok (.iadd, 1) := by decide +kernel
theorem dX1_aim_41 : decode cX1_aim 41 = .ok (.iload_n 1, 1) := by decide +kernel
theorem dX1_aim_42 : decode cX1_aim 42 = .ok (.invokestatic 78, 3) := by decide +kernel
theorem dX1_aim_45 : decode cX1_aim 45 = .ok (.iadd, 1) := by decide +kernel
theorem dX1_aim_46 : decode cX1_aim 46 = .ok (.imul, 1) := by decide +kernel
theorem dX1_aim_47 : decode cX1_aim 47 = .ok (.iadd, 1) := by decide +kernel
theorem dX1_aim_48 : decode cX1_aim 48 = .ok (.putfield 81, 3) := by decide +kernel
theorem dX1_aim_51 : decode cX1_aim 51 = .ok (.iload_n 2, 1) := by decide +kernel
theorem dX1_aim_52 : decode cX1_aim 52 = .ok (.ifCond .ne 32, 3) := by decide +kernel
theorem dX1_aim_55 : decode cX1_aim 55 = .ok (.aload_n 0, 1) := by decide +kernel
theorem dX1_aim_56 : decode cX1_aim 56 = .ok (.iload_n 3, 1) := by decide +kernel
theorem dX1_aim_57 : decode cX1_aim 57 = .ok (.putfield 81, 3) := by decide +kernel
theorem dX1_aim_60 : decode cX1_aim 60 = .ok (.aload_n 0, 1) := by decide +kernel
theorem dX1_aim_61 : decode cX1_aim 61 = .ok (.iload_n 1, 1) := by decide +kernel
theorem dX1_aim_62 : decode cX1_aim 62 = .ok (.bipush 63, 2) := by decide +kernel
theorem dX1_aim_64 : decode cX1_aim 64 = .ok (.iand, 1) := by decide +kernel
theorem dX1_aim_65 : decode cX1_aim 65 = .ok (.bipush 9, 2) := by decide +kernel
theorem dX1_aim_67 : decode cX1_aim 67 = .ok (.if_icmp .ne 10, 3) := by decide +kernel
theorem dX1_aim_70 : decode cX1_aim 70 = .ok (.iload_n 1, 1) := by decide +kernel
theorem dX1_aim_71 : decode cX1_aim 71 = .ok (.invokestatic 84, 3) := by decide +kernel
theorem dX1_aim_74 : decode cX1_aim 74 = .ok (.goto 4, 3) := by decide +kernel
theorem dX1_aim_77 : decode cX1_aim 77 = .ok (.iconst 0, 1) := by decide +kernel
theorem dX1_aim_78 : decode cX1_aim 78 = .ok (.putfield 74, 3) := by decide +kernel
theorem dX1_aim_81 : decode cX1_aim 81 = .ok (.goto 195, 3) := by decide +kernel
theorem dX1_aim_84 : decode cX1_aim 84 = .ok (.iload_n 2, 1) := by decide +kernel
theorem dX1_aim_85 : decode cX1_aim 85 = .ok (.iconst 1, 1) := by decide +kernel
theorem dX1_aim_86 : decode cX1_aim 86 = .ok (.if_icmp .ne 55, 3) := by decide +kernel
theorem dX1_aim_89 : decode cX1_aim 89 = .ok (.aload_n 0, 1) := by decide +kernel
theorem dX1_aim_90 : decode cX1_aim 90 = .ok (.iload 4, 2) := by decide +kernel
theorem dX1_aim_92 : decode cX1_aim 92 = .ok (.iconst 2, 1) := by decide +kernel
theorem dX1_aim_93 : decode cX1_aim 93 = .ok (.irem, 1) := by decide +kernel
theorem dX1_aim_94 : decode cX1_aim 94 = .ok (.ifCond .ne 15, 3) := by decide +kernel
theorem dX1_aim_97 : decode cX1_aim 97 = .ok (.iload_n 3, 1) := by decide +kernel
theorem dX1_aim_98 : decode cX1_aim 98 = .ok (.ifCond .ge 7, 3) := by decide +kernel
theorem dX1_aim_101 : decode cX1_aim 101 = .ok (.iconst 1, 1) := by decide +kernel
theorem dX1_aim_102 : decode cX1_aim 102 = .ok (.goto 16, 3) := by decide +kernel
theorem dX1_aim_105 : decode cX1_aim 105 = .ok (.iconst 0, 1) := by decide +kernel
theorem dX1_aim_106 : decode cX1_aim 106 = .ok (.goto 12, 3) := by decide +kernel
theorem dX1_aim_109 : decode cX1_aim 109 = .ok (.iload_n 3, 1) := by decide +kernel
theorem dX1_aim_110 : decode cX1_aim 110 = .ok (.ifCond .lt 7, 3) := by decide +kernel
theorem dX1_aim_113 : decode cX1_aim 113 = .ok (.iconst 1, 1) := by decide +kernel
theorem dX1_aim_114 : decode cX1_aim 114 = .ok (.goto 4, 3) := by decide +kernel
theorem dX1_aim_117 : decode cX1_aim 117 = .ok (.iconst 0, 1) := by decide +kernel
theorem dX1_aim_118 : decode cX1_aim 118 = .ok (.putfield 71, 3) := by decide +kernel
theorem dX1_aim_121 : decode cX1_aim 121 = .ok (.aload_n 0, 1) := by decide +kernel
theorem dX1_aim_122 : decode cX1_aim 122 = .ok (.iload 4, 2) := by decide +kernel
theorem dX1_aim_124 : decode cX1_aim 124 = .ok (.bipush 15, 2) := by decide +kernel
theorem dX1_aim_126 : decode cX1_aim 126 = .ok (.if_icmp .le 8, 3) := by decide +kernel
theorem dX1_aim_129 : decode cX1_aim 129 = .ok (.bipush 31, 2) := by decide +kernel
theorem dX1_aim_131 : decode cX1_aim 131 = .ok (.goto 4, 3) := by decide +kernel
theorem dX1_aim_134 : decode cX1_aim 134 = .ok (.iconst 0, 1) := by decide +kernel
theorem dX1_aim_135 : decode cX1_aim 135 = .ok (.putfield 74, 3) := by decide +kernel
theorem dX1_aim_138 : decode cX1_aim 138 = .ok (.goto 138, 3) := by decide +kernel
theorem dX1_aim_141 : decode cX1_aim 141 = .ok (.iload_n 2, 1) := by decide +kernel
theorem dX1_aim_142 : decode cX1_aim 142 = .ok (.iconst 4, 1) := by decide +kernel
theorem dX1_aim_143 : decode cX1_aim 143 = .ok (.if_icmp .ge 46, 3) := by decide +kernel
theorem dX1_aim_146 : decode cX1_aim 146 = .ok (.aload_n 0, 1) := by decide +kernel
theorem dX1_aim_147 : decode cX1_aim 147 = .ok (.ldc 77, 2) := by decide +kernel
theorem dX1_aim_149 : decode cX1_aim 149 = .ok (.iconst 4, 1) := by decide +kernel
theorem dX1_aim_150 : decode cX1_aim 150 = .ok (.aload_n 0, 1) := by decide +kernel
theorem dX1_aim_151 : decode cX1_aim 151 = .ok (.getfield 39, 3) := by decide +kernel
theorem dX1_aim_154 : decode cX1_aim 154 = .ok (.iconst 1, 1) := by decide +kernel
theorem dX1_aim_155 : decode cX1_aim 155 = .ok (.iadd, 1) := by decide +kernel
theorem dX1_aim_156 : decode cX1_aim 156 = .ok (.imul, 1) := by decide +kernel
theorem dX1_aim_157 : decode cX1_aim 157 = .ok (.iadd, 1) := by decide +kernel
theorem dX1_aim_158 : decode cX1_aim 158 = .ok (.ldc 87, 2) := by decide +kernel
theorem dX1_aim_160 : decode cX1_aim 160 = .ok (.iand, 1) := by decide +kernel
theorem dX1_aim_161 : decode cX1_aim 161 = .ok (.iload_n 1, 1) := by decide +kernel
theorem dX1_aim_162 : decode cX1_aim 162 = .ok (.ldc 88, 2) := by decide +kernel
theorem dX1_aim_164 : decode cX1_aim 164 = .ok (.iand, 1) := by decide +kernel
theorem dX1_aim_165 : decode cX1_aim 165 = .ok (.iconst 2, 1) := by decide +kernel
theorem dX1_aim_166 : decode cX1_aim 166 = .ok (.ishl, 1) := by decide +kernel
theorem dX1_aim_167 : decode cX1_aim 167 = .ok (.ior, 1) := by decide +kernel
theorem dX1_aim_168 : decode cX1_aim 168 = .ok (.putfield 81, 3) := by decide +kernel
theorem dX1_aim_171 : decode cX1_aim 171 = .ok (.aload_n 0, 1) := by decide +kernel
theorem dX1_aim_172 : decode cX1_aim 172 = .ok (.iload_n 2, 1) := by decide +kernel
theorem dX1_aim_173 : decode cX1_aim 173 = .ok (.iconst 3, 1) := by decide +kernel
theorem dX1_aim_174 : decode cX1_aim 174 = .ok (.if_icmp .ne 8, 3) := by decide +kernel
theorem dX1_aim_177 : decode cX1_aim 177 = .ok (.bipush 31, 2) := by decide +kernel
theorem dX1_aim_179 : decode cX1_aim 179 = .ok (.goto 4, 3) := by decide +kernel
theorem dX1_aim_182 : decode cX1_aim 182 = .ok (.iconst 0, 1) := by decide +kernel
theorem dX1_aim_183 : decode cX1_aim 183 = .ok (.putfield 74, 3) := by decide +kernel
theorem dX1_aim_186 : decode cX1_aim 186 = .ok (.goto 90, 3) := by decide +kernel
theorem dX1_aim_189 : decode cX1_aim 189 = .ok (.iload_n 2, 1) := by decide +kernel
theorem dX1_aim_190 : decode cX1_aim 190 = .ok (.iconst 4, 1) := by decide +kernel
theorem dX1_aim_191 : decode cX1_aim 191 = .ok (.if_icmp .ne 26, 3) := by decide +kernel
theorem dX1_aim_194 : decode cX1_aim 194 = .ok (.aload_n 0, 1) := by decide +kernel
theorem dX1_aim_195 : decode cX1_aim 195 = .ok (.iload_n 3, 1) := by decide +kernel
theorem dX1_aim_196 : decode cX1_aim 196 = .ok (.aload_n 0, 1) := by decide +kernel
theorem dX1_aim_197 : decode cX1_aim 197 = .ok (.getfield 25, 3) := by decide +kernel
theorem dX1_aim_200 : decode cX1_aim 200 = .ok (.iload 4, 2) := by decide +kernel
theorem dX1_aim_202 : decode cX1_aim 202 = .ok (.iaload, 1) := by decide +kernel
theorem dX1_aim_203 : decode cX1_aim 203 = .ok (.if_icmp .ne 7, 3) := by decide +kernel
theorem dX1_aim_206 : decode cX1_aim 206 = .ok (.iconst 1, 1) := by decide +kernel
theorem dX1_aim_207 : decode cX1_aim 207 = .ok (.goto 4, 3) := by decide +kernel
theorem dX1_aim_210 : decode cX1_aim 210 = .ok (.iconst 0, 1) := by decide +kernel
theorem dX1_aim_211 : decode cX1_aim 211 = .ok (.putfield 71, 3) := by decide +kernel
theorem dX1_aim_214 : decode cX1_aim 214 = .ok (.goto 62, 3) := by decide +kernel
theorem dX1_aim_217 : decode cX1_aim 217 = .ok (.iload_n 2, 1) := by decide +kernel
theorem dX1_aim_218 : decode cX1_aim 218 = .ok (.iconst 5, 1) := by decide +kernel
theorem dX1_aim_219 : decode cX1_aim 219 = .ok (.if_icmp .ne 26, 3) := by decide +kernel
theorem dX1_aim_222 : decode cX1_aim 222 = .ok (.aload_n 0, 1) := by decide +kernel
theorem dX1_aim_223 : decode cX1_aim 223 = .ok (.iload_n 3, 1) := by decide +kernel
theorem dX1_aim_224 : decode cX1_aim 224 = .ok (.aload_n 0, 1) := by decide +kernel
theorem dX1_aim_225 : decode cX1_aim 225 = .ok (.getfield 25, 3) := by decide +kernel
theorem dX1_aim_228 : decode cX1_aim 228 = .ok (.iload 4, 2) := by decide +kernel
theorem dX1_aim_230 : decode cX1_aim 230 = .ok (.iaload, 1) := by decide +kernel
theorem dX1_aim_231 : decode cX1_aim 231 = .ok (.if_icmp .eq 7, 3) := by decide +kernel
theorem dX1_aim_234 : decode cX1_aim 234 = .ok (.iconst 1, 1) := by decide +kernel
theorem dX1_aim_235 : decode cX1_aim 235 = .ok (.goto 4, 3) := by decide +kernel
theorem dX1_aim_238 : decode cX1_aim 238 = .ok (.iconst 0, 1) := by decide +kernel
theorem dX1_aim_239 : decode cX1_aim 239 = .ok (.putfield 71, 3) := by decide +kernel
theorem dX1_aim_242 : decode cX1_aim 242 = .ok (.goto 34, 3) := by decide +kernel
theorem dX1_aim_245 : decode cX1_aim 245 = .ok (.aload_n 0, 1) := by decide +kernel
theorem dX1_aim_246 : decode cX1_aim 246 = .ok (.iload_n 2, 1) := by decide +kernel
theorem dX1_aim_247 : decode cX1_aim 247 = .ok (.bipush 6, 2) := by decide +kernel
theorem dX1_aim_249 : decode cX1_aim 249 = .ok (.if_icmp .ne 15, 3) := by decide +kernel
theorem dX1_aim_252 : decode cX1_aim 252 = .ok (.iload_n 3, 1) := by decide +kernel
theorem dX1_aim_253 : decode cX1_aim 253 = .ok (.ifCond .gt 7, 3) := by decide +kernel
theorem dX1_aim_256 : decode cX1_aim 256 = .ok (.iconst 1, 1) := by decide +kernel
theorem dX1_aim_257 : decode cX1_aim 257 = .ok (.goto 16, 3) := by decide +kernel
theorem dX1_aim_260 : decode cX1_aim 260 = .ok (.iconst 0, 1) := by decide +kernel
theorem dX1_aim_261 : decode cX1_aim 261 = .ok (.goto 12, 3) := by decide +kernel
theorem dX1_aim_264 : decode cX1_aim 264 = .ok (.iload_n 3, 1) := by decide +kernel
theorem dX1_aim_265 : decode cX1_aim 265 = .ok (.ifCond .le 7, 3) := by decide +kernel
theorem dX1_aim_268 : decode cX1_aim 268 = .ok (.iconst 1, 1) := by decide +kernel
theorem dX1_aim_269 : decode cX1_aim 269 = .ok (.goto 4, 3) := by decide +kernel
theorem dX1_aim_272 : decode cX1_aim 272 = .ok (.iconst 0, 1) := by decide +kernel
theorem dX1_aim_273 : decode cX1_aim 273 = .ok (.putfield 71, 3) := by decide +kernel
theorem dX1_aim_276 : decode cX1_aim 276 = .ok (.return_, 1) := by decide +kernel
theorem dX1_isText_0 : decode cX1_isText 0 = .ok (.iload_n 1, 1) := by decide +kernel
theorem dX1_isText_1 : decode cX1_isText 1 = .ok (.ldc 77, 2) := by decide +kernel
theorem dX1_isText_3 : decode cX1_isText 3 = .ok (.if_icmp .lt 20, 3) := by decide +kernel
theorem dX1_isText_6 : decode cX1_isText 6 = .ok (.iload_n 1, 1) := by decide +kernel
theorem dX1_isText_7 : decode cX1_isText 7 = .ok (.ldc 77, 2) := by decide +kernel
theorem dX1_isText_9 : decode cX1_isText 9 = .ok (.iconst 4, 1) := by decide +kernel
theorem dX1_isText_10 : decode cX1_isText 10 = .ok (.aload_n 0, 1) := by decide +kernel
theorem dX1_isText_11 : decode cX1_isText 11 = .ok (.getfield 36, 3) := by decide +kernel
theorem dX1_isText_14 : decode cX1_isText 14 = .ok (.imul, 1) := by decide +kernel
theorem dX1_isText_15 : decode cX1_isText 15 = .ok (.iadd, 1) := by decide +kernel
theorem dX1_isText_16 : decode cX1_isText 16 = .ok (.if_icmp .ge 7, 3) := by decide +kernel
theorem dX1_isText_19 : decode cX1_isText 19 = .ok (.iconst 1, 1) := by decide +kernel
theorem dX1_isText_20 : decode cX1_isText 20 = .ok (.goto 4, 3) := by decide +kernel
theorem dX1_isText_23 : decode cX1_isText 23 = .ok (.iconst 0, 1) := by decide +kernel
theorem dX1_isText_24 : decode cX1_isText 24 = .ok (.ireturn, 1) := by decide +kernel
theorem dX1_shiftOf_0 : decode cX1_shiftOf 0 = .ok (.iload_n 1, 1) := by decide +kernel
theorem dX1_shiftOf_1 : decode cX1_shiftOf 1 = .ok (.iconst 4, 1) := by decide +kernel
theorem dX1_shiftOf_2 : decode cX1_shiftOf 2 = .ok (.irem, 1) := by decide +kernel
theorem dX1_shiftOf_3 : decode cX1_shiftOf 3 = .ok (.ifCond .ne 9, 3) := by decide +kernel
theorem dX1_shiftOf_6 : decode cX1_shiftOf 6 = .ok (.iload_n 2, 1) := by decide +kernel
theorem dX1_shiftOf_7 : decode cX1_shiftOf 7 = .ok (.iload_n 3, 1) := by decide +kernel
theorem dX1_shiftOf_8 : decode cX1_shiftOf 8 = .ok (.ishl, 1) := by decide +kernel
theorem dX1_shiftOf_9 : decode cX1_shiftOf 9 = .ok (.goto 19, 3) := by decide +kernel
theorem dX1_shiftOf_12 : decode cX1_shiftOf 12 = .ok (.iload_n 1, 1) := by decide +kernel
theorem dX1_shiftOf_13 : decode cX1_shiftOf 13 = .ok (.iconst 4, 1) := by decide +kernel
theorem dX1_shiftOf_14 : decode cX1_shiftOf 14 = .ok (.irem, 1) := by decide +kernel
theorem dX1_shiftOf_15 : decode cX1_shiftOf 15 = .ok (.iconst 2, 1) := by decide +kernel
theorem dX1_shiftOf_16 : decode cX1_shiftOf 16 = .ok (.if_icmp .ne 9, 3) := by decide +kernel
theorem dX1_shiftOf_19 : decode cX1_shiftOf 19 = .ok (.iload_n 2, 1) := by decide +kernel
theorem dX1_shiftOf_20 : decode cX1_shiftOf 20 = .ok (.iload_n 3, 1) := by decide +kernel
theorem dX1_shiftOf_21 : decode cX1_shiftOf 21 = .ok (.iushr, 1) := by decide +kernel
theorem dX1_shiftOf_22 : decode cX1_shiftOf 22 = .ok (.goto 6, 3) := by decide +kernel
theorem dX1_shiftOf_25 : decode cX1_shiftOf 25 = .ok (.iload_n 2, 1) := by decide +kernel
theorem dX1_shiftOf_26 : decode cX1_shiftOf 26 = .ok (.iload_n 3, 1) := by decide +kernel
theorem dX1_shiftOf_27 : decode cX1_shiftOf 27 = .ok (.ishr, 1) := by decide +kernel
theorem dX1_shiftOf_28 : decode cX1_shiftOf 28 = .ok (.ireturn, 1) := by decide +kernel
