theorem dX1_two_0 : decode cX1_two 0 = .ok (.aload_n 0, 1) := by decide +kernel
theorem dX1_two_1 : decode cX1_two 1 = .ok (.getfield 39, 3) := by decide +kernel
theorem dX1_two_4 : decode cX1_two 4 = .ok (.iconst 1, 1) := by decide +kernel
theorem dX1_two_5 : decode cX1_two 5 = .ok (.iadd, 1) := by decide +kernel
theorem dX1_two_6 : decode cX1_two 6 = .ok (.aload_n 0, 1) := by decide +kernel
theorem dX1_two_7 : decode cX1_two 7 = .ok (.getfield 36, 3) := by decide +kernel
theorem dX1_two_10 : decode cX1_two 10 = .ok (.if_icmp .lt 6, 3) := by decide +kernel
theorem dX1_two_13 : decode cX1_two 13 = .ok (.bipush 7, 2) := by decide +kernel
theorem dX1_two_15 : decode cX1_two 15 = .ok (.ireturn, 1) := by decide +kernel
theorem dX1_two_16 : decode cX1_two 16 = .ok (.aload_n 0, 1) := by decide +kernel
theorem dX1_two_17 : decode cX1_two 17 = .ok (.getfield 13, 3) := by decide +kernel
theorem dX1_two_20 : decode cX1_two 20 = .ok (.aload_n 0, 1) := by decide +kernel
theorem dX1_two_21 : decode cX1_two 21 = .ok (.getfield 39, 3) := by decide +kernel
theorem dX1_two_24 : decode cX1_two 24 = .ok (.iconst 1, 1) := by decide +kernel
theorem dX1_two_25 : decode cX1_two 25 = .ok (.iadd, 1) := by decide +kernel
theorem dX1_two_26 : decode cX1_two 26 = .ok (.iaload, 1) := by decide +kernel
theorem dX1_two_27 : decode cX1_two 27 = .ok (.istore_n 2, 1) := by decide +kernel
theorem dX1_two_28 : decode cX1_two 28 = .ok (.iload_n 2, 1) := by decide +kernel
theorem dX1_two_29 : decode cX1_two 29 = .ok (.invokestatic 134, 3) := by decide +kernel
theorem dX1_two_32 : decode cX1_two 32 = .ok (.ifCond .ne 10, 3) := by decide +kernel
theorem dX1_two_35 : decode cX1_two 35 = .ok (.iload_n 2, 1) := by decide +kernel
theorem dX1_two_36 : decode cX1_two 36 = .ok (.invokestatic 137, 3) := by decide +kernel
theorem dX1_two_39 : decode cX1_two 39 = .ok (.ifCond .eq 6, 3) := by decide +kernel
theorem dX1_two_42 : decode cX1_two 42 = .ok (.bipush 8, 2) := by decide +kernel
theorem dX1_two_44 : decode cX1_two 44 = .ok (.ireturn, 1) := by decide +kernel
theorem dX1_two_45 : decode cX1_two 45 = .ok (.aload_n 0, 1) := by decide +kernel
theorem dX1_two_46 : decode cX1_two 46 = .ok (.iload_n 1, 1) := by decide +kernel
theorem dX1_two_47 : decode cX1_two 47 = .ok (.invokevirtual 140, 3) := by decide +kernel
theorem dX1_two_50 : decode cX1_two 50 = .ok (.aload_n 0, 1) := by decide +kernel
theorem dX1_two_51 : decode cX1_two 51 = .ok (.getfield 71, 3) := by decide +kernel
theorem dX1_two_54 : decode cX1_two 54 = .ok (.ifCond .eq 26, 3) := by decide +kernel
theorem dX1_two_57 : decode cX1_two 57 = .ok (.aload_n 0, 1) := by decide +kernel
theorem dX1_two_58 : decode cX1_two 58 = .ok (.getfield 81, 3) := by decide +kernel
theorem dX1_two_61 : decode cX1_two 61 = .ok (.iconst 4, 1) := by decide +kernel
theorem dX1_two_62 : decode cX1_two 62 = .ok (.irem, 1) := by decide +kernel
theorem dX1_two_63 : decode cX1_two 63 = .ok (.ifCond .ne 14, 3) := by decide +kernel
theorem dX1_two_66 : decode cX1_two 66 = .ok (.aload_n 0, 1) := by decide +kernel
theorem dX1_two_67 : decode cX1_two 67 = .ok (.aload_n 0, 1) := by decide +kernel
theorem dX1_two_68 : decode cX1_two 68 = .ok (.getfield 81, 3) := by decide +kernel
theorem dX1_two_71 : decode cX1_two 71 = .ok (.invokevirtual 130, 3) := by decide +kernel
theorem dX1_two_74 : decode cX1_two 74 = .ok (.ifCond .ne 6, 3) := by decide +kernel
theorem dX1_two_77 : decode cX1_two 77 = .ok (.bipush 7, 2) := by decide +kernel
theorem dX1_two_79 : decode cX1_two 79 = .ok (.ireturn, 1) := by decide +kernel
theorem dX1_two_80 : decode cX1_two 80 = .ok (.aload_n 0, 1) := by decide +kernel
theorem dX1_two_81 : decode cX1_two 81 = .ok (.getfield 25, 3) := by decide +kernel
theorem dX1_two_84 : decode cX1_two 84 = .ok (.aload_n 0, 1) := by decide +kernel
theorem dX1_two_85 : decode cX1_two 85 = .ok (.getfield 74, 3) := by decide +kernel
theorem dX1_two_88 : decode cX1_two 88 = .ok (.iaload, 1) := by decide +kernel
theorem dX1_two_89 : decode cX1_two 89 = .ok (.istore_n 3, 1) := by decide +kernel
theorem dX1_two_90 : decode cX1_two 90 = .ok (.aload_n 0, 1) := by decide +kernel
theorem dX1_two_91 : decode cX1_two 91 = .ok (.aload_n 0, 1) := by decide +kernel
theorem dX1_two_92 : decode cX1_two 92 = .ok (.getfield 74, 3) := by decide +kernel
theorem dX1_two_95 : decode cX1_two 95 = .ok (.aload_n 0, 1) := by decide +kernel
theorem dX1_two_96 : decode cX1_two 96 = .ok (.getfield 74, 3) := by decide +kernel
theorem dX1_two_99 : decode cX1_two 99 = .ok (.ifCond .ne 7, 3) := by decide +kernel
theorem dX1_two_102 : decode cX1_two 102 = .ok (.iconst 0, 1) := by decide +kernel
theorem dX1_two_103 : decode cX1_two 103 = .ok (.goto 14, 3) := by decide +kernel
theorem dX1_two_106 : decode cX1_two 106 = .ok (.ldc 77, 2) := by decide +kernel
theorem dX1_two_108 : decode cX1_two 108 = .ok (.iconst 4, 1) := by decide +kernel
theorem dX1_two_109 : decode cX1_two 109 = .ok (.aload_n 0, 1) := by decide +kernel
theorem dX1_two_110 : decode cX1_two 110 = .ok (.getfield 39, 3) := by decide +kernel
theorem dX1_two_113 : decode cX1_two 113 = .ok (.iconst 2, 1) := by decide +kernel
theorem dX1_two_114 : decode cX1_two 114 = .ok (.iadd, 1) := by decide +kernel
theorem dX1_two_115 : decode cX1_two 115 = .ok (.imul, 1) := by decide +kernel
theorem dX1_two_116 : decode cX1_two 116 = .ok (.iadd, 1) := by decide +kernel
theorem dX1_two_117 : decode cX1_two 117 = .ok (.invokevirtual 93, 3) := by decide +kernel
theorem dX1_two_120 : decode cX1_two 120 = .ok (.aload_n 0, 1) := by decide +kernel
theorem dX1_two_121 : decode cX1_two 121 = .ok (.iload_n 2, 1) := by decide +kernel
theorem dX1_two_122 : decode cX1_two 122 = .ok (.invokevirtual 144, 3) := by decide +kernel
theorem dX1_two_125 : decode cX1_two 125 = .ok (.istore 4, 2) := by decide +kernel
theorem dX1_two_127 : decode cX1_two 127 = .ok (.iload 4, 2) := by decide +kernel
theorem dX1_two_129 : decode cX1_two 129 = .ok (.ifCond .le 16, 3) := by decide +kernel
theorem dX1_two_132 : decode cX1_two 132 = .ok (.aload_n 0, 1) := by decide +kernel
theorem dX1_two_133 : decode cX1_two 133 = .ok (.getfield 25, 3) := by decide +kernel
theorem dX1_two_136 : decode cX1_two 136 = .ok (.aload_n 0, 1) := by decide +kernel
theorem dX1_two_137 : decode cX1_two 137 = .ok (.getfield 74, 3) := by decide +kernel
theorem dX1_two_140 : decode cX1_two 140 = .ok (.iload_n 3, 1) := by decide +kernel
theorem dX1_two_141 : decode cX1_two 141 = .ok (.iastore, 1) := by decide +kernel
theorem dX1_two_142 : decode cX1_two 142 = .ok (.iload 4, 2) := by decide +kernel
theorem dX1_two_144 : decode cX1_two 144 = .ok (.ireturn, 1) := by decide +kernel
theorem dX1_two_145 : decode cX1_two 145 = .ok (.aload_n 0, 1) := by decide +kernel
theorem dX1_two_146 : decode cX1_two 146 = .ok (.aload_n 0, 1) := by decide +kernel
theorem dX1_two_147 : decode cX1_two 147 = .ok (.getfield 71, 3) := by decide +kernel
theorem dX1_two_150 : decode cX1_two 150 = .ok (.ifCond .eq 15, 3) := by decide +kernel
theorem dX1_two_153 : decode cX1_two 153 = .ok (.aload_n 0, 1) := by decide +kernel
theorem dX1_two_154 : decode cX1_two 154 = .ok (.getfield 81, 3) := by decide +kernel
theorem dX1_two_157 : decode cX1_two 157 = .ok (.ldc 77, 2) := by decide +kernel
theorem dX1_two_159 : decode cX1_two 159 = .ok (.isub, 1) := by decide +kernel
theorem dX1_two_160 : decode cX1_two 160 = .ok (.iconst 4, 1) := by decide +kernel
theorem dX1_two_161 : decode cX1_two 161 = .ok (.idiv, 1) := by decide +kernel
theorem dX1_two_162 : decode cX1_two 162 = .ok (.goto 9, 3) := by decide +kernel
theorem dX1_two_165 : decode cX1_two 165 = .ok (.aload_n 0, 1) := by decide +kernel
theorem dX1_two_166 : decode cX1_two 166 = .ok (.getfield 39, 3) := by decide +kernel
theorem dX1_two_169 : decode cX1_two 169 = .ok (.iconst 2, 1) := by decide +kernel
theorem dX1_two_170 : decode cX1_two 170 = .ok (.iadd, 1) := by decide +kernel
theorem dX1_two_171 : decode cX1_two 171 = .ok (.putfield 39, 3) := by decide +kernel
theorem dX1_two_174 : decode cX1_two 174 = .ok (.iconst 0, 1) := by decide +kernel
theorem dX1_two_175 : decode cX1_two 175 = .ok (.ireturn, 1) := by decide +kernel
theorem dX1_run_0 : decode cX1_run 0 = .ok (.iload_n 1, 1) := by decide +kernel
theorem dX1_run_1 : decode cX1_run 1 = .ok (.iconst 1, 1) := by decide +kernel
theorem dX1_run_2 : decode cX1_run 2 = .ok (.if_icmp .lt 10, 3) := by decide +kernel
theorem dX1_run_5 : decode cX1_run 5 = .ok (.iload_n 1, 1) := by decide +kernel
theorem dX1_run_6 : decode cX1_run 6 = .ok (.sipush 2000, 3) := by decide +kernel
theorem dX1_run_9 : decode cX1_run 9 = .ok (.if_icmp .le 5, 3) := by decide +kernel
theorem dX1_run_12 : decode cX1_run 12 = .ok (.iconst (-1), 1) := by decide +kernel
theorem dX1_run_13 : decode cX1_run 13 = .ok (.ireturn, 1) := by decide +kernel
theorem dX1_run_14 : decode cX1_run 14 = .ok (.iload_n 1, 1) := by decide +kernel
theorem dX1_run_15 : decode cX1_run 15 = .ok (.istore_n 2, 1) := by decide +kernel
theorem dX1_run_16 : decode cX1_run 16 = .ok (.aload_n 0, 1) := by decide +kernel
theorem dX1_run_17 : decode cX1_run 17 = .ok (.getfield 51, 3) := by decide +kernel
theorem dX1_run_20 : decode cX1_run 20 = .ok (.ifCond .ne 165, 3) := by decide +kernel
theorem dX1_run_23 : decode cX1_run 23 = .ok (.aload_n 0, 1) := by decide +kernel
theorem dX1_run_24 : decode cX1_run 24 = .ok (.getfield 55, 3) := by decide +kernel
theorem dX1_run_27 : decode cX1_run 27 = .ok (.ifCond .ne 158, 3) := by decide +kernel
theorem dX1_run_30 : decode cX1_run 30 = .ok (.aload_n 0, 1) := by decide +kernel
theorem dX1_run_31 : decode cX1_run 31 = .ok (.getfield 39, 3) := by decide +kernel
theorem dX1_run_34 : decode cX1_run 34 = .ok (.ifCond .lt 14, 3) := by decide +kernel
theorem dX1_run_37 : decode cX1_run 37 = .ok (.aload_n 0, 1) := by decide +kernel
theorem dX1_run_38 : decode cX1_run 38 = .ok (.getfield 39, 3) := by decide +kernel
theorem dX1_run_41 : decode cX1_run 41 = .ok (.aload_n 0, 1) := by decide +kernel
theorem dX1_run_42 : decode cX1_run 42 = .ok (.getfield 36, 3) := by decide +kernel
theorem dX1_run_45 : decode cX1_run 45 = .ok (.if_icmp .lt 12, 3) := by decide +kernel
theorem dX1_run_48 : decode cX1_run 48 = .ok (.aload_n 0, 1) := by decide +kernel
theorem dX1_run_49 : decode cX1_run 49 = .ok (.bipush 7, 2) := by decide +kernel
theorem dX1_run_51 : decode cX1_run 51 = .ok (.putfield 55, 3) := by decide +kernel
theorem dX1_run_54 : decode cX1_run 54 = .ok (.goto 131, 3) := by decide +kernel
theorem dX1_run_57 : decode cX1_run 57 = .ok (.aload_n 0, 1) := by decide +kernel
theorem dX1_run_58 : decode cX1_run 58 = .ok (.getfield 13, 3) := by decide +kernel
theorem dX1_run_61 : decode cX1_run 61 = .ok (.aload_n 0, 1) := by decide +kernel
theorem dX1_run_62 : decode cX1_run 62 = .ok (.getfield 39, 3) := by decide +kernel
theorem dX1_run_65 : decode cX1_run 65 = .ok (.iaload, 1) := by decide +kernel
theorem dX1_run_66 : decode cX1_run 66 = .ok (.istore_n 3, 1) := by decide +kernel
theorem dX1_run_67 : decode cX1_run 67 = .ok (.iload_n 3, 1) := by decide +kernel
theorem dX1_run_68 : decode cX1_run 68 = .ok (.invokestatic 134, 3) := by decide +kernel
theorem dX1_run_71 : decode cX1_run 71 = .ok (.ifCond .eq 7, 3) := by decide +kernel
theorem dX1_run_74 : decode cX1_run 74 = .ok (.iconst 2, 1) := by decide +kernel
theorem dX1_run_75 : decode cX1_run 75 = .ok (.goto 4, 3) := by decide +kernel
theorem dX1_run_78 : decode cX1_run 78 = .ok (.iconst 1, 1) := by decide +kernel
theorem dX1_run_79 : decode cX1_run 79 = .ok (.istore 4, 2) := by decide +kernel
theorem dX1_run_81 : decode cX1_run 81 = .ok (.iload_n 2, 1) := by decide +kernel
theorem dX1_run_82 : decode cX1_run 82 = .ok (.iload 4, 2) := by decide +kernel
theorem dX1_run_84 : decode cX1_run 84 = .ok (.if_icmp .ge 5, 3) := by decide +kernel
theorem dX1_run_87 : decode cX1_run 87 = .ok (.iconst 0, 1) := by decide +kernel
theorem dX1_run_88 : decode cX1_run 88 = .ok (.ireturn, 1) := by decide +kernel
theorem dX1_run_89 : decode cX1_run 89 = .ok (.iload 4, 2) := by decide +kernel
theorem dX1_run_91 : decode cX1_run 91 = .ok (.iconst 2, 1) := by decide +kernel
theorem dX1_run_92 : decode cX1_run 92 = .ok (.if_icmp .ne 15, 3) := by decide +kernel
theorem dX1_run_95 : decode cX1_run 95 = .ok (.aload_n 0, 1) := by decide +kernel
theorem dX1_run_96 : decode cX1_run 96 = .ok (.aload_n 0, 1) := by decide +kernel
theorem dX1_run_97 : decode cX1_run 97 = .ok (.iload_n 3, 1) := by decide +kernel
theorem dX1_run_98 : decode cX1_run 98 = .ok (.invokevirtual 147, 3) := by decide +kernel
theorem dX1_run_101 : decode cX1_run 101 = .ok (.putfield 55, 3) := by decide +kernel
theorem dX1_run_104 : decode cX1_run 104 = .ok (.goto 40, 3) := by decide +kernel
theorem dX1_run_107 : decode cX1_run 107 = .ok (.aload_n 0, 1) := by decide +kernel
theorem dX1_run_108 : decode cX1_run 108 = .ok (.aload_n 0, 1) := by decide +kernel
theorem dX1_run_109 : decode cX1_run 109 = .ok (.iload_n 3, 1) := by decide +kernel
theorem dX1_run_110 : decode cX1_run 110 = .ok (.invokevirtual 144, 3) := by decide +kernel
theorem dX1_run_113 : decode cX1_run 113 = .ok (.putfield 55, 3) := by decide +kernel
theorem dX1_run_116 : decode cX1_run 116 = .ok (.aload_n 0, 1) := by decide +kernel
theorem dX1_run_117 : decode cX1_run 117 = .ok (.dup, 1) := by decide +kernel
theorem dX1_run_118 : decode cX1_run 118 = .ok (.getfield 39, 3) := by decide +kernel
theorem dX1_run_121 : decode cX1_run 121 = .ok (.aload_n 0, 1) := by decide +kernel
theorem dX1_run_122 : decode cX1_run 122 = .ok (.getfield 55, 3) := by decide +kernel
theorem dX1_run_125 : decode cX1_run 125 = .ok (.ifCond .ne 14, 3) := by decide +kernel
theorem dX1_run_128 : decode cX1_run 128 = .ok (.aload_n 0, 1) := by decide +kernel
theorem dX1_run_129 : decode cX1_run 129 = .ok (.getfield 51, 3) := by decide +kernel
theorem dX1_run_132 : decode cX1_run 132 = .ok (.ifCond .ne 7, 3) := by decide +kernel
theorem dX1_run_135 : decode cX1_run 135 = .ok (.iconst 1, 1) := by decide +kernel
theorem dX1_run_136 : decode cX1_run 136 = .ok (.goto 4, 3) := by decide +kernel
theorem dX1_run_139 : decode cX1_run 139 = .ok (.iconst 0, 1) := by decide +kernel
theorem dX1_run_140 : decode cX1_run 140 = .ok (.iadd, 1) := by decide +kernel
theorem dX1_run_141 : decode cX1_run 141 = .ok (.putfield 39, 3) := by decide +kernel
theorem dX1_run_144 : decode cX1_run 144 = .ok (.iload_n 2, 1) := by decide +kernel
theorem dX1_run_145 : decode cX1_run 145 = .ok (.aload_n 0, 1) := by decide +kernel
theorem dX1_run_146 : decode cX1_run 146 = .ok (.getfield 55, 3) := by decide +kernel
theorem dX1_run_149 : decode cX1_run 149 = .ok (.ifCond .ne 8, 3) := by decide +kernel
theorem dX1_run_152 : decode cX1_run 152 = .ok (.iload 4, 2) := by decide +kernel
theorem dX1_run_154 : decode cX1_run 154 = .ok (.goto 4, 3) := by decide +kernel
theorem dX1_run_157 : decode cX1_run 157 = .ok (.iconst 0, 1) := by decide +kernel
theorem dX1_run_158 : decode cX1_run 158 = .ok (.isub, 1) := by decide +kernel
theorem dX1_run_159 : decode cX1_run 159 = .ok (.istore_n 2, 1) := by decide +kernel
theorem dX1_run_160 : decode cX1_run 160 = .ok (.aload_n 0, 1) := by decide +kernel
theorem dX1_run_161 : decode cX1_run 161 = .ok (.dup, 1) := by decide +kernel
theorem dX1_run_162 : decode cX1_run 162 = .ok (.getfield 48, 3) := by decide +kernel
theorem dX1_run_165 : decode cX1_run 165 = .ok (.aload_n 0, 1) := by decide +kernel
theorem dX1_run_166 : decode cX1_run 166 = .ok (.getfield 55, 3) := by decide +kernel
theorem dX1_run_169 : decode cX1_run 169 = .ok (.ifCond .ne 8, 3) := by decide +kernel
theorem dX1_run_172 : decode cX1_run 172 = .ok (.iload 4, 2) := by decide +kernel
theorem dX1_run_174 : decode cX1_run 174 = .ok (.goto 4, 3) := by decide +kernel
theorem dX1_run_177 : decode cX1_run 177 = .ok (.iconst 0, 1) := by decide +kernel
theorem dX1_run_178 : decode cX1_run 178 = .ok (.iadd, 1) := by decide +kernel
theorem dX1_run_179 : decode cX1_run 179 = .ok (.putfield 48, 3) := by decide +kernel
theorem dX1_run_182 : decode cX1_run 182 = .ok (.goto (-166), 3) := by decide +kernel
theorem dX1_run_185 : decode cX1_run 185 = .ok (.aload_n 0, 1) := by decide +kernel
theorem dX1_run_186 : decode cX1_run 186 = .ok (.getfield 51, 3) := by decide +kernel
theorem dX1_run_189 : decode cX1_run 189 = .ok (.ifCond .eq 7, 3) := by decide +kernel
theorem dX1_run_192 : decode cX1_run 192 = .ok (.iconst 1, 1) := by decide +kernel
theorem dX1_run_193 : decode cX1_run 193 = .ok (.goto 10, 3) := by decide +kernel
theorem dX1_run_196 : decode cX1_run 196 = .ok (.bipush 10, 2) := by decide +kernel
theorem dX1_run_198 : decode cX1_run 198 = .ok (.aload_n 0, 1) := by decide +kernel
theorem dX1_run_199 : decode cX1_run 199 = .ok (.getfield 55, 3) := by decide +kernel
theorem dX1_run_202 : decode cX1_run 202 = .ok (.iadd, 1) := by decide +kernel
theorem dX1_run_203 : decode cX1_run 203 = .ok (.ireturn, 1) := by decide +kernel
theorem dX1_register_0 : decode cX1_register 0 = .ok (.iload_n 1, 1) := by decide +kernel
theorem dX1_register_1 : decode cX1_register 1 = .ok (.ifCond .lt 18, 3) := by decide +kernel
theorem dX1_register_4 : decode cX1_register 4 = .ok (.iload_n 1, 1) := by decide +kernel
theorem dX1_register_5 : decode cX1_register 5 = .ok (.bipush 34, 2) := by decide +kernel
theorem dX1_register_7 : decode cX1_register 7 = .ok (.if_icmp .ge 12, 3) := by decide +kernel
theorem dX1_register_10 : decode cX1_register 10 = .ok (.aload_n 0, 1) := by decide +kernel
theorem dX1_register_11 : decode cX1_register 11 = .ok (.getfield 25, 3) := by decide +kernel
theorem dX1_register_14 : decode cX1_register 14 = .ok (.iload_n 1, 1) := by decide +kernel
theorem dX1_register_15 : decode cX1_register 15 = .ok (.iaload, 1) := by decide +kernel
theorem dX1_register_16 : decode cX1_register 16 = .ok (.goto 30, 3) := by decide +kernel
theorem dX1_register_19 : decode cX1_register 19 = .ok (.iload_n 1, 1) := by decide +kernel
theorem dX1_register_20 : decode cX1_register 20 = .ok (.bipush 34, 2) := by decide +kernel
theorem dX1_register_22 : decode cX1_register 22 = .ok (.if_icmp .ne 10, 3) := by decide +kernel
theorem dX1_register_25 : decode cX1_register 25 = .ok (.aload_n 0, 1) := by decide +kernel
theorem dX1_register_26 : decode cX1_register 26 = .ok (.getfield 39, 3) := by decide +kernel
theorem dX1_register_29 : decode cX1_register 29 = .ok (.goto 17, 3) := by decide +kernel
theorem dX1_register_32 : decode cX1_register 32 = .ok (.iload_n 1, 1) := by decide +kernel
theorem dX1_register_33 : decode cX1_register 33 = .ok (.bipush 35, 2) := by decide +kernel
theorem dX1_register_35 : decode cX1_register 35 = .ok (.if_icmp .ne 10, 3) := by decide +kernel
theorem dX1_register_38 : decode cX1_register 38 = .ok (.aload_n 0, 1) := by decide +kernel
theorem dX1_register_39 : decode cX1_register 39 = .ok (.getfield 48, 3) := by decide +kernel
theorem dX1_register_42 : decode cX1_register 42 = .ok (.goto 4, 3) := by decide +kernel
theorem dX1_register_45 : decode cX1_register 45 = .ok (.iconst 0, 1) := by decide +kernel
theorem dX1_register_46 : decode cX1_register 46 = .ok (.ireturn, 1) := by decide +kernel
theorem dX1_give_0 : decode cX1_give 0 = .ok (.iload_n 1, 1) := by decide +kernel
theorem dX1_give_1 : decode cX1_give 1 = .ok (.iconst 1, 1) := by decide +kernel
theorem dX1_give_2 : decode cX1_give 2 = .ok (.if_icmp .lt 9, 3) := by decide +kernel
theorem dX1_give_5 : decode cX1_give 5 = .ok (.iload_n 1, 1) := by decide +kernel
theorem dX1_give_6 : decode cX1_give 6 = .ok (.bipush 33, 2) := by decide +kernel
theorem dX1_give_8 : decode cX1_give 8 = .ok (.if_icmp .le 5, 3) := by decide +kernel
theorem dX1_give_11 : decode cX1_give 11 = .ok (.iconst (-1), 1) := by decide +kernel
theorem dX1_give_12 : decode cX1_give 12 = .ok (.ireturn, 1) := by decide +kernel
theorem dX1_give_13 : decode cX1_give 13 = .ok (.aload_n 0, 1) := by decide +kernel
theorem dX1_give_14 : decode cX1_give 14 = .ok (.getfield 25, 3) := by decide +kernel
theorem dX1_give_17 : decode cX1_give 17 = .ok (.iload_n 1, 1) := by decide +kernel
theorem dX1_give_18 : decode cX1_give 18 = .ok (.iload_n 2, 1) := by decide +kernel
theorem dX1_give_19 : decode cX1_give 19 = .ok (.iastore, 1) := by decide +kernel
theorem dX1_give_20 : decode cX1_give 20 = .ok (.iconst 1, 1) := by decide +kernel
theorem dX1_give_21 : decode cX1_give 21 = .ok (.ireturn, 1) := by decide +kernel
theorem dX1_byteOf_0 : decode cX1_byteOf 0 = .ok (.iload_n 1, 1) := by decide +kernel
theorem dX1_byteOf_1 : decode cX1_byteOf 1 = .ok (.ifCond .lt 19, 3) := by decide +kernel
theorem dX1_byteOf_4 : decode cX1_byteOf 4 = .ok (.iload_n 1, 1) := by decide +kernel
theorem dX1_byteOf_5 : decode cX1_byteOf 5 = .ok (.sipush 256, 3) := by decide +kernel
theorem dX1_byteOf_8 : decode cX1_byteOf 8 = .ok (.if_icmp .ge 12, 3) := by decide +kernel
theorem dX1_byteOf_11 : decode cX1_byteOf 11 = .ok (.aload_n 0, 1) := by decide +kernel
theorem dX1_byteOf_12 : decode cX1_byteOf 12 = .ok (.getfield 16, 3) := by decide +kernel
theorem dX1_byteOf_15 : decode cX1_byteOf 15 = .ok (.iload_n 1, 1) := by decide +kernel
theorem dX1_byteOf_16 : decode cX1_byteOf 16 = .ok (.iaload, 1) := by decide +kernel
theorem dX1_byteOf_17 : decode cX1_byteOf 17 = .ok (.goto 4, 3) := by decide +kernel
theorem dX1_byteOf_20 : decode cX1_byteOf 20 = .ok (.iconst (-1), 1) := by decide +kernel
theorem dX1_byteOf_21 : decode cX1_byteOf 21 = .ok (.ireturn, 1) := by decide +kernel
theorem dX1_output_0 : decode cX1_output 0 = .ok (.iload_n 1, 1) := by decide +kernel
theorem dX1_output_1 : decode cX1_output 1 = .ok (.ifCond .lt 20, 3) := by decide +kernel
theorem dX1_output_4 : decode cX1_output 4 = .ok (.iload_n 1, 1) := by decide +kernel
theorem dX1_output_5 : decode cX1_output 5 = .ok (.aload_n 0, 1) := by decide +kernel
theorem dX1_output_6 : decode cX1_output 6 = .ok (.getfield 45, 3) := by decide +kernel
theorem dX1_output_9 : decode cX1_output 9 = .ok (.if_icmp .ge 12, 3) := by decide +kernel
theorem dX1_output_12 : decode cX1_output 12 = .ok (.aload_n 0, 1) := by decide +kernel
theorem dX1_output_13 : decode cX1_output 13 = .ok (.getfield 22, 3) := by decide +kernel
theorem dX1_output_16 : decode cX1_output 16 = .ok (.iload_n 1, 1) := by decide +kernel
theorem dX1_output_17 : decode cX1_output 17 = .ok (.iaload, 1) := by decide +kernel
theorem dX1_output_18 : decode cX1_output 18 = .ok (.goto 4, 3) := by decide +kernel
theorem dX1_output_21 : decode cX1_output 21 = .ok (.iconst (-1), 1) := by decide +kernel
theorem dX1_output_22 : decode cX1_output 22 = .ok (.ireturn, 1) := by decide +kernel
theorem dX1_code_0 : decode cX1_code 0 = .ok (.aload_n 0, 1) := by decide +kernel
theorem dX1_code_1 : decode cX1_code 1 = .ok (.getfield 58, 3) := by decide +kernel
theorem dX1_code_4 : decode cX1_code 4 = .ok (.ireturn, 1) := by decide +kernel
