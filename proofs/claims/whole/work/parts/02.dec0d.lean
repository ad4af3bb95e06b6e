theorem dX0_performImmediate_0 : decode cX0_performImmediate 0 = .ok (.aload_n 0, 1) := by decide +kernel
theorem dX0_performImmediate_1 : decode cX0_performImmediate 1 = .ok (.getfield 16, 3) := by decide +kernel
theorem dX0_performImmediate_4 : decode cX0_performImmediate 4 = .ok (.iload_n 1, 1) := by decide +kernel
theorem dX0_performImmediate_5 : decode cX0_performImmediate 5 = .ok (.invokestatic 109, 3) := by decide +kernel
theorem dX0_performImmediate_8 : decode cX0_performImmediate 8 = .ok (.iaload, 1) := by decide +kernel
theorem dX0_performImmediate_9 : decode cX0_performImmediate 9 = .ok (.istore_n 2, 1) := by decide +kernel
theorem dX0_performImmediate_10 : decode cX0_performImmediate 10 = .ok (.iload_n 1, 1) := by decide +kernel
theorem dX0_performImmediate_11 : decode cX0_performImmediate 11 = .ok (.invokestatic 84, 3) := by decide +kernel
theorem dX0_performImmediate_14 : decode cX0_performImmediate 14 = .ok (.istore_n 3, 1) := by decide +kernel
theorem dX0_performImmediate_15 : decode cX0_performImmediate 15 = .ok (.iload_n 1, 1) := by decide +kernel
theorem dX0_performImmediate_16 : decode cX0_performImmediate 16 = .ok (.invokestatic 117, 3) := by decide +kernel
theorem dX0_performImmediate_19 : decode cX0_performImmediate 19 = .ok (.istore 4, 2) := by decide +kernel
theorem dX0_performImmediate_21 : decode cX0_performImmediate 21 = .ok (.iload_n 1, 1) := by decide +kernel
theorem dX0_performImmediate_22 : decode cX0_performImmediate 22 = .ok (.invokestatic 164, 3) := by decide +kernel
theorem dX0_performImmediate_25 : decode cX0_performImmediate 25 = .ok (.istore 5, 2) := by decide +kernel
theorem dX0_performImmediate_27 : decode cX0_performImmediate 27 = .ok (.iload_n 1, 1) := by decide +kernel
theorem dX0_performImmediate_28 : decode cX0_performImmediate 28 = .ok (.invokestatic 78, 3) := by decide +kernel
theorem dX0_performImmediate_31 : decode cX0_performImmediate 31 = .ok (.tableswitch 149 8 15 #[45, 57, 67, 84, 108, 118, 128, 138], 45) := by decide +kernel
theorem dX0_performImmediate_76 : decode cX0_performImmediate 76 = .ok (.aload_n 0, 1) := by decide +kernel
theorem dX0_performImmediate_77 : decode cX0_performImmediate 77 = .ok (.iload_n 3, 1) := by decide +kernel
theorem dX0_performImmediate_78 : decode cX0_performImmediate 78 = .ok (.iload_n 2, 1) := by decide +kernel
theorem dX0_performImmediate_79 : decode cX0_performImmediate 79 = .ok (.i2l, 1) := by decide +kernel
theorem dX0_performImmediate_80 : decode cX0_performImmediate 80 = .ok (.iload 4, 2) := by decide +kernel
theorem dX0_performImmediate_82 : decode cX0_performImmediate 82 = .ok (.i2l, 1) := by decide +kernel
theorem dX0_performImmediate_83 : decode cX0_performImmediate 83 = .ok (.ladd, 1) := by decide +kernel
theorem dX0_performImmediate_84 : decode cX0_performImmediate 84 = .ok (.invokevirtual 160, 3) := by decide +kernel
theorem dX0_performImmediate_87 : decode cX0_performImmediate 87 = .ok (.ireturn, 1) := by decide +kernel
theorem dX0_performImmediate_88 : decode cX0_performImmediate 88 = .ok (.aload_n 0, 1) := by decide +kernel
theorem dX0_performImmediate_89 : decode cX0_performImmediate 89 = .ok (.iload_n 3, 1) := by decide +kernel
theorem dX0_performImmediate_90 : decode cX0_performImmediate 90 = .ok (.iload_n 2, 1) := by decide +kernel
theorem dX0_performImmediate_91 : decode cX0_performImmediate 91 = .ok (.iload 4, 2) := by decide +kernel
theorem dX0_performImmediate_93 : decode cX0_performImmediate 93 = .ok (.iadd, 1) := by decide +kernel
theorem dX0_performImmediate_94 : decode cX0_performImmediate 94 = .ok (.invokevirtual 105, 3) := by decide +kernel
theorem dX0_performImmediate_97 : decode cX0_performImmediate 97 = .ok (.ireturn, 1) := by decide +kernel
theorem dX0_performImmediate_98 : decode cX0_performImmediate 98 = .ok (.aload_n 0, 1) := by decide +kernel
theorem dX0_performImmediate_99 : decode cX0_performImmediate 99 = .ok (.iload_n 3, 1) := by decide +kernel
theorem dX0_performImmediate_100 : decode cX0_performImmediate 100 = .ok (.iload_n 2, 1) := by decide +kernel
theorem dX0_performImmediate_101 : decode cX0_performImmediate 101 = .ok (.iload 4, 2) := by decide +kernel
theorem dX0_performImmediate_103 : decode cX0_performImmediate 103 = .ok (.if_icmp .ge 7, 3) := by decide +kernel
theorem dX0_performImmediate_106 : decode cX0_performImmediate 106 = .ok (.iconst 1, 1) := by decide +kernel
theorem dX0_performImmediate_107 : decode cX0_performImmediate 107 = .ok (.goto 4, 3) := by decide +kernel
theorem dX0_performImmediate_110 : decode cX0_performImmediate 110 = .ok (.iconst 0, 1) := by decide +kernel
theorem dX0_performImmediate_111 : decode cX0_performImmediate 111 = .ok (.invokevirtual 105, 3) := by decide +kernel
theorem dX0_performImmediate_114 : decode cX0_performImmediate 114 = .ok (.ireturn, 1) := by decide +kernel
theorem dX0_performImmediate_115 : decode cX0_performImmediate 115 = .ok (.aload_n 0, 1) := by decide +kernel
theorem dX0_performImmediate_116 : decode cX0_performImmediate 116 = .ok (.iload_n 3, 1) := by decide +kernel
theorem dX0_performImmediate_117 : decode cX0_performImmediate 117 = .ok (.iload_n 2, 1) := by decide +kernel
theorem dX0_performImmediate_118 : decode cX0_performImmediate 118 = .ok (.invokestatic 152, 3) := by decide +kernel
theorem dX0_performImmediate_121 : decode cX0_performImmediate 121 = .ok (.iload 4, 2) := by decide +kernel
theorem dX0_performImmediate_123 : decode cX0_performImmediate 123 = .ok (.invokestatic 152, 3) := by decide +kernel
theorem dX0_performImmediate_126 : decode cX0_performImmediate 126 = .ok (.lcmp, 1) := by decide +kernel
theorem dX0_performImmediate_127 : decode cX0_performImmediate 127 = .ok (.ifCond .ge 7, 3) := by decide +kernel
theorem dX0_performImmediate_130 : decode cX0_performImmediate 130 = .ok (.iconst 1, 1) := by decide +kernel
theorem dX0_performImmediate_131 : decode cX0_performImmediate 131 = .ok (.goto 4, 3) := by decide +kernel
theorem dX0_performImmediate_134 : decode cX0_performImmediate 134 = .ok (.iconst 0, 1) := by decide +kernel
theorem dX0_performImmediate_135 : decode cX0_performImmediate 135 = .ok (.invokevirtual 105, 3) := by decide +kernel
theorem dX0_performImmediate_138 : decode cX0_performImmediate 138 = .ok (.ireturn, 1) := by decide +kernel
theorem dX0_performImmediate_139 : decode cX0_performImmediate 139 = .ok (.aload_n 0, 1) := by decide +kernel
theorem dX0_performImmediate_140 : decode cX0_performImmediate 140 = .ok (.iload_n 3, 1) := by decide +kernel
theorem dX0_performImmediate_141 : decode cX0_performImmediate 141 = .ok (.iload_n 2, 1) := by decide +kernel
theorem dX0_performImmediate_142 : decode cX0_performImmediate 142 = .ok (.iload 5, 2) := by decide +kernel
theorem dX0_performImmediate_144 : decode cX0_performImmediate 144 = .ok (.iand, 1) := by decide +kernel
theorem dX0_performImmediate_145 : decode cX0_performImmediate 145 = .ok (.invokevirtual 105, 3) := by decide +kernel
theorem dX0_performImmediate_148 : decode cX0_performImmediate 148 = .ok (.ireturn, 1) := by decide +kernel
theorem dX0_performImmediate_149 : decode cX0_performImmediate 149 = .ok (.aload_n 0, 1) := by decide +kernel
theorem dX0_performImmediate_150 : decode cX0_performImmediate 150 = .ok (.iload_n 3, 1) := by decide +kernel
theorem dX0_performImmediate_151 : decode cX0_performImmediate 151 = .ok (.iload_n 2, 1) := by decide +kernel
theorem dX0_performImmediate_152 : decode cX0_performImmediate 152 = .ok (.iload 5, 2) := by decide +kernel
theorem dX0_performImmediate_154 : decode cX0_performImmediate 154 = .ok (.ior, 1) := by decide +kernel
theorem dX0_performImmediate_155 : decode cX0_performImmediate 155 = .ok (.invokevirtual 105, 3) := by decide +kernel
theorem dX0_performImmediate_158 : decode cX0_performImmediate 158 = .ok (.ireturn, 1) := by decide +kernel
theorem dX0_performImmediate_159 : decode cX0_performImmediate 159 = .ok (.aload_n 0, 1) := by decide +kernel
theorem dX0_performImmediate_160 : decode cX0_performImmediate 160 = .ok (.iload_n 3, 1) := by decide +kernel
theorem dX0_performImmediate_161 : decode cX0_performImmediate 161 = .ok (.iload_n 2, 1) := by decide +kernel
theorem dX0_performImmediate_162 : decode cX0_performImmediate 162 = .ok (.iload 5, 2) := by decide +kernel
theorem dX0_performImmediate_164 : decode cX0_performImmediate 164 = .ok (.ixor, 1) := by decide +kernel
theorem dX0_performImmediate_165 : decode cX0_performImmediate 165 = .ok (.invokevirtual 105, 3) := by decide +kernel
theorem dX0_performImmediate_168 : decode cX0_performImmediate 168 = .ok (.ireturn, 1) := by decide +kernel
theorem dX0_performImmediate_169 : decode cX0_performImmediate 169 = .ok (.aload_n 0, 1) := by decide +kernel
theorem dX0_performImmediate_170 : decode cX0_performImmediate 170 = .ok (.iload_n 3, 1) := by decide +kernel
theorem dX0_performImmediate_171 : decode cX0_performImmediate 171 = .ok (.iload 5, 2) := by decide +kernel
theorem dX0_performImmediate_173 : decode cX0_performImmediate 173 = .ok (.bipush 16, 2) := by decide +kernel
theorem dX0_performImmediate_175 : decode cX0_performImmediate 175 = .ok (.ishl, 1) := by decide +kernel
theorem dX0_performImmediate_176 : decode cX0_performImmediate 176 = .ok (.invokevirtual 105, 3) := by decide +kernel
theorem dX0_performImmediate_179 : decode cX0_performImmediate 179 = .ok (.ireturn, 1) := by decide +kernel
theorem dX0_performImmediate_180 : decode cX0_performImmediate 180 = .ok (.iconst 1, 1) := by decide +kernel
theorem dX0_performImmediate_181 : decode cX0_performImmediate 181 = .ok (.ireturn, 1) := by decide +kernel
theorem dX0_performSystem_0 : decode cX0_performSystem 0 = .ok (.aload_n 0, 1) := by decide +kernel
theorem dX0_performSystem_1 : decode cX0_performSystem 1 = .ok (.getfield 16, 3) := by decide +kernel
theorem dX0_performSystem_4 : decode cX0_performSystem 4 = .ok (.iconst 2, 1) := by decide +kernel
theorem dX0_performSystem_5 : decode cX0_performSystem 5 = .ok (.iaload, 1) := by decide +kernel
theorem dX0_performSystem_6 : decode cX0_performSystem 6 = .ok (.tableswitch 53 1 3 #[26, 31, 36], 26) := by decide +kernel
theorem dX0_performSystem_32 : decode cX0_performSystem 32 = .ok (.aload_n 0, 1) := by decide +kernel
theorem dX0_performSystem_33 : decode cX0_performSystem 33 = .ok (.invokevirtual 167, 3) := by decide +kernel
theorem dX0_performSystem_36 : decode cX0_performSystem 36 = .ok (.ireturn, 1) := by decide +kernel
theorem dX0_performSystem_37 : decode cX0_performSystem 37 = .ok (.aload_n 0, 1) := by decide +kernel
theorem dX0_performSystem_38 : decode cX0_performSystem 38 = .ok (.invokevirtual 170, 3) := by decide +kernel
theorem dX0_performSystem_41 : decode cX0_performSystem 41 = .ok (.ireturn, 1) := by decide +kernel
theorem dX0_performSystem_42 : decode cX0_performSystem 42 = .ok (.aload_n 0, 1) := by decide +kernel
theorem dX0_performSystem_43 : decode cX0_performSystem 43 = .ok (.aload_n 0, 1) := by decide +kernel
theorem dX0_performSystem_44 : decode cX0_performSystem 44 = .ok (.getfield 16, 3) := by decide +kernel
theorem dX0_performSystem_47 : decode cX0_performSystem 47 = .ok (.iconst 4, 1) := by decide +kernel
theorem dX0_performSystem_48 : decode cX0_performSystem 48 = .ok (.iaload, 1) := by decide +kernel
theorem dX0_performSystem_49 : decode cX0_performSystem 49 = .ok (.putfield 61, 3) := by decide +kernel
theorem dX0_performSystem_52 : decode cX0_performSystem 52 = .ok (.aload_n 0, 1) := by decide +kernel
theorem dX0_performSystem_53 : decode cX0_performSystem 53 = .ok (.iconst 1, 1) := by decide +kernel
theorem dX0_performSystem_54 : decode cX0_performSystem 54 = .ok (.putfield 58, 3) := by decide +kernel
theorem dX0_performSystem_57 : decode cX0_performSystem 57 = .ok (.iconst 0, 1) := by decide +kernel
theorem dX0_performSystem_58 : decode cX0_performSystem 58 = .ok (.ireturn, 1) := by decide +kernel
theorem dX0_performSystem_59 : decode cX0_performSystem 59 = .ok (.bipush 10, 2) := by decide +kernel
theorem dX0_performSystem_61 : decode cX0_performSystem 61 = .ok (.ireturn, 1) := by decide +kernel
theorem dX0_readByte_0 : decode cX0_readByte 0 = .ok (.aload_n 0, 1) := by decide +kernel
theorem dX0_readByte_1 : decode cX0_readByte 1 = .ok (.getfield 46, 3) := by decide +kernel
theorem dX0_readByte_4 : decode cX0_readByte 4 = .ok (.aload_n 0, 1) := by decide +kernel
theorem dX0_readByte_5 : decode cX0_readByte 5 = .ok (.getfield 37, 3) := by decide +kernel
theorem dX0_readByte_8 : decode cX0_readByte 8 = .ok (.if_icmp .lt 10, 3) := by decide +kernel
theorem dX0_readByte_11 : decode cX0_readByte 11 = .ok (.aload_n 0, 1) := by decide +kernel
theorem dX0_readByte_12 : decode cX0_readByte 12 = .ok (.iconst 2, 1) := by decide +kernel
theorem dX0_readByte_13 : decode cX0_readByte 13 = .ok (.iconst (-1), 1) := by decide +kernel
theorem dX0_readByte_14 : decode cX0_readByte 14 = .ok (.invokevirtual 105, 3) := by decide +kernel
theorem dX0_readByte_17 : decode cX0_readByte 17 = .ok (.ireturn, 1) := by decide +kernel
theorem dX0_readByte_18 : decode cX0_readByte 18 = .ok (.aload_n 0, 1) := by decide +kernel
theorem dX0_readByte_19 : decode cX0_readByte 19 = .ok (.getfield 22, 3) := by decide +kernel
theorem dX0_readByte_22 : decode cX0_readByte 22 = .ok (.aload_n 0, 1) := by decide +kernel
theorem dX0_readByte_23 : decode cX0_readByte 23 = .ok (.getfield 46, 3) := by decide +kernel
theorem dX0_readByte_26 : decode cX0_readByte 26 = .ok (.iaload, 1) := by decide +kernel
theorem dX0_readByte_27 : decode cX0_readByte 27 = .ok (.istore_n 1, 1) := by decide +kernel
theorem dX0_readByte_28 : decode cX0_readByte 28 = .ok (.aload_n 0, 1) := by decide +kernel
theorem dX0_readByte_29 : decode cX0_readByte 29 = .ok (.dup, 1) := by decide +kernel
theorem dX0_readByte_30 : decode cX0_readByte 30 = .ok (.getfield 46, 3) := by decide +kernel
theorem dX0_readByte_33 : decode cX0_readByte 33 = .ok (.iconst 1, 1) := by decide +kernel
theorem dX0_readByte_34 : decode cX0_readByte 34 = .ok (.iadd, 1) := by decide +kernel
theorem dX0_readByte_35 : decode cX0_readByte 35 = .ok (.putfield 46, 3) := by decide +kernel
theorem dX0_readByte_38 : decode cX0_readByte 38 = .ok (.aload_n 0, 1) := by decide +kernel
theorem dX0_readByte_39 : decode cX0_readByte 39 = .ok (.iconst 2, 1) := by decide +kernel
theorem dX0_readByte_40 : decode cX0_readByte 40 = .ok (.iload_n 1, 1) := by decide +kernel
theorem dX0_readByte_41 : decode cX0_readByte 41 = .ok (.invokevirtual 105, 3) := by decide +kernel
theorem dX0_readByte_44 : decode cX0_readByte 44 = .ok (.ireturn, 1) := by decide +kernel
theorem dX0_writeByte_0 : decode cX0_writeByte 0 = .ok (.aload_n 0, 1) := by decide +kernel
theorem dX0_writeByte_1 : decode cX0_writeByte 1 = .ok (.getfield 49, 3) := by decide +kernel
theorem dX0_writeByte_4 : decode cX0_writeByte 4 = .ok (.sipush 256, 3) := by decide +kernel
theorem dX0_writeByte_7 : decode cX0_writeByte 7 = .ok (.if_icmp .ge 32, 3) := by decide +kernel
theorem dX0_writeByte_10 : decode cX0_writeByte 10 = .ok (.aload_n 0, 1) := by decide +kernel
theorem dX0_writeByte_11 : decode cX0_writeByte 11 = .ok (.getfield 25, 3) := by decide +kernel
theorem dX0_writeByte_14 : decode cX0_writeByte 14 = .ok (.aload_n 0, 1) := by decide +kernel
theorem dX0_writeByte_15 : decode cX0_writeByte 15 = .ok (.getfield 49, 3) := by decide +kernel
theorem dX0_writeByte_18 : decode cX0_writeByte 18 = .ok (.aload_n 0, 1) := by decide +kernel
theorem dX0_writeByte_19 : decode cX0_writeByte 19 = .ok (.getfield 16, 3) := by decide +kernel
theorem dX0_writeByte_22 : decode cX0_writeByte 22 = .ok (.iconst 4, 1) := by decide +kernel
theorem dX0_writeByte_23 : decode cX0_writeByte 23 = .ok (.iaload, 1) := by decide +kernel
theorem dX0_writeByte_24 : decode cX0_writeByte 24 = .ok (.sipush 255, 3) := by decide +kernel
theorem dX0_writeByte_27 : decode cX0_writeByte 27 = .ok (.iand, 1) := by decide +kernel
theorem dX0_writeByte_28 : decode cX0_writeByte 28 = .ok (.iastore, 1) := by decide +kernel
theorem dX0_writeByte_29 : decode cX0_writeByte 29 = .ok (.aload_n 0, 1) := by decide +kernel
theorem dX0_writeByte_30 : decode cX0_writeByte 30 = .ok (.dup, 1) := by decide +kernel
theorem dX0_writeByte_31 : decode cX0_writeByte 31 = .ok (.getfield 49, 3) := by decide +kernel
theorem dX0_writeByte_34 : decode cX0_writeByte 34 = .ok (.iconst 1, 1) := by decide +kernel
theorem dX0_writeByte_35 : decode cX0_writeByte 35 = .ok (.iadd, 1) := by decide +kernel
theorem dX0_writeByte_36 : decode cX0_writeByte 36 = .ok (.putfield 49, 3) := by decide +kernel
theorem dX0_writeByte_39 : decode cX0_writeByte 39 = .ok (.iconst 0, 1) := by decide +kernel
theorem dX0_writeByte_40 : decode cX0_writeByte 40 = .ok (.ireturn, 1) := by decide +kernel
theorem dX0_performAccess_0 : decode cX0_performAccess 0 = .ok (.iload_n 1, 1) := by decide +kernel
theorem dX0_performAccess_1 : decode cX0_performAccess 1 = .ok (.invokestatic 78, 3) := by decide +kernel
theorem dX0_performAccess_4 : decode cX0_performAccess 4 = .ok (.istore_n 2, 1) := by decide +kernel
theorem dX0_performAccess_5 : decode cX0_performAccess 5 = .ok (.iload_n 2, 1) := by decide +kernel
theorem dX0_performAccess_6 : decode cX0_performAccess 6 = .ok (.invokestatic 173, 3) := by decide +kernel
theorem dX0_performAccess_9 : decode cX0_performAccess 9 = .ok (.istore_n 3, 1) := by decide +kernel
theorem dX0_performAccess_10 : decode cX0_performAccess 10 = .ok (.iload_n 3, 1) := by decide +kernel
theorem dX0_performAccess_11 : decode cX0_performAccess 11 = .ok (.ifCond .ne 5, 3) := by decide +kernel
theorem dX0_performAccess_14 : decode cX0_performAccess 14 = .ok (.iconst 1, 1) := by decide +kernel
theorem dX0_performAccess_15 : decode cX0_performAccess 15 = .ok (.ireturn, 1) := by decide +kernel
theorem dX0_performAccess_16 : decode cX0_performAccess 16 = .ok (.iload_n 2, 1) := by decide +kernel
theorem dX0_performAccess_17 : decode cX0_performAccess 17 = .ok (.bipush 40, 2) := by decide +kernel
theorem dX0_performAccess_19 : decode cX0_performAccess 19 = .ok (.if_icmp .lt 7, 3) := by decide +kernel
theorem dX0_performAccess_22 : decode cX0_performAccess 22 = .ok (.iconst 1, 1) := by decide +kernel
theorem dX0_performAccess_23 : decode cX0_performAccess 23 = .ok (.goto 4, 3) := by decide +kernel
theorem dX0_performAccess_26 : decode cX0_performAccess 26 = .ok (.iconst 0, 1) := by decide +kernel
theorem dX0_performAccess_27 : decode cX0_performAccess 27 = .ok (.istore 4, 2) := by decide +kernel
theorem dX0_performAccess_29 : decode cX0_performAccess 29 = .ok (.aload_n 0, 1) := by decide +kernel
theorem dX0_performAccess_30 : decode cX0_performAccess 30 = .ok (.getfield 16, 3) := by decide +kernel
theorem dX0_performAccess_33 : decode cX0_performAccess 33 = .ok (.iload_n 1, 1) := by decide +kernel
theorem dX0_performAccess_34 : decode cX0_performAccess 34 = .ok (.invokestatic 109, 3) := by decide +kernel
theorem dX0_performAccess_37 : decode cX0_performAccess 37 = .ok (.iaload, 1) := by decide +kernel
theorem dX0_performAccess_38 : decode cX0_performAccess 38 = .ok (.iload_n 1, 1) := by decide +kernel
theorem dX0_performAccess_39 : decode cX0_performAccess 39 = .ok (.invokestatic 117, 3) := by decide +kernel
theorem dX0_performAccess_42 : decode cX0_performAccess 42 = .ok (.iadd, 1) := by decide +kernel
theorem dX0_performAccess_43 : decode cX0_performAccess 43 = .ok (.istore 5, 2) := by decide +kernel
theorem dX0_performAccess_45 : decode cX0_performAccess 45 = .ok (.iload 5, 2) := by decide +kernel
theorem dX0_performAccess_47 : decode cX0_performAccess 47 = .ok (.iload_n 3, 1) := by decide +kernel
theorem dX0_performAccess_48 : decode cX0_performAccess 48 = .ok (.iconst 1, 1) := by decide +kernel
theorem dX0_performAccess_49 : decode cX0_performAccess 49 = .ok (.isub, 1) := by decide +kernel
theorem dX0_performAccess_50 : decode cX0_performAccess 50 = .ok (.iand, 1) := by decide +kernel
theorem dX0_performAccess_51 : decode cX0_performAccess 51 = .ok (.ifCond .eq 5, 3) := by decide +kernel
theorem dX0_performAccess_54 : decode cX0_performAccess 54 = .ok (.iconst 2, 1) := by decide +kernel
theorem dX0_performAccess_55 : decode cX0_performAccess 55 = .ok (.ireturn, 1) := by decide +kernel
theorem dX0_performAccess_56 : decode cX0_performAccess 56 = .ok (.iload 5, 2) := by decide +kernel
theorem dX0_performAccess_58 : decode cX0_performAccess 58 = .ok (.ldc 176, 2) := by decide +kernel
theorem dX0_performAccess_60 : decode cX0_performAccess 60 = .ok (.isub, 1) := by decide +kernel
theorem dX0_performAccess_61 : decode cX0_performAccess 61 = .ok (.istore 6, 2) := by decide +kernel
theorem dX0_performAccess_63 : decode cX0_performAccess 63 = .ok (.iload 6, 2) := by decide +kernel
theorem dX0_performAccess_65 : decode cX0_performAccess 65 = .ok (.ifCond .lt 13, 3) := by decide +kernel
theorem dX0_performAccess_68 : decode cX0_performAccess 68 = .ok (.iload 6, 2) := by decide +kernel
theorem dX0_performAccess_70 : decode cX0_performAccess 70 = .ok (.sipush 256, 3) := by decide +kernel
theorem dX0_performAccess_73 : decode cX0_performAccess 73 = .ok (.iload_n 3, 1) := by decide +kernel
theorem dX0_performAccess_74 : decode cX0_performAccess 74 = .ok (.isub, 1) := by decide +kernel
theorem dX0_performAccess_75 : decode cX0_performAccess 75 = .ok (.if_icmp .le 24, 3) := by decide +kernel
theorem dX0_performAccess_78 : decode cX0_performAccess 78 = .ok (.iload 4, 2) := by decide +kernel
theorem dX0_performAccess_80 : decode cX0_performAccess 80 = .ok (.ifCond .eq 17, 3) := by decide +kernel
theorem dX0_performAccess_83 : decode cX0_performAccess 83 = .ok (.aload_n 0, 1) := by decide +kernel
theorem dX0_performAccess_84 : decode cX0_performAccess 84 = .ok (.iload 5, 2) := by decide +kernel
theorem dX0_performAccess_86 : decode cX0_performAccess 86 = .ok (.invokevirtual 177, 3) := by decide +kernel
theorem dX0_performAccess_89 : decode cX0_performAccess 89 = .ok (.ifCond .eq 8, 3) := by decide +kernel
theorem dX0_performAccess_92 : decode cX0_performAccess 92 = .ok (.bipush 6, 2) := by decide +kernel
theorem dX0_performAccess_94 : decode cX0_performAccess 94 = .ok (.goto 4, 3) := by decide +kernel
theorem dX0_performAccess_97 : decode cX0_performAccess 97 = .ok (.iconst 3, 1) := by decide +kernel
theorem dX0_performAccess_98 : decode cX0_performAccess 98 = .ok (.ireturn, 1) := by decide +kernel
theorem dX0_performAccess_99 : decode cX0_performAccess 99 = .ok (.iload 4, 2) := by decide +kernel
theorem dX0_performAccess_101 : decode cX0_performAccess 101 = .ok (.ifCond .eq 20, 3) := by decide +kernel
theorem dX0_performAccess_104 : decode cX0_performAccess 104 = .ok (.aload_n 0, 1) := by decide +kernel
theorem dX0_performAccess_105 : decode cX0_performAccess 105 = .ok (.iload 6, 2) := by decide +kernel
theorem dX0_performAccess_107 : decode cX0_performAccess 107 = .ok (.iload_n 3, 1) := by decide +kernel
theorem dX0_performAccess_108 : decode cX0_performAccess 108 = .ok (.aload_n 0, 1) := by decide +kernel
theorem dX0_performAccess_109 : decode cX0_performAccess 109 = .ok (.getfield 16, 3) := by decide +kernel
theorem dX0_performAccess_112 : decode cX0_performAccess 112 = .ok (.iload_n 1, 1) := by decide +kernel
theorem dX0_performAccess_113 : decode cX0_performAccess 113 = .ok (.invokestatic 84, 3) := by decide +kernel
theorem dX0_performAccess_116 : decode cX0_performAccess 116 = .ok (.iaload, 1) := by decide +kernel
theorem dX0_performAccess_117 : decode cX0_performAccess 117 = .ok (.invokevirtual 180, 3) := by decide +kernel
theorem dX0_performAccess_120 : decode cX0_performAccess 120 = .ok (.ireturn, 1) := by decide +kernel
theorem dX0_performAccess_121 : decode cX0_performAccess 121 = .ok (.iload_n 2, 1) := by decide +kernel
theorem dX0_performAccess_122 : decode cX0_performAccess 122 = .ok (.bipush 36, 2) := by decide +kernel
theorem dX0_performAccess_124 : decode cX0_performAccess 124 = .ok (.if_icmp .ge 7, 3) := by decide +kernel
theorem dX0_performAccess_127 : decode cX0_performAccess 127 = .ok (.iconst 1, 1) := by decide +kernel
theorem dX0_performAccess_128 : decode cX0_performAccess 128 = .ok (.goto 4, 3) := by decide +kernel
theorem dX0_performAccess_131 : decode cX0_performAccess 131 = .ok (.iconst 0, 1) := by decide +kernel
theorem dX0_performAccess_132 : decode cX0_performAccess 132 = .ok (.istore 7, 2) := by decide +kernel
theorem dX0_performAccess_134 : decode cX0_performAccess 134 = .ok (.aload_n 0, 1) := by decide +kernel
theorem dX0_performAccess_135 : decode cX0_performAccess 135 = .ok (.iload_n 1, 1) := by decide +kernel
theorem dX0_performAccess_136 : decode cX0_performAccess 136 = .ok (.invokestatic 84, 3) := by decide +kernel
theorem dX0_performAccess_139 : decode cX0_performAccess 139 = .ok (.aload_n 0, 1) := by decide +kernel
theorem dX0_performAccess_140 : decode cX0_performAccess 140 = .ok (.iload 6, 2) := by decide +kernel
theorem dX0_performAccess_142 : decode cX0_performAccess 142 = .ok (.iload_n 3, 1) := by decide +kernel
theorem dX0_performAccess_143 : decode cX0_performAccess 143 = .ok (.iload 7, 2) := by decide +kernel
theorem dX0_performAccess_145 : decode cX0_performAccess 145 = .ok (.invokevirtual 184, 3) := by decide +kernel
theorem dX0_performAccess_148 : decode cX0_performAccess 148 = .ok (.invokevirtual 105, 3) := by decide +kernel
theorem dX0_performAccess_151 : decode cX0_performAccess 151 = .ok (.ireturn, 1) := by decide +kernel
theorem dX0_bytesOfAccess_0 : decode cX0_bytesOfAccess 0 = .ok (.iload_n 0, 1) := by decide +kernel
theorem dX0_bytesOfAccess_1 : decode cX0_bytesOfAccess 1 = .ok (.tableswitch 69 32 43 #[63, 65, 69, 67, 63, 65, 69, 69, 63, 65, 69, 67], 63) := by decide +kernel
theorem dX0_bytesOfAccess_64 : decode cX0_bytesOfAccess 64 = .ok (.iconst 1, 1) := by decide +kernel
theorem dX0_bytesOfAccess_65 : decode cX0_bytesOfAccess 65 = .ok (.ireturn, 1) := by decide +kernel
theorem dX0_bytesOfAccess_66 : decode cX0_bytesOfAccess 66 = .ok (.iconst 2, 1) := by decide +kernel
theorem dX0_bytesOfAccess_67 : decode cX0_bytesOfAccess 67 = .ok (.ireturn, 1) := by decide +kernel
theorem dX0_bytesOfAccess_68 : decode cX0_bytesOfAccess 68 = .ok (.iconst 4, 1) := by decide +kernel
theorem dX0_bytesOfAccess_69 : decode cX0_bytesOfAccess 69 = .ok (.ireturn, 1) := by decide +kernel
theorem dX0_bytesOfAccess_70 : decode cX0_bytesOfAccess 70 = .ok (.iconst 0, 1) := by decide +kernel
theorem dX0_bytesOfAccess_71 : decode cX0_bytesOfAccess 71 = .ok (.ireturn, 1) := by decide +kernel
theorem dX0_load_0 : decode cX0_load 0 = .ok (.iconst 0, 1) := by decide +kernel
theorem dX0_load_1 : decode cX0_load 1 = .ok (.istore 4, 2) := by decide +kernel
theorem dX0_load_3 : decode cX0_load 3 = .ok (.iconst 0, 1) := by decide +kernel
theorem dX0_load_4 : decode cX0_load 4 = .ok (.istore 5, 2) := by decide +kernel
theorem dX0_load_6 : decode cX0_load 6 = .ok (.iload 5, 2) := by decide +kernel
theorem dX0_load_8 : decode cX0_load 8 = .ok (.iload_n 2, 1) := by decide +kernel
theorem dX0_load_9 : decode cX0_load 9 = .ok (.if_icmp .ge 26, 3) := by decide +kernel
theorem dX0_load_12 : decode cX0_load 12 = .ok (.iload 4, 2) := by decide +kernel
theorem dX0_load_14 : decode cX0_load 14 = .ok (.bipush 8, 2) := by decide +kernel
theorem dX0_load_16 : decode cX0_load 16 = .ok (.ishl, 1) := by decide +kernel
theorem dX0_load_17 : decode cX0_load 17 = .ok (.aload_n 0, 1) := by decide +kernel
theorem dX0_load_18 : decode cX0_load 18 = .ok (.getfield 19, 3) := by decide +kernel
theorem dX0_load_21 : decode cX0_load 21 = .ok (.iload_n 1, 1) := by decide +kernel
theorem dX0_load_22 : decode cX0_load 22 = .ok (.iload 5, 2) := by decide +kernel
theorem dX0_load_24 : decode cX0_load 24 = .ok (.iadd, 1) := by decide +kernel
theorem dX0_load_25 : decode cX0_load 25 = .ok (.iaload, 1) := by decide +kernel
theorem dX0_load_26 : decode cX0_load 26 = .ok (.ior, 1) := by decide +kernel
theorem dX0_load_27 : decode cX0_load 27 = .ok (.istore 4, 2) := by decide +kernel
theorem dX0_load_29 : decode cX0_load 29 = .ok (.iinc 5 1, 3) := by decide +kernel
theorem dX0_load_32 : decode cX0_load 32 = .ok (.goto (-26), 3) := by decide +kernel
theorem dX0_load_35 : decode cX0_load 35 = .ok (.bipush 32, 2) := by decide +kernel
theorem dX0_load_37 : decode cX0_load 37 = .ok (.bipush 8, 2) := by decide +kernel
theorem dX0_load_39 : decode cX0_load 39 = .ok (.iload_n 2, 1) := by decide +kernel
theorem dX0_load_40 : decode cX0_load 40 = .ok (.imul, 1) := by decide +kernel
theorem dX0_load_41 : decode cX0_load 41 = .ok (.isub, 1) := by decide +kernel
theorem dX0_load_42 : decode cX0_load 42 = .ok (.istore 5, 2) := by decide +kernel
theorem dX0_load_44 : decode cX0_load 44 = .ok (.iload_n 3, 1) := by decide +kernel
theorem dX0_load_45 : decode cX0_load 45 = .ok (.ifCond .eq 14, 3) := by decide +kernel
theorem dX0_load_48 : decode cX0_load 48 = .ok (.iload 4, 2) := by decide +kernel
theorem dX0_load_50 : decode cX0_load 50 = .ok (.iload 5, 2) := by decide +kernel
theorem dX0_load_52 : decode cX0_load 52 = .ok (.ishl, 1) := by decide +kernel
theorem dX0_load_53 : decode cX0_load 53 = .ok (.iload 5, 2) := by decide +kernel
theorem dX0_load_55 : decode cX0_load 55 = .ok (.ishr, 1) := by decide +kernel
theorem dX0_load_56 : decode cX0_load 56 = .ok (.goto 5, 3) := by decide +kernel
theorem dX0_load_59 : decode cX0_load 59 = .ok (.iload 4, 2) := by decide +kernel
theorem dX0_load_61 : decode cX0_load 61 = .ok (.ireturn, 1) := by decide +kernel
theorem dX0_store_0 : decode cX0_store 0 = .ok (.iload_n 3, 1) := by decide +kernel
theorem dX0_store_1 : decode cX0_store 1 = .ok (.istore 4, 2) := by decide +kernel
theorem dX0_store_3 : decode cX0_store 3 = .ok (.iload_n 2, 1) := by decide +kernel
theorem dX0_store_4 : decode cX0_store 4 = .ok (.iconst 1, 1) := by decide +kernel
theorem dX0_store_5 : decode cX0_store 5 = .ok (.isub, 1) := by decide +kernel
theorem dX0_store_6 : decode cX0_store 6 = .ok (.istore 5, 2) := by decide +kernel
theorem dX0_store_8 : decode cX0_store 8 = .ok (.iload 5, 2) := by decide +kernel
theorem dX0_store_10 : decode cX0_store 10 = .ok (.ifCond .lt 31, 3) := by decide +kernel
theorem dX0_store_13 : decode cX0_store 13 = .ok (.aload_n 0, 1) := by decide +kernel
theorem dX0_store_14 : decode cX0_store 14 = .ok (.getfield 19, 3) := by decide +kernel
theorem dX0_store_17 : decode cX0_store 17 = .ok (.iload_n 1, 1) := by decide +kernel
theorem dX0_store_18 : decode cX0_store 18 = .ok (.iload 5, 2) := by decide +kernel
theorem dX0_store_20 : decode cX0_store 20 = .ok (.iadd, 1) := by decide +kernel
theorem dX0_store_21 : decode cX0_store 21 = .ok (.iload 4, 2) := by decide +kernel
theorem dX0_store_23 : decode cX0_store 23 = .ok (.sipush 255, 3) := by decide +kernel
theorem dX0_store_26 : decode cX0_store 26 = .ok (.iand, 1) := by decide +kernel
theorem dX0_store_27 : decode cX0_store 27 = .ok (.iastore, 1) := by decide +kernel
theorem dX0_store_28 : decode cX0_store 28 = .ok (.iload 4, 2) := by decide +kernel
theorem dX0_store_30 : decode cX0_store 30 = .ok (.bipush 8, 2) := by decide +kernel
theorem dX0_store_32 : decode cX0_store 32 = .ok (.iushr, 1) := by decide +kernel
theorem dX0_store_33 : decode cX0_store 33 = .ok (.istore 4, 2) := by decide +kernel
theorem dX0_store_35 : decode cX0_store 35 = .ok (.iinc 5 (-1), 3) := by decide +kernel
theorem dX0_store_38 : decode cX0_store 38 = .ok (.goto (-30), 3) := by decide +kernel
theorem dX0_store_41 : decode cX0_store 41 = .ok (.iconst 0, 1) := by decide +kernel
theorem dX0_store_42 : decode cX0_store 42 = .ok (.ireturn, 1) := by decide +kernel
theorem dX0_put_0 : decode cX0_put 0 = .ok (.iload_n 1, 1) := by decide +kernel
theorem dX0_put_1 : decode cX0_put 1 = .ok (.ifCond .le 16, 3) := by decide +kernel
theorem dX0_put_4 : decode cX0_put 4 = .ok (.iload_n 1, 1) := by decide +kernel
theorem dX0_put_5 : decode cX0_put 5 = .ok (.bipush 34, 2) := by decide +kernel
theorem dX0_put_7 : decode cX0_put 7 = .ok (.if_icmp .ge 10, 3) := by decide +kernel
theorem dX0_put_10 : decode cX0_put 10 = .ok (.aload_n 0, 1) := by decide +kernel
theorem dX0_put_11 : decode cX0_put 11 = .ok (.getfield 16, 3) := by decide +kernel
theorem dX0_put_14 : decode cX0_put 14 = .ok (.iload_n 1, 1) := by decide +kernel
theorem dX0_put_15 : decode cX0_put 15 = .ok (.iload_n 2, 1) := by decide +kernel
theorem dX0_put_16 : decode cX0_put 16 = .ok (.iastore, 1) := by decide +kernel
theorem dX0_put_17 : decode cX0_put 17 = .ok (.iconst 0, 1) := by decide +kernel
theorem dX0_put_18 : decode cX0_put 18 = .ok (.ireturn, 1) := by decide +kernel
theorem dX0_putUnlessOverflow_0 : decode cX0_putUnlessOverflow 0 = .ok (.lload_n 2, 1) := by decide +kernel
theorem dX0_putUnlessOverflow_1 : decode cX0_putUnlessOverflow 1 = .ok (.lload_n 2, 1) := by decide +kernel
theorem dX0_putUnlessOverflow_2 : decode cX0_putUnlessOverflow 2 = .ok (.l2i, 1) := by decide +kernel
theorem dX0_putUnlessOverflow_3 : decode cX0_putUnlessOverflow 3 = .ok (.i2l, 1) := by decide +kernel
theorem dX0_putUnlessOverflow_4 : decode cX0_putUnlessOverflow 4 = .ok (.lcmp, 1) := by decide +kernel
theorem dX0_putUnlessOverflow_5 : decode cX0_putUnlessOverflow 5 = .ok (.ifCond .ne 13, 3) := by decide +kernel
theorem dX0_putUnlessOverflow_8 : decode cX0_putUnlessOverflow 8 = .ok (.aload_n 0, 1) := by decide +kernel
theorem dX0_putUnlessOverflow_9 : decode cX0_putUnlessOverflow 9 = .ok (.iload_n 1, 1) := by decide +kernel
theorem dX0_putUnlessOverflow_10 : decode cX0_putUnlessOverflow 10 = .ok (.lload_n 2, 1) := by decide +kernel
theorem dX0_putUnlessOverflow_11 : decode cX0_putUnlessOverflow 11 = .ok (.l2i, 1) := by decide +kernel
theorem dX0_putUnlessOverflow_12 : decode cX0_putUnlessOverflow 12 = .ok (.invokevirtual 105, 3) := by decide +kernel
theorem dX0_putUnlessOverflow_15 : decode cX0_putUnlessOverflow 15 = .ok (.goto 4, 3) := by decide +kernel
theorem dX0_putUnlessOverflow_18 : decode cX0_putUnlessOverflow 18 = .ok (.iconst 4, 1) := by decide +kernel
theorem dX0_putUnlessOverflow_19 : decode cX0_putUnlessOverflow 19 = .ok (.ireturn, 1) := by decide +kernel
theorem dX0_unsigned_0 : decode cX0_unsigned 0 = .ok (.iload_n 0, 1) := by decide +kernel
theorem dX0_unsigned_1 : decode cX0_unsigned 1 = .ok (.i2l, 1) := by decide +kernel
theorem dX0_unsigned_2 : decode cX0_unsigned 2 = .ok (.ldc2_w 188, 3) := by decide +kernel
theorem dX0_unsigned_5 : decode cX0_unsigned 5 = .ok (.land, 1) := by decide +kernel
theorem dX0_unsigned_6 : decode cX0_unsigned 6 = .ok (.lreturn, 1) := by decide +kernel
theorem dX0_isByte_0 : decode cX0_isByte 0 = .ok (.iload_n 0, 1) := by decide +kernel
theorem dX0_isByte_1 : decode cX0_isByte 1 = .ok (.ifCond .lt 14, 3) := by decide +kernel
theorem dX0_isByte_4 : decode cX0_isByte 4 = .ok (.iload_n 0, 1) := by decide +kernel
theorem dX0_isByte_5 : decode cX0_isByte 5 = .ok (.sipush 255, 3) := by decide +kernel
theorem dX0_isByte_8 : decode cX0_isByte 8 = .ok (.if_icmp .gt 7, 3) := by decide +kernel
theorem dX0_isByte_11 : decode cX0_isByte 11 = .ok (.iconst 1, 1) := by decide +kernel
theorem dX0_isByte_12 : decode cX0_isByte 12 = .ok (.goto 4, 3) := by decide +kernel
theorem dX0_isByte_15 : decode cX0_isByte 15 = .ok (.iconst 0, 1) := by decide +kernel
theorem dX0_isByte_16 : decode cX0_isByte 16 = .ok (.ireturn, 1) := by decide +kernel
