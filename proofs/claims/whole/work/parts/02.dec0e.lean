theorem dX0_isDataIndex_0 : decode cX0_isDataIndex 0 = .ok (.iload_n 0, 1) := by decide +kernel
theorem dX0_isDataIndex_1 : decode cX0_isDataIndex 1 = .ok (.ifCond .lt 14, 3) := by decide +kernel
theorem dX0_isDataIndex_4 : decode cX0_isDataIndex 4 = .ok (.iload_n 0, 1) := by decide +kernel
theorem dX0_isDataIndex_5 : decode cX0_isDataIndex 5 = .ok (.sipush 256, 3) := by decide +kernel
theorem dX0_isDataIndex_8 : decode cX0_isDataIndex 8 = .ok (.if_icmp .ge 7, 3) := by decide +kernel
theorem dX0_isDataIndex_11 : decode cX0_isDataIndex 11 = .ok (.iconst 1, 1) := by decide +kernel
theorem dX0_isDataIndex_12 : decode cX0_isDataIndex 12 = .ok (.goto 4, 3) := by decide +kernel
theorem dX0_isDataIndex_15 : decode cX0_isDataIndex 15 = .ok (.iconst 0, 1) := by decide +kernel
theorem dX0_isDataIndex_16 : decode cX0_isDataIndex 16 = .ok (.ireturn, 1) := by decide +kernel
theorem dX0_isInText_0 : decode cX0_isInText 0 = .ok (.iload_n 1, 1) := by decide +kernel
theorem dX0_isInText_1 : decode cX0_isInText 1 = .ok (.ifCond .lt 15, 3) := by decide +kernel
theorem dX0_isInText_4 : decode cX0_isInText 4 = .ok (.iload_n 1, 1) := by decide +kernel
theorem dX0_isInText_5 : decode cX0_isInText 5 = .ok (.aload_n 0, 1) := by decide +kernel
theorem dX0_isInText_6 : decode cX0_isInText 6 = .ok (.getfield 43, 3) := by decide +kernel
theorem dX0_isInText_9 : decode cX0_isInText 9 = .ok (.if_icmp .ge 7, 3) := by decide +kernel
theorem dX0_isInText_12 : decode cX0_isInText 12 = .ok (.iconst 1, 1) := by decide +kernel
theorem dX0_isInText_13 : decode cX0_isInText 13 = .ok (.goto 4, 3) := by decide +kernel
theorem dX0_isInText_16 : decode cX0_isInText 16 = .ok (.iconst 0, 1) := by decide +kernel
theorem dX0_isInText_17 : decode cX0_isInText 17 = .ok (.ireturn, 1) := by decide +kernel
theorem dX0_addressOf_0 : decode cX0_addressOf 0 = .ok (.ldc 190, 2) := by decide +kernel
theorem dX0_addressOf_2 : decode cX0_addressOf 2 = .ok (.iconst 4, 1) := by decide +kernel
theorem dX0_addressOf_3 : decode cX0_addressOf 3 = .ok (.iload_n 0, 1) := by decide +kernel
theorem dX0_addressOf_4 : decode cX0_addressOf 4 = .ok (.imul, 1) := by decide +kernel
theorem dX0_addressOf_5 : decode cX0_addressOf 5 = .ok (.iadd, 1) := by decide +kernel
theorem dX0_addressOf_6 : decode cX0_addressOf 6 = .ok (.ireturn, 1) := by decide +kernel
theorem dX0_isTextAddress_0 : decode cX0_isTextAddress 0 = .ok (.iload_n 1, 1) := by decide +kernel
theorem dX0_isTextAddress_1 : decode cX0_isTextAddress 1 = .ok (.ldc 190, 2) := by decide +kernel
theorem dX0_isTextAddress_3 : decode cX0_isTextAddress 3 = .ok (.isub, 1) := by decide +kernel
theorem dX0_isTextAddress_4 : decode cX0_isTextAddress 4 = .ok (.istore_n 2, 1) := by decide +kernel
theorem dX0_isTextAddress_5 : decode cX0_isTextAddress 5 = .ok (.iload_n 2, 1) := by decide +kernel
theorem dX0_isTextAddress_6 : decode cX0_isTextAddress 6 = .ok (.ifCond .lt 17, 3) := by decide +kernel
theorem dX0_isTextAddress_9 : decode cX0_isTextAddress 9 = .ok (.iload_n 2, 1) := by decide +kernel
theorem dX0_isTextAddress_10 : decode cX0_isTextAddress 10 = .ok (.iconst 4, 1) := by decide +kernel
theorem dX0_isTextAddress_11 : decode cX0_isTextAddress 11 = .ok (.aload_n 0, 1) := by decide +kernel
theorem dX0_isTextAddress_12 : decode cX0_isTextAddress 12 = .ok (.getfield 43, 3) := by decide +kernel
theorem dX0_isTextAddress_15 : decode cX0_isTextAddress 15 = .ok (.imul, 1) := by decide +kernel
theorem dX0_isTextAddress_16 : decode cX0_isTextAddress 16 = .ok (.if_icmp .ge 7, 3) := by decide +kernel
theorem dX0_isTextAddress_19 : decode cX0_isTextAddress 19 = .ok (.iconst 1, 1) := by decide +kernel
theorem dX0_isTextAddress_20 : decode cX0_isTextAddress 20 = .ok (.goto 4, 3) := by decide +kernel
theorem dX0_isTextAddress_23 : decode cX0_isTextAddress 23 = .ok (.iconst 0, 1) := by decide +kernel
theorem dX0_isTextAddress_24 : decode cX0_isTextAddress 24 = .ok (.ireturn, 1) := by decide +kernel
theorem dX0_wordAt_0 : decode cX0_wordAt 0 = .ok (.iload_n 1, 1) := by decide +kernel
theorem dX0_wordAt_1 : decode cX0_wordAt 1 = .ok (.iconst 3, 1) := by decide +kernel
theorem dX0_wordAt_2 : decode cX0_wordAt 2 = .ok (.iand, 1) := by decide +kernel
theorem dX0_wordAt_3 : decode cX0_wordAt 3 = .ok (.ifCond .ne 11, 3) := by decide +kernel
theorem dX0_wordAt_6 : decode cX0_wordAt 6 = .ok (.aload_n 0, 1) := by decide +kernel
theorem dX0_wordAt_7 : decode cX0_wordAt 7 = .ok (.iload_n 1, 1) := by decide +kernel
theorem dX0_wordAt_8 : decode cX0_wordAt 8 = .ok (.invokevirtual 177, 3) := by decide +kernel
theorem dX0_wordAt_11 : decode cX0_wordAt 11 = .ok (.ifCond .ne 5, 3) := by decide +kernel
theorem dX0_wordAt_14 : decode cX0_wordAt 14 = .ok (.iconst (-1), 1) := by decide +kernel
theorem dX0_wordAt_15 : decode cX0_wordAt 15 = .ok (.ireturn, 1) := by decide +kernel
theorem dX0_wordAt_16 : decode cX0_wordAt 16 = .ok (.iload_n 1, 1) := by decide +kernel
theorem dX0_wordAt_17 : decode cX0_wordAt 17 = .ok (.ldc 190, 2) := by decide +kernel
theorem dX0_wordAt_19 : decode cX0_wordAt 19 = .ok (.isub, 1) := by decide +kernel
theorem dX0_wordAt_20 : decode cX0_wordAt 20 = .ok (.iconst 2, 1) := by decide +kernel
theorem dX0_wordAt_21 : decode cX0_wordAt 21 = .ok (.ishr, 1) := by decide +kernel
theorem dX0_wordAt_22 : decode cX0_wordAt 22 = .ok (.ireturn, 1) := by decide +kernel
