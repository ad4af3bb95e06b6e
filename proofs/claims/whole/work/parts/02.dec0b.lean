theorem dX0_isTurn_0 : decode cX0_isTurn 0 = .ok (.iload_n 0, 1) := by decide +kernel
theorem dX0_isTurn_1 : decode cX0_isTurn 1 = .ok (.invokestatic 78, 3) := by decide +kernel
theorem dX0_isTurn_4 : decode cX0_isTurn 4 = .ok (.istore_n 1, 1) := by decide +kernel
theorem dX0_isTurn_5 : decode cX0_isTurn 5 = .ok (.iload_n 1, 1) := by decide +kernel
theorem dX0_isTurn_6 : decode cX0_isTurn 6 = .ok (.ifCond .ne 27, 3) := by decide +kernel
theorem dX0_isTurn_9 : decode cX0_isTurn 9 = .ok (.iload_n 0, 1) := by decide +kernel
theorem dX0_isTurn_10 : decode cX0_isTurn 10 = .ok (.invokestatic 81, 3) := by decide +kernel
theorem dX0_isTurn_13 : decode cX0_isTurn 13 = .ok (.bipush 8, 2) := by decide +kernel
theorem dX0_isTurn_15 : decode cX0_isTurn 15 = .ok (.if_icmp .eq 12, 3) := by decide +kernel
theorem dX0_isTurn_18 : decode cX0_isTurn 18 = .ok (.iload_n 0, 1) := by decide +kernel
theorem dX0_isTurn_19 : decode cX0_isTurn 19 = .ok (.invokestatic 81, 3) := by decide +kernel
theorem dX0_isTurn_22 : decode cX0_isTurn 22 = .ok (.bipush 9, 2) := by decide +kernel
theorem dX0_isTurn_24 : decode cX0_isTurn 24 = .ok (.if_icmp .ne 7, 3) := by decide +kernel
theorem dX0_isTurn_27 : decode cX0_isTurn 27 = .ok (.iconst 1, 1) := by decide +kernel
theorem dX0_isTurn_28 : decode cX0_isTurn 28 = .ok (.goto 4, 3) := by decide +kernel
theorem dX0_isTurn_31 : decode cX0_isTurn 31 = .ok (.iconst 0, 1) := by decide +kernel
theorem dX0_isTurn_32 : decode cX0_isTurn 32 = .ok (.ireturn, 1) := by decide +kernel
theorem dX0_isTurn_33 : decode cX0_isTurn 33 = .ok (.iload_n 1, 1) := by decide +kernel
theorem dX0_isTurn_34 : decode cX0_isTurn 34 = .ok (.iconst 1, 1) := by decide +kernel
theorem dX0_isTurn_35 : decode cX0_isTurn 35 = .ok (.if_icmp .ne 35, 3) := by decide +kernel
theorem dX0_isTurn_38 : decode cX0_isTurn 38 = .ok (.iload_n 0, 1) := by decide +kernel
theorem dX0_isTurn_39 : decode cX0_isTurn 39 = .ok (.invokestatic 84, 3) := by decide +kernel
theorem dX0_isTurn_42 : decode cX0_isTurn 42 = .ok (.istore_n 2, 1) := by decide +kernel
theorem dX0_isTurn_43 : decode cX0_isTurn 43 = .ok (.iload_n 2, 1) := by decide +kernel
theorem dX0_isTurn_44 : decode cX0_isTurn 44 = .ok (.ifCond .eq 20, 3) := by decide +kernel
theorem dX0_isTurn_47 : decode cX0_isTurn 47 = .ok (.iload_n 2, 1) := by decide +kernel
theorem dX0_isTurn_48 : decode cX0_isTurn 48 = .ok (.iconst 1, 1) := by decide +kernel
theorem dX0_isTurn_49 : decode cX0_isTurn 49 = .ok (.if_icmp .eq 15, 3) := by decide +kernel
theorem dX0_isTurn_52 : decode cX0_isTurn 52 = .ok (.iload_n 2, 1) := by decide +kernel
theorem dX0_isTurn_53 : decode cX0_isTurn 53 = .ok (.bipush 16, 2) := by decide +kernel
theorem dX0_isTurn_55 : decode cX0_isTurn 55 = .ok (.if_icmp .eq 9, 3) := by decide +kernel
theorem dX0_isTurn_58 : decode cX0_isTurn 58 = .ok (.iload_n 2, 1) := by decide +kernel
theorem dX0_isTurn_59 : decode cX0_isTurn 59 = .ok (.bipush 17, 2) := by decide +kernel
theorem dX0_isTurn_61 : decode cX0_isTurn 61 = .ok (.if_icmp .ne 7, 3) := by decide +kernel
theorem dX0_isTurn_64 : decode cX0_isTurn 64 = .ok (.iconst 1, 1) := by decide +kernel
theorem dX0_isTurn_65 : decode cX0_isTurn 65 = .ok (.goto 4, 3) := by decide +kernel
theorem dX0_isTurn_68 : decode cX0_isTurn 68 = .ok (.iconst 0, 1) := by decide +kernel
theorem dX0_isTurn_69 : decode cX0_isTurn 69 = .ok (.ireturn, 1) := by decide +kernel
theorem dX0_isTurn_70 : decode cX0_isTurn 70 = .ok (.iload_n 1, 1) := by decide +kernel
theorem dX0_isTurn_71 : decode cX0_isTurn 71 = .ok (.iconst 2, 1) := by decide +kernel
theorem dX0_isTurn_72 : decode cX0_isTurn 72 = .ok (.if_icmp .lt 13, 3) := by decide +kernel
theorem dX0_isTurn_75 : decode cX0_isTurn 75 = .ok (.iload_n 1, 1) := by decide +kernel
theorem dX0_isTurn_76 : decode cX0_isTurn 76 = .ok (.bipush 7, 2) := by decide +kernel
theorem dX0_isTurn_78 : decode cX0_isTurn 78 = .ok (.if_icmp .gt 7, 3) := by decide +kernel
theorem dX0_isTurn_81 : decode cX0_isTurn 81 = .ok (.iconst 1, 1) := by decide +kernel
theorem dX0_isTurn_82 : decode cX0_isTurn 82 = .ok (.goto 4, 3) := by decide +kernel
theorem dX0_isTurn_85 : decode cX0_isTurn 85 = .ok (.iconst 0, 1) := by decide +kernel
theorem dX0_isTurn_86 : decode cX0_isTurn 86 = .ok (.ireturn, 1) := by decide +kernel
theorem dX0_isBarredFromSlots_0 : decode cX0_isBarredFromSlots 0 = .ok (.iload_n 0, 1) := by decide +kernel
theorem dX0_isBarredFromSlots_1 : decode cX0_isBarredFromSlots 1 = .ok (.invokestatic 78, 3) := by decide +kernel
theorem dX0_isBarredFromSlots_4 : decode cX0_isBarredFromSlots 4 = .ok (.ifCond .ne 25, 3) := by decide +kernel
theorem dX0_isBarredFromSlots_7 : decode cX0_isBarredFromSlots 7 = .ok (.iload_n 0, 1) := by decide +kernel
theorem dX0_isBarredFromSlots_8 : decode cX0_isBarredFromSlots 8 = .ok (.invokestatic 81, 3) := by decide +kernel
theorem dX0_isBarredFromSlots_11 : decode cX0_isBarredFromSlots 11 = .ok (.bipush 12, 2) := by decide +kernel
theorem dX0_isBarredFromSlots_13 : decode cX0_isBarredFromSlots 13 = .ok (.if_icmp .eq 12, 3) := by decide +kernel
theorem dX0_isBarredFromSlots_16 : decode cX0_isBarredFromSlots 16 = .ok (.iload_n 0, 1) := by decide +kernel
theorem dX0_isBarredFromSlots_17 : decode cX0_isBarredFromSlots 17 = .ok (.invokestatic 81, 3) := by decide +kernel
theorem dX0_isBarredFromSlots_20 : decode cX0_isBarredFromSlots 20 = .ok (.bipush 13, 2) := by decide +kernel
theorem dX0_isBarredFromSlots_22 : decode cX0_isBarredFromSlots 22 = .ok (.if_icmp .ne 7, 3) := by decide +kernel
theorem dX0_isBarredFromSlots_25 : decode cX0_isBarredFromSlots 25 = .ok (.iconst 1, 1) := by decide +kernel
theorem dX0_isBarredFromSlots_26 : decode cX0_isBarredFromSlots 26 = .ok (.goto 4, 3) := by decide +kernel
theorem dX0_isBarredFromSlots_29 : decode cX0_isBarredFromSlots 29 = .ok (.iconst 0, 1) := by decide +kernel
theorem dX0_isBarredFromSlots_30 : decode cX0_isBarredFromSlots 30 = .ok (.istore_n 1, 1) := by decide +kernel
theorem dX0_isBarredFromSlots_31 : decode cX0_isBarredFromSlots 31 = .ok (.iload_n 1, 1) := by decide +kernel
theorem dX0_isBarredFromSlots_32 : decode cX0_isBarredFromSlots 32 = .ok (.ifCond .ne 10, 3) := by decide +kernel
theorem dX0_isBarredFromSlots_35 : decode cX0_isBarredFromSlots 35 = .ok (.iload_n 0, 1) := by decide +kernel
theorem dX0_isBarredFromSlots_36 : decode cX0_isBarredFromSlots 36 = .ok (.invokestatic 67, 3) := by decide +kernel
theorem dX0_isBarredFromSlots_39 : decode cX0_isBarredFromSlots 39 = .ok (.ifCond .eq 7, 3) := by decide +kernel
theorem dX0_isBarredFromSlots_42 : decode cX0_isBarredFromSlots 42 = .ok (.iconst 1, 1) := by decide +kernel
theorem dX0_isBarredFromSlots_43 : decode cX0_isBarredFromSlots 43 = .ok (.goto 4, 3) := by decide +kernel
theorem dX0_isBarredFromSlots_46 : decode cX0_isBarredFromSlots 46 = .ok (.iconst 0, 1) := by decide +kernel
theorem dX0_isBarredFromSlots_47 : decode cX0_isBarredFromSlots 47 = .ok (.ireturn, 1) := by decide +kernel
theorem dX0_stepOfOne_0 : decode cX0_stepOfOne 0 = .ok (.aload_n 0, 1) := by decide +kernel
theorem dX0_stepOfOne_1 : decode cX0_stepOfOne 1 = .ok (.iload_n 1, 1) := by decide +kernel
theorem dX0_stepOfOne_2 : decode cX0_stepOfOne 2 = .ok (.invokevirtual 87, 3) := by decide +kernel
theorem dX0_stepOfOne_5 : decode cX0_stepOfOne 5 = .ok (.istore_n 2, 1) := by decide +kernel
theorem dX0_stepOfOne_6 : decode cX0_stepOfOne 6 = .ok (.iload_n 2, 1) := by decide +kernel
theorem dX0_stepOfOne_7 : decode cX0_stepOfOne 7 = .ok (.ifCond .ne 20, 3) := by decide +kernel
theorem dX0_stepOfOne_10 : decode cX0_stepOfOne 10 = .ok (.aload_n 0, 1) := by decide +kernel
theorem dX0_stepOfOne_11 : decode cX0_stepOfOne 11 = .ok (.getfield 58, 3) := by decide +kernel
theorem dX0_stepOfOne_14 : decode cX0_stepOfOne 14 = .ok (.ifCond .ne 13, 3) := by decide +kernel
theorem dX0_stepOfOne_17 : decode cX0_stepOfOne 17 = .ok (.aload_n 0, 1) := by decide +kernel
theorem dX0_stepOfOne_18 : decode cX0_stepOfOne 18 = .ok (.dup, 1) := by decide +kernel
theorem dX0_stepOfOne_19 : decode cX0_stepOfOne 19 = .ok (.getfield 52, 3) := by decide +kernel
theorem dX0_stepOfOne_22 : decode cX0_stepOfOne 22 = .ok (.iconst 1, 1) := by decide +kernel
theorem dX0_stepOfOne_23 : decode cX0_stepOfOne 23 = .ok (.iadd, 1) := by decide +kernel
theorem dX0_stepOfOne_24 : decode cX0_stepOfOne 24 = .ok (.putfield 52, 3) := by decide +kernel
theorem dX0_stepOfOne_27 : decode cX0_stepOfOne 27 = .ok (.iload_n 2, 1) := by decide +kernel
theorem dX0_stepOfOne_28 : decode cX0_stepOfOne 28 = .ok (.ireturn, 1) := by decide +kernel
theorem dX0_stepOfTwo_0 : decode cX0_stepOfTwo 0 = .ok (.aload_n 0, 1) := by decide +kernel
theorem dX0_stepOfTwo_1 : decode cX0_stepOfTwo 1 = .ok (.getfield 52, 3) := by decide +kernel
theorem dX0_stepOfTwo_4 : decode cX0_stepOfTwo 4 = .ok (.iconst 1, 1) := by decide +kernel
theorem dX0_stepOfTwo_5 : decode cX0_stepOfTwo 5 = .ok (.iadd, 1) := by decide +kernel
theorem dX0_stepOfTwo_6 : decode cX0_stepOfTwo 6 = .ok (.istore_n 2, 1) := by decide +kernel
theorem dX0_stepOfTwo_7 : decode cX0_stepOfTwo 7 = .ok (.aload_n 0, 1) := by decide +kernel
theorem dX0_stepOfTwo_8 : decode cX0_stepOfTwo 8 = .ok (.iload_n 2, 1) := by decide +kernel
theorem dX0_stepOfTwo_9 : decode cX0_stepOfTwo 9 = .ok (.invokevirtual 64, 3) := by decide +kernel
theorem dX0_stepOfTwo_12 : decode cX0_stepOfTwo 12 = .ok (.ifCond .ne 6, 3) := by decide +kernel
theorem dX0_stepOfTwo_15 : decode cX0_stepOfTwo 15 = .ok (.bipush 7, 2) := by decide +kernel
theorem dX0_stepOfTwo_17 : decode cX0_stepOfTwo 17 = .ok (.ireturn, 1) := by decide +kernel
theorem dX0_stepOfTwo_18 : decode cX0_stepOfTwo 18 = .ok (.aload_n 0, 1) := by decide +kernel
theorem dX0_stepOfTwo_19 : decode cX0_stepOfTwo 19 = .ok (.getfield 13, 3) := by decide +kernel
theorem dX0_stepOfTwo_22 : decode cX0_stepOfTwo 22 = .ok (.iload_n 2, 1) := by decide +kernel
theorem dX0_stepOfTwo_23 : decode cX0_stepOfTwo 23 = .ok (.iaload, 1) := by decide +kernel
theorem dX0_stepOfTwo_24 : decode cX0_stepOfTwo 24 = .ok (.istore_n 3, 1) := by decide +kernel
theorem dX0_stepOfTwo_25 : decode cX0_stepOfTwo 25 = .ok (.iload_n 3, 1) := by decide +kernel
theorem dX0_stepOfTwo_26 : decode cX0_stepOfTwo 26 = .ok (.invokestatic 90, 3) := by decide +kernel
theorem dX0_stepOfTwo_29 : decode cX0_stepOfTwo 29 = .ok (.ifCond .eq 6, 3) := by decide +kernel
theorem dX0_stepOfTwo_32 : decode cX0_stepOfTwo 32 = .ok (.bipush 8, 2) := by decide +kernel
theorem dX0_stepOfTwo_34 : decode cX0_stepOfTwo 34 = .ok (.ireturn, 1) := by decide +kernel
theorem dX0_stepOfTwo_35 : decode cX0_stepOfTwo 35 = .ok (.aload_n 0, 1) := by decide +kernel
theorem dX0_stepOfTwo_36 : decode cX0_stepOfTwo 36 = .ok (.iload_n 1, 1) := by decide +kernel
theorem dX0_stepOfTwo_37 : decode cX0_stepOfTwo 37 = .ok (.invokevirtual 93, 3) := by decide +kernel
theorem dX0_stepOfTwo_40 : decode cX0_stepOfTwo 40 = .ok (.istore 4, 2) := by decide +kernel
theorem dX0_stepOfTwo_42 : decode cX0_stepOfTwo 42 = .ok (.iload 4, 2) := by decide +kernel
theorem dX0_stepOfTwo_44 : decode cX0_stepOfTwo 44 = .ok (.ifCond .eq 11, 3) := by decide +kernel
theorem dX0_stepOfTwo_47 : decode cX0_stepOfTwo 47 = .ok (.aload_n 0, 1) := by decide +kernel
theorem dX0_stepOfTwo_48 : decode cX0_stepOfTwo 48 = .ok (.iload_n 1, 1) := by decide +kernel
theorem dX0_stepOfTwo_49 : decode cX0_stepOfTwo 49 = .ok (.invokevirtual 96, 3) := by decide +kernel
theorem dX0_stepOfTwo_52 : decode cX0_stepOfTwo 52 = .ok (.goto 6, 3) := by decide +kernel
theorem dX0_stepOfTwo_55 : decode cX0_stepOfTwo 55 = .ok (.iload_n 2, 1) := by decide +kernel
theorem dX0_stepOfTwo_56 : decode cX0_stepOfTwo 56 = .ok (.iconst 1, 1) := by decide +kernel
theorem dX0_stepOfTwo_57 : decode cX0_stepOfTwo 57 = .ok (.iadd, 1) := by decide +kernel
theorem dX0_stepOfTwo_58 : decode cX0_stepOfTwo 58 = .ok (.istore 5, 2) := by decide +kernel
theorem dX0_stepOfTwo_60 : decode cX0_stepOfTwo 60 = .ok (.iload 4, 2) := by decide +kernel
theorem dX0_stepOfTwo_62 : decode cX0_stepOfTwo 62 = .ok (.ifCond .eq 15, 3) := by decide +kernel
theorem dX0_stepOfTwo_65 : decode cX0_stepOfTwo 65 = .ok (.aload_n 0, 1) := by decide +kernel
theorem dX0_stepOfTwo_66 : decode cX0_stepOfTwo 66 = .ok (.iload 5, 2) := by decide +kernel
theorem dX0_stepOfTwo_68 : decode cX0_stepOfTwo 68 = .ok (.invokevirtual 64, 3) := by decide +kernel
theorem dX0_stepOfTwo_71 : decode cX0_stepOfTwo 71 = .ok (.ifCond .ne 6, 3) := by decide +kernel
theorem dX0_stepOfTwo_74 : decode cX0_stepOfTwo 74 = .ok (.bipush 7, 2) := by decide +kernel
theorem dX0_stepOfTwo_76 : decode cX0_stepOfTwo 76 = .ok (.ireturn, 1) := by decide +kernel
theorem dX0_stepOfTwo_77 : decode cX0_stepOfTwo 77 = .ok (.iload_n 1, 1) := by decide +kernel
theorem dX0_stepOfTwo_78 : decode cX0_stepOfTwo 78 = .ok (.invokestatic 99, 3) := by decide +kernel
theorem dX0_stepOfTwo_81 : decode cX0_stepOfTwo 81 = .ok (.istore 6, 2) := by decide +kernel
theorem dX0_stepOfTwo_83 : decode cX0_stepOfTwo 83 = .ok (.aload_n 0, 1) := by decide +kernel
theorem dX0_stepOfTwo_84 : decode cX0_stepOfTwo 84 = .ok (.getfield 16, 3) := by decide +kernel
theorem dX0_stepOfTwo_87 : decode cX0_stepOfTwo 87 = .ok (.iload 6, 2) := by decide +kernel
theorem dX0_stepOfTwo_89 : decode cX0_stepOfTwo 89 = .ok (.iaload, 1) := by decide +kernel
theorem dX0_stepOfTwo_90 : decode cX0_stepOfTwo 90 = .ok (.istore 7, 2) := by decide +kernel
theorem dX0_stepOfTwo_92 : decode cX0_stepOfTwo 92 = .ok (.aload_n 0, 1) := by decide +kernel
theorem dX0_stepOfTwo_93 : decode cX0_stepOfTwo 93 = .ok (.iload 6, 2) := by decide +kernel
theorem dX0_stepOfTwo_95 : decode cX0_stepOfTwo 95 = .ok (.aload_n 0, 1) := by decide +kernel
theorem dX0_stepOfTwo_96 : decode cX0_stepOfTwo 96 = .ok (.getfield 52, 3) := by decide +kernel
theorem dX0_stepOfTwo_99 : decode cX0_stepOfTwo 99 = .ok (.iconst 2, 1) := by decide +kernel
theorem dX0_stepOfTwo_100 : decode cX0_stepOfTwo 100 = .ok (.iadd, 1) := by decide +kernel
theorem dX0_stepOfTwo_101 : decode cX0_stepOfTwo 101 = .ok (.invokestatic 102, 3) := by decide +kernel
theorem dX0_stepOfTwo_104 : decode cX0_stepOfTwo 104 = .ok (.invokevirtual 105, 3) := by decide +kernel
theorem dX0_stepOfTwo_107 : decode cX0_stepOfTwo 107 = .ok (.pop, 1) := by decide +kernel
theorem dX0_stepOfTwo_108 : decode cX0_stepOfTwo 108 = .ok (.aload_n 0, 1) := by decide +kernel
theorem dX0_stepOfTwo_109 : decode cX0_stepOfTwo 109 = .ok (.iload_n 3, 1) := by decide +kernel
theorem dX0_stepOfTwo_110 : decode cX0_stepOfTwo 110 = .ok (.invokevirtual 87, 3) := by decide +kernel
theorem dX0_stepOfTwo_113 : decode cX0_stepOfTwo 113 = .ok (.istore 8, 2) := by decide +kernel
theorem dX0_stepOfTwo_115 : decode cX0_stepOfTwo 115 = .ok (.iload 8, 2) := by decide +kernel
theorem dX0_stepOfTwo_117 : decode cX0_stepOfTwo 117 = .ok (.ifCond .eq 15, 3) := by decide +kernel
theorem dX0_stepOfTwo_120 : decode cX0_stepOfTwo 120 = .ok (.aload_n 0, 1) := by decide +kernel
theorem dX0_stepOfTwo_121 : decode cX0_stepOfTwo 121 = .ok (.getfield 16, 3) := by decide +kernel
theorem dX0_stepOfTwo_124 : decode cX0_stepOfTwo 124 = .ok (.iload 6, 2) := by decide +kernel
theorem dX0_stepOfTwo_126 : decode cX0_stepOfTwo 126 = .ok (.iload 7, 2) := by decide +kernel
theorem dX0_stepOfTwo_128 : decode cX0_stepOfTwo 128 = .ok (.iastore, 1) := by decide +kernel
theorem dX0_stepOfTwo_129 : decode cX0_stepOfTwo 129 = .ok (.iload 8, 2) := by decide +kernel
theorem dX0_stepOfTwo_131 : decode cX0_stepOfTwo 131 = .ok (.ireturn, 1) := by decide +kernel
theorem dX0_stepOfTwo_132 : decode cX0_stepOfTwo 132 = .ok (.aload_n 0, 1) := by decide +kernel
theorem dX0_stepOfTwo_133 : decode cX0_stepOfTwo 133 = .ok (.iload 5, 2) := by decide +kernel
theorem dX0_stepOfTwo_135 : decode cX0_stepOfTwo 135 = .ok (.putfield 52, 3) := by decide +kernel
theorem dX0_stepOfTwo_138 : decode cX0_stepOfTwo 138 = .ok (.iconst 0, 1) := by decide +kernel
theorem dX0_stepOfTwo_139 : decode cX0_stepOfTwo 139 = .ok (.ireturn, 1) := by decide +kernel
theorem dX0_turnGoes_0 : decode cX0_turnGoes 0 = .ok (.aload_n 0, 1) := by decide +kernel
theorem dX0_turnGoes_1 : decode cX0_turnGoes 1 = .ok (.getfield 16, 3) := by decide +kernel
theorem dX0_turnGoes_4 : decode cX0_turnGoes 4 = .ok (.iload_n 1, 1) := by decide +kernel
theorem dX0_turnGoes_5 : decode cX0_turnGoes 5 = .ok (.invokestatic 109, 3) := by decide +kernel
theorem dX0_turnGoes_8 : decode cX0_turnGoes 8 = .ok (.iaload, 1) := by decide +kernel
theorem dX0_turnGoes_9 : decode cX0_turnGoes 9 = .ok (.istore_n 2, 1) := by decide +kernel
theorem dX0_turnGoes_10 : decode cX0_turnGoes 10 = .ok (.aload_n 0, 1) := by decide +kernel
theorem dX0_turnGoes_11 : decode cX0_turnGoes 11 = .ok (.getfield 16, 3) := by decide +kernel
theorem dX0_turnGoes_14 : decode cX0_turnGoes 14 = .ok (.iload_n 1, 1) := by decide +kernel
theorem dX0_turnGoes_15 : decode cX0_turnGoes 15 = .ok (.invokestatic 84, 3) := by decide +kernel
theorem dX0_turnGoes_18 : decode cX0_turnGoes 18 = .ok (.iaload, 1) := by decide +kernel
theorem dX0_turnGoes_19 : decode cX0_turnGoes 19 = .ok (.istore_n 3, 1) := by decide +kernel
theorem dX0_turnGoes_20 : decode cX0_turnGoes 20 = .ok (.iload_n 1, 1) := by decide +kernel
theorem dX0_turnGoes_21 : decode cX0_turnGoes 21 = .ok (.invokestatic 78, 3) := by decide +kernel
theorem dX0_turnGoes_24 : decode cX0_turnGoes 24 = .ok (.tableswitch 117 1 7 #[44, 117, 117, 75, 86, 97, 107], 44) := by decide +kernel
theorem dX0_turnGoes_68 : decode cX0_turnGoes 68 = .ok (.iload_n 1, 1) := by decide +kernel
theorem dX0_turnGoes_69 : decode cX0_turnGoes 69 = .ok (.invokestatic 84, 3) := by decide +kernel
theorem dX0_turnGoes_72 : decode cX0_turnGoes 72 = .ok (.iconst 1, 1) := by decide +kernel
theorem dX0_turnGoes_73 : decode cX0_turnGoes 73 = .ok (.iand, 1) := by decide +kernel
theorem dX0_turnGoes_74 : decode cX0_turnGoes 74 = .ok (.ifCond .ne 15, 3) := by decide +kernel
theorem dX0_turnGoes_77 : decode cX0_turnGoes 77 = .ok (.iload_n 2, 1) := by decide +kernel
theorem dX0_turnGoes_78 : decode cX0_turnGoes 78 = .ok (.ifCond .ge 7, 3) := by decide +kernel
theorem dX0_turnGoes_81 : decode cX0_turnGoes 81 = .ok (.iconst 1, 1) := by decide +kernel
theorem dX0_turnGoes_82 : decode cX0_turnGoes 82 = .ok (.goto 16, 3) := by decide +kernel
theorem dX0_turnGoes_85 : decode cX0_turnGoes 85 = .ok (.iconst 0, 1) := by decide +kernel
theorem dX0_turnGoes_86 : decode cX0_turnGoes 86 = .ok (.goto 12, 3) := by decide +kernel
theorem dX0_turnGoes_89 : decode cX0_turnGoes 89 = .ok (.iload_n 2, 1) := by decide +kernel
theorem dX0_turnGoes_90 : decode cX0_turnGoes 90 = .ok (.ifCond .lt 7, 3) := by decide +kernel
theorem dX0_turnGoes_93 : decode cX0_turnGoes 93 = .ok (.iconst 1, 1) := by decide +kernel
theorem dX0_turnGoes_94 : decode cX0_turnGoes 94 = .ok (.goto 4, 3) := by decide +kernel
theorem dX0_turnGoes_97 : decode cX0_turnGoes 97 = .ok (.iconst 0, 1) := by decide +kernel
theorem dX0_turnGoes_98 : decode cX0_turnGoes 98 = .ok (.ireturn, 1) := by decide +kernel
theorem dX0_turnGoes_99 : decode cX0_turnGoes 99 = .ok (.iload_n 2, 1) := by decide +kernel
theorem dX0_turnGoes_100 : decode cX0_turnGoes 100 = .ok (.iload_n 3, 1) := by decide +kernel
theorem dX0_turnGoes_101 : decode cX0_turnGoes 101 = .ok (.if_icmp .ne 7, 3) := by decide +kernel
theorem dX0_turnGoes_104 : decode cX0_turnGoes 104 = .ok (.iconst 1, 1) := by decide +kernel
theorem dX0_turnGoes_105 : decode cX0_turnGoes 105 = .ok (.goto 4, 3) := by decide +kernel
theorem dX0_turnGoes_108 : decode cX0_turnGoes 108 = .ok (.iconst 0, 1) := by decide +kernel
theorem dX0_turnGoes_109 : decode cX0_turnGoes 109 = .ok (.ireturn, 1) := by decide +kernel
theorem dX0_turnGoes_110 : decode cX0_turnGoes 110 = .ok (.iload_n 2, 1) := by decide +kernel
theorem dX0_turnGoes_111 : decode cX0_turnGoes 111 = .ok (.iload_n 3, 1) := by decide +kernel
theorem dX0_turnGoes_112 : decode cX0_turnGoes 112 = .ok (.if_icmp .eq 7, 3) := by decide +kernel
theorem dX0_turnGoes_115 : decode cX0_turnGoes 115 = .ok (.iconst 1, 1) := by decide +kernel
theorem dX0_turnGoes_116 : decode cX0_turnGoes 116 = .ok (.goto 4, 3) := by decide +kernel
theorem dX0_turnGoes_119 : decode cX0_turnGoes 119 = .ok (.iconst 0, 1) := by decide +kernel
theorem dX0_turnGoes_120 : decode cX0_turnGoes 120 = .ok (.ireturn, 1) := by decide +kernel
theorem dX0_turnGoes_121 : decode cX0_turnGoes 121 = .ok (.iload_n 2, 1) := by decide +kernel
theorem dX0_turnGoes_122 : decode cX0_turnGoes 122 = .ok (.ifCond .gt 7, 3) := by decide +kernel
theorem dX0_turnGoes_125 : decode cX0_turnGoes 125 = .ok (.iconst 1, 1) := by decide +kernel
theorem dX0_turnGoes_126 : decode cX0_turnGoes 126 = .ok (.goto 4, 3) := by decide +kernel
theorem dX0_turnGoes_129 : decode cX0_turnGoes 129 = .ok (.iconst 0, 1) := by decide +kernel
theorem dX0_turnGoes_130 : decode cX0_turnGoes 130 = .ok (.ireturn, 1) := by decide +kernel
theorem dX0_turnGoes_131 : decode cX0_turnGoes 131 = .ok (.iload_n 2, 1) := by decide +kernel
theorem dX0_turnGoes_132 : decode cX0_turnGoes 132 = .ok (.ifCond .le 7, 3) := by decide +kernel
theorem dX0_turnGoes_135 : decode cX0_turnGoes 135 = .ok (.iconst 1, 1) := by decide +kernel
theorem dX0_turnGoes_136 : decode cX0_turnGoes 136 = .ok (.goto 4, 3) := by decide +kernel
theorem dX0_turnGoes_139 : decode cX0_turnGoes 139 = .ok (.iconst 0, 1) := by decide +kernel
theorem dX0_turnGoes_140 : decode cX0_turnGoes 140 = .ok (.ireturn, 1) := by decide +kernel
theorem dX0_turnGoes_141 : decode cX0_turnGoes 141 = .ok (.iconst 1, 1) := by decide +kernel
theorem dX0_turnGoes_142 : decode cX0_turnGoes 142 = .ok (.ireturn, 1) := by decide +kernel
theorem dX0_aimOf_0 : decode cX0_aimOf 0 = .ok (.aload_n 0, 1) := by decide +kernel
theorem dX0_aimOf_1 : decode cX0_aimOf 1 = .ok (.getfield 52, 3) := by decide +kernel
theorem dX0_aimOf_4 : decode cX0_aimOf 4 = .ok (.iconst 1, 1) := by decide +kernel
theorem dX0_aimOf_5 : decode cX0_aimOf 5 = .ok (.iadd, 1) := by decide +kernel
theorem dX0_aimOf_6 : decode cX0_aimOf 6 = .ok (.istore_n 2, 1) := by decide +kernel
theorem dX0_aimOf_7 : decode cX0_aimOf 7 = .ok (.iload_n 1, 1) := by decide +kernel
theorem dX0_aimOf_8 : decode cX0_aimOf 8 = .ok (.invokestatic 78, 3) := by decide +kernel
theorem dX0_aimOf_11 : decode cX0_aimOf 11 = .ok (.tableswitch 62 0 3 #[29, 62, 43, 43], 29) := by decide +kernel
theorem dX0_aimOf_40 : decode cX0_aimOf 40 = .ok (.aload_n 0, 1) := by decide +kernel
theorem dX0_aimOf_41 : decode cX0_aimOf 41 = .ok (.aload_n 0, 1) := by decide +kernel
theorem dX0_aimOf_42 : decode cX0_aimOf 42 = .ok (.getfield 16, 3) := by decide +kernel
theorem dX0_aimOf_45 : decode cX0_aimOf 45 = .ok (.iload_n 1, 1) := by decide +kernel
theorem dX0_aimOf_46 : decode cX0_aimOf 46 = .ok (.invokestatic 109, 3) := by decide +kernel
theorem dX0_aimOf_49 : decode cX0_aimOf 49 = .ok (.iaload, 1) := by decide +kernel
theorem dX0_aimOf_50 : decode cX0_aimOf 50 = .ok (.invokevirtual 112, 3) := by decide +kernel
theorem dX0_aimOf_53 : decode cX0_aimOf 53 = .ok (.ireturn, 1) := by decide +kernel
theorem dX0_aimOf_54 : decode cX0_aimOf 54 = .ok (.aload_n 0, 1) := by decide +kernel
theorem dX0_aimOf_55 : decode cX0_aimOf 55 = .ok (.iload_n 2, 1) := by decide +kernel
theorem dX0_aimOf_56 : decode cX0_aimOf 56 = .ok (.invokestatic 102, 3) := by decide +kernel
theorem dX0_aimOf_59 : decode cX0_aimOf 59 = .ok (.ldc 115, 2) := by decide +kernel
theorem dX0_aimOf_61 : decode cX0_aimOf 61 = .ok (.iand, 1) := by decide +kernel
theorem dX0_aimOf_62 : decode cX0_aimOf 62 = .ok (.iload_n 1, 1) := by decide +kernel
theorem dX0_aimOf_63 : decode cX0_aimOf 63 = .ok (.ldc 116, 2) := by decide +kernel
theorem dX0_aimOf_65 : decode cX0_aimOf 65 = .ok (.iand, 1) := by decide +kernel
theorem dX0_aimOf_66 : decode cX0_aimOf 66 = .ok (.iconst 2, 1) := by decide +kernel
theorem dX0_aimOf_67 : decode cX0_aimOf 67 = .ok (.ishl, 1) := by decide +kernel
theorem dX0_aimOf_68 : decode cX0_aimOf 68 = .ok (.ior, 1) := by decide +kernel
theorem dX0_aimOf_69 : decode cX0_aimOf 69 = .ok (.invokevirtual 112, 3) := by decide +kernel
theorem dX0_aimOf_72 : decode cX0_aimOf 72 = .ok (.ireturn, 1) := by decide +kernel
theorem dX0_aimOf_73 : decode cX0_aimOf 73 = .ok (.iload_n 2, 1) := by decide +kernel
theorem dX0_aimOf_74 : decode cX0_aimOf 74 = .ok (.iload_n 1, 1) := by decide +kernel
theorem dX0_aimOf_75 : decode cX0_aimOf 75 = .ok (.invokestatic 117, 3) := by decide +kernel
theorem dX0_aimOf_78 : decode cX0_aimOf 78 = .ok (.iadd, 1) := by decide +kernel
theorem dX0_aimOf_79 : decode cX0_aimOf 79 = .ok (.ireturn, 1) := by decide +kernel
theorem dX0_linkRegisterOf_0 : decode cX0_linkRegisterOf 0 = .ok (.iload_n 0, 1) := by decide +kernel
theorem dX0_linkRegisterOf_1 : decode cX0_linkRegisterOf 1 = .ok (.invokestatic 78, 3) := by decide +kernel
theorem dX0_linkRegisterOf_4 : decode cX0_linkRegisterOf 4 = .ok (.tableswitch 69 0 3 #[32, 50, 69, 66], 32) := by decide +kernel
theorem dX0_linkRegisterOf_36 : decode cX0_linkRegisterOf 36 = .ok (.iload_n 0, 1) := by decide +kernel
theorem dX0_linkRegisterOf_37 : decode cX0_linkRegisterOf 37 = .ok (.invokestatic 81, 3) := by decide +kernel
theorem dX0_linkRegisterOf_40 : decode cX0_linkRegisterOf 40 = .ok (.bipush 9, 2) := by decide +kernel
theorem dX0_linkRegisterOf_42 : decode cX0_linkRegisterOf 42 = .ok (.if_icmp .ne 10, 3) := by decide +kernel
theorem dX0_linkRegisterOf_45 : decode cX0_linkRegisterOf 45 = .ok (.iload_n 0, 1) := by decide +kernel
theorem dX0_linkRegisterOf_46 : decode cX0_linkRegisterOf 46 = .ok (.invokestatic 120, 3) := by decide +kernel
theorem dX0_linkRegisterOf_49 : decode cX0_linkRegisterOf 49 = .ok (.goto 4, 3) := by decide +kernel
theorem dX0_linkRegisterOf_52 : decode cX0_linkRegisterOf 52 = .ok (.iconst 0, 1) := by decide +kernel
theorem dX0_linkRegisterOf_53 : decode cX0_linkRegisterOf 53 = .ok (.ireturn, 1) := by decide +kernel
theorem dX0_linkRegisterOf_54 : decode cX0_linkRegisterOf 54 = .ok (.iload_n 0, 1) := by decide +kernel
theorem dX0_linkRegisterOf_55 : decode cX0_linkRegisterOf 55 = .ok (.invokestatic 84, 3) := by decide +kernel
theorem dX0_linkRegisterOf_58 : decode cX0_linkRegisterOf 58 = .ok (.bipush 16, 2) := by decide +kernel
theorem dX0_linkRegisterOf_60 : decode cX0_linkRegisterOf 60 = .ok (.if_icmp .lt 8, 3) := by decide +kernel
theorem dX0_linkRegisterOf_63 : decode cX0_linkRegisterOf 63 = .ok (.bipush 31, 2) := by decide +kernel
theorem dX0_linkRegisterOf_65 : decode cX0_linkRegisterOf 65 = .ok (.goto 4, 3) := by decide +kernel
theorem dX0_linkRegisterOf_68 : decode cX0_linkRegisterOf 68 = .ok (.iconst 0, 1) := by decide +kernel
theorem dX0_linkRegisterOf_69 : decode cX0_linkRegisterOf 69 = .ok (.ireturn, 1) := by decide +kernel
theorem dX0_linkRegisterOf_70 : decode cX0_linkRegisterOf 70 = .ok (.bipush 31, 2) := by decide +kernel
theorem dX0_linkRegisterOf_72 : decode cX0_linkRegisterOf 72 = .ok (.ireturn, 1) := by decide +kernel
theorem dX0_linkRegisterOf_73 : decode cX0_linkRegisterOf 73 = .ok (.iconst 0, 1) := by decide +kernel
theorem dX0_linkRegisterOf_74 : decode cX0_linkRegisterOf 74 = .ok (.ireturn, 1) := by decide +kernel
theorem dX0_perform_0 : decode cX0_perform 0 = .ok (.iload_n 1, 1) := by decide +kernel
theorem dX0_perform_1 : decode cX0_perform 1 = .ok (.invokestatic 78, 3) := by decide +kernel
theorem dX0_perform_4 : decode cX0_perform 4 = .ok (.istore_n 2, 1) := by decide +kernel
theorem dX0_perform_5 : decode cX0_perform 5 = .ok (.iload_n 2, 1) := by decide +kernel
theorem dX0_perform_6 : decode cX0_perform 6 = .ok (.ifCond .ne 9, 3) := by decide +kernel
theorem dX0_perform_9 : decode cX0_perform 9 = .ok (.aload_n 0, 1) := by decide +kernel
theorem dX0_perform_10 : decode cX0_perform 10 = .ok (.iload_n 1, 1) := by decide +kernel
theorem dX0_perform_11 : decode cX0_perform 11 = .ok (.invokevirtual 123, 3) := by decide +kernel
theorem dX0_perform_14 : decode cX0_perform 14 = .ok (.ireturn, 1) := by decide +kernel
theorem dX0_perform_15 : decode cX0_perform 15 = .ok (.iload_n 2, 1) := by decide +kernel
theorem dX0_perform_16 : decode cX0_perform 16 = .ok (.bipush 32, 2) := by decide +kernel
theorem dX0_perform_18 : decode cX0_perform 18 = .ok (.if_icmp .ge 11, 3) := by decide +kernel
theorem dX0_perform_21 : decode cX0_perform 21 = .ok (.aload_n 0, 1) := by decide +kernel
theorem dX0_perform_22 : decode cX0_perform 22 = .ok (.iload_n 1, 1) := by decide +kernel
theorem dX0_perform_23 : decode cX0_perform 23 = .ok (.invokevirtual 126, 3) := by decide +kernel
theorem dX0_perform_26 : decode cX0_perform 26 = .ok (.goto 8, 3) := by decide +kernel
theorem dX0_perform_29 : decode cX0_perform 29 = .ok (.aload_n 0, 1) := by decide +kernel
theorem dX0_perform_30 : decode cX0_perform 30 = .ok (.iload_n 1, 1) := by decide +kernel
theorem dX0_perform_31 : decode cX0_perform 31 = .ok (.invokevirtual 129, 3) := by decide +kernel
theorem dX0_perform_34 : decode cX0_perform 34 = .ok (.ireturn, 1) := by decide +kernel
theorem dX0_performFunction_0 : decode cX0_performFunction 0 = .ok (.iload_n 1, 1) := by decide +kernel
theorem dX0_performFunction_1 : decode cX0_performFunction 1 = .ok (.invokestatic 81, 3) := by decide +kernel
theorem dX0_performFunction_4 : decode cX0_performFunction 4 = .ok (.istore_n 2, 1) := by decide +kernel
theorem dX0_performFunction_5 : decode cX0_performFunction 5 = .ok (.iload_n 2, 1) := by decide +kernel
theorem dX0_performFunction_6 : decode cX0_performFunction 6 = .ok (.bipush 8, 2) := by decide +kernel
theorem dX0_performFunction_8 : decode cX0_performFunction 8 = .ok (.if_icmp .ge 9, 3) := by decide +kernel
theorem dX0_performFunction_11 : decode cX0_performFunction 11 = .ok (.aload_n 0, 1) := by decide +kernel
theorem dX0_performFunction_12 : decode cX0_performFunction 12 = .ok (.iload_n 1, 1) := by decide +kernel
theorem dX0_performFunction_13 : decode cX0_performFunction 13 = .ok (.invokevirtual 132, 3) := by decide +kernel
theorem dX0_performFunction_16 : decode cX0_performFunction 16 = .ok (.ireturn, 1) := by decide +kernel
theorem dX0_performFunction_17 : decode cX0_performFunction 17 = .ok (.iload_n 2, 1) := by decide +kernel
theorem dX0_performFunction_18 : decode cX0_performFunction 18 = .ok (.bipush 12, 2) := by decide +kernel
theorem dX0_performFunction_20 : decode cX0_performFunction 20 = .ok (.if_icmp .ne 8, 3) := by decide +kernel
theorem dX0_performFunction_23 : decode cX0_performFunction 23 = .ok (.aload_n 0, 1) := by decide +kernel
theorem dX0_performFunction_24 : decode cX0_performFunction 24 = .ok (.invokevirtual 135, 3) := by decide +kernel
theorem dX0_performFunction_27 : decode cX0_performFunction 27 = .ok (.ireturn, 1) := by decide +kernel
theorem dX0_performFunction_28 : decode cX0_performFunction 28 = .ok (.iload_n 2, 1) := by decide +kernel
theorem dX0_performFunction_29 : decode cX0_performFunction 29 = .ok (.bipush 13, 2) := by decide +kernel
theorem dX0_performFunction_31 : decode cX0_performFunction 31 = .ok (.if_icmp .ne 5, 3) := by decide +kernel
theorem dX0_performFunction_34 : decode cX0_performFunction 34 = .ok (.iconst 5, 1) := by decide +kernel
theorem dX0_performFunction_35 : decode cX0_performFunction 35 = .ok (.ireturn, 1) := by decide +kernel
theorem dX0_performFunction_36 : decode cX0_performFunction 36 = .ok (.iload_n 2, 1) := by decide +kernel
theorem dX0_performFunction_37 : decode cX0_performFunction 37 = .ok (.bipush 32, 2) := by decide +kernel
theorem dX0_performFunction_39 : decode cX0_performFunction 39 = .ok (.if_icmp .ge 11, 3) := by decide +kernel
theorem dX0_performFunction_42 : decode cX0_performFunction 42 = .ok (.aload_n 0, 1) := by decide +kernel
theorem dX0_performFunction_43 : decode cX0_performFunction 43 = .ok (.iload_n 1, 1) := by decide +kernel
theorem dX0_performFunction_44 : decode cX0_performFunction 44 = .ok (.invokevirtual 139, 3) := by decide +kernel
theorem dX0_performFunction_47 : decode cX0_performFunction 47 = .ok (.goto 8, 3) := by decide +kernel
theorem dX0_performFunction_50 : decode cX0_performFunction 50 = .ok (.aload_n 0, 1) := by decide +kernel
theorem dX0_performFunction_51 : decode cX0_performFunction 51 = .ok (.iload_n 1, 1) := by decide +kernel
theorem dX0_performFunction_52 : decode cX0_performFunction 52 = .ok (.invokevirtual 142, 3) := by decide +kernel
theorem dX0_performFunction_55 : decode cX0_performFunction 55 = .ok (.ireturn, 1) := by decide +kernel
