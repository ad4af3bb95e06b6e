theorem dX0_init_0 : decode cX0_init 0 = .ok (.aload_n 0, 1) := by decide +kernel
theorem dX0_init_1 : decode cX0_init 1 = .ok (.invokespecial 1, 3) := by decide +kernel
theorem dX0_init_4 : decode cX0_init 4 = .ok (.aload_n 0, 1) := by decide +kernel
theorem dX0_init_5 : decode cX0_init 5 = .ok (.bipush 64, 2) := by decide +kernel
theorem dX0_init_7 : decode cX0_init 7 = .ok (.newarray .int, 2) := by decide +kernel
theorem dX0_init_9 : decode cX0_init 9 = .ok (.putfield 9, 3) := by decide +kernel
theorem dX0_init_12 : decode cX0_init 12 = .ok (.aload_n 0, 1) := by decide +kernel
theorem dX0_init_13 : decode cX0_init 13 = .ok (.bipush 64, 2) := by decide +kernel
theorem dX0_init_15 : decode cX0_init 15 = .ok (.newarray .int, 2) := by decide +kernel
theorem dX0_init_17 : decode cX0_init 17 = .ok (.putfield 13, 3) := by decide +kernel
theorem dX0_init_20 : decode cX0_init 20 = .ok (.aload_n 0, 1) := by decide +kernel
theorem dX0_init_21 : decode cX0_init 21 = .ok (.bipush 34, 2) := by decide +kernel
theorem dX0_init_23 : decode cX0_init 23 = .ok (.newarray .int, 2) := by decide +kernel
theorem dX0_init_25 : decode cX0_init 25 = .ok (.putfield 16, 3) := by decide +kernel
theorem dX0_init_28 : decode cX0_init 28 = .ok (.aload_n 0, 1) := by decide +kernel
theorem dX0_init_29 : decode cX0_init 29 = .ok (.sipush 256, 3) := by decide +kernel
theorem dX0_init_32 : decode cX0_init 32 = .ok (.newarray .int, 2) := by decide +kernel
theorem dX0_init_34 : decode cX0_init 34 = .ok (.putfield 19, 3) := by decide +kernel
theorem dX0_init_37 : decode cX0_init 37 = .ok (.aload_n 0, 1) := by decide +kernel
theorem dX0_init_38 : decode cX0_init 38 = .ok (.bipush 64, 2) := by decide +kernel
theorem dX0_init_40 : decode cX0_init 40 = .ok (.newarray .int, 2) := by decide +kernel
theorem dX0_init_42 : decode cX0_init 42 = .ok (.putfield 22, 3) := by decide +kernel
theorem dX0_init_45 : decode cX0_init 45 = .ok (.aload_n 0, 1) := by decide +kernel
theorem dX0_init_46 : decode cX0_init 46 = .ok (.sipush 256, 3) := by decide +kernel
theorem dX0_init_49 : decode cX0_init 49 = .ok (.newarray .int, 2) := by decide +kernel
theorem dX0_init_51 : decode cX0_init 51 = .ok (.putfield 25, 3) := by decide +kernel
theorem dX0_init_54 : decode cX0_init 54 = .ok (.aload_n 0, 1) := by decide +kernel
theorem dX0_init_55 : decode cX0_init 55 = .ok (.getfield 16, 3) := by decide +kernel
theorem dX0_init_58 : decode cX0_init 58 = .ok (.bipush 29, 2) := by decide +kernel
theorem dX0_init_60 : decode cX0_init 60 = .ok (.ldc 28, 2) := by decide +kernel
theorem dX0_init_62 : decode cX0_init 62 = .ok (.iastore, 1) := by decide +kernel
theorem dX0_init_63 : decode cX0_init 63 = .ok (.return_, 1) := by decide +kernel
theorem dX0_word_0 : decode cX0_word 0 = .ok (.aload_n 0, 1) := by decide +kernel
theorem dX0_word_1 : decode cX0_word 1 = .ok (.getfield 29, 3) := by decide +kernel
theorem dX0_word_4 : decode cX0_word 4 = .ok (.bipush 64, 2) := by decide +kernel
theorem dX0_word_6 : decode cX0_word 6 = .ok (.if_icmp .lt 6, 3) := by decide +kernel
theorem dX0_word_9 : decode cX0_word 9 = .ok (.bipush (-2), 2) := by decide +kernel
theorem dX0_word_11 : decode cX0_word 11 = .ok (.ireturn, 1) := by decide +kernel
theorem dX0_word_12 : decode cX0_word 12 = .ok (.aload_n 0, 1) := by decide +kernel
theorem dX0_word_13 : decode cX0_word 13 = .ok (.getfield 9, 3) := by decide +kernel
theorem dX0_word_16 : decode cX0_word 16 = .ok (.aload_n 0, 1) := by decide +kernel
theorem dX0_word_17 : decode cX0_word 17 = .ok (.getfield 29, 3) := by decide +kernel
theorem dX0_word_20 : decode cX0_word 20 = .ok (.iload_n 1, 1) := by decide +kernel
theorem dX0_word_21 : decode cX0_word 21 = .ok (.iastore, 1) := by decide +kernel
theorem dX0_word_22 : decode cX0_word 22 = .ok (.aload_n 0, 1) := by decide +kernel
theorem dX0_word_23 : decode cX0_word 23 = .ok (.dup, 1) := by decide +kernel
theorem dX0_word_24 : decode cX0_word 24 = .ok (.getfield 29, 3) := by decide +kernel
theorem dX0_word_27 : decode cX0_word 27 = .ok (.iconst 1, 1) := by decide +kernel
theorem dX0_word_28 : decode cX0_word 28 = .ok (.iadd, 1) := by decide +kernel
theorem dX0_word_29 : decode cX0_word 29 = .ok (.putfield 29, 3) := by decide +kernel
theorem dX0_word_32 : decode cX0_word 32 = .ok (.aload_n 0, 1) := by decide +kernel
theorem dX0_word_33 : decode cX0_word 33 = .ok (.getfield 29, 3) := by decide +kernel
theorem dX0_word_36 : decode cX0_word 36 = .ok (.ireturn, 1) := by decide +kernel
theorem dX0_set_0 : decode cX0_set 0 = .ok (.iload_n 1, 1) := by decide +kernel
theorem dX0_set_1 : decode cX0_set 1 = .ok (.ifCond .lt 11, 3) := by decide +kernel
theorem dX0_set_4 : decode cX0_set 4 = .ok (.iload_n 1, 1) := by decide +kernel
theorem dX0_set_5 : decode cX0_set 5 = .ok (.aload_n 0, 1) := by decide +kernel
theorem dX0_set_6 : decode cX0_set 6 = .ok (.getfield 29, 3) := by decide +kernel
theorem dX0_set_9 : decode cX0_set 9 = .ok (.if_icmp .lt 5, 3) := by decide +kernel
theorem dX0_set_12 : decode cX0_set 12 = .ok (.iconst (-1), 1) := by decide +kernel
theorem dX0_set_13 : decode cX0_set 13 = .ok (.ireturn, 1) := by decide +kernel
theorem dX0_set_14 : decode cX0_set 14 = .ok (.aload_n 0, 1) := by decide +kernel
theorem dX0_set_15 : decode cX0_set 15 = .ok (.getfield 9, 3) := by decide +kernel
theorem dX0_set_18 : decode cX0_set 18 = .ok (.iload_n 1, 1) := by decide +kernel
theorem dX0_set_19 : decode cX0_set 19 = .ok (.iload_n 2, 1) := by decide +kernel
theorem dX0_set_20 : decode cX0_set 20 = .ok (.iastore, 1) := by decide +kernel
theorem dX0_set_21 : decode cX0_set 21 = .ok (.iconst 1, 1) := by decide +kernel
theorem dX0_set_22 : decode cX0_set 22 = .ok (.ireturn, 1) := by decide +kernel
theorem dX0_input_0 : decode cX0_input 0 = .ok (.iload_n 1, 1) := by decide +kernel
theorem dX0_input_1 : decode cX0_input 1 = .ok (.invokestatic 33, 3) := by decide +kernel
theorem dX0_input_4 : decode cX0_input 4 = .ok (.ifCond .ne 5, 3) := by decide +kernel
theorem dX0_input_7 : decode cX0_input 7 = .ok (.iconst (-1), 1) := by decide +kernel
theorem dX0_input_8 : decode cX0_input 8 = .ok (.ireturn, 1) := by decide +kernel
theorem dX0_input_9 : decode cX0_input 9 = .ok (.aload_n 0, 1) := by decide +kernel
theorem dX0_input_10 : decode cX0_input 10 = .ok (.getfield 37, 3) := by decide +kernel
theorem dX0_input_13 : decode cX0_input 13 = .ok (.bipush 64, 2) := by decide +kernel
theorem dX0_input_15 : decode cX0_input 15 = .ok (.if_icmp .lt 6, 3) := by decide +kernel
theorem dX0_input_18 : decode cX0_input 18 = .ok (.bipush (-2), 2) := by decide +kernel
theorem dX0_input_20 : decode cX0_input 20 = .ok (.ireturn, 1) := by decide +kernel
theorem dX0_input_21 : decode cX0_input 21 = .ok (.aload_n 0, 1) := by decide +kernel
theorem dX0_input_22 : decode cX0_input 22 = .ok (.getfield 22, 3) := by decide +kernel
theorem dX0_input_25 : decode cX0_input 25 = .ok (.aload_n 0, 1) := by decide +kernel
theorem dX0_input_26 : decode cX0_input 26 = .ok (.getfield 37, 3) := by decide +kernel
theorem dX0_input_29 : decode cX0_input 29 = .ok (.iload_n 1, 1) := by decide +kernel
theorem dX0_input_30 : decode cX0_input 30 = .ok (.iastore, 1) := by decide +kernel
theorem dX0_input_31 : decode cX0_input 31 = .ok (.aload_n 0, 1) := by decide +kernel
theorem dX0_input_32 : decode cX0_input 32 = .ok (.dup, 1) := by decide +kernel
theorem dX0_input_33 : decode cX0_input 33 = .ok (.getfield 37, 3) := by decide +kernel
theorem dX0_input_36 : decode cX0_input 36 = .ok (.iconst 1, 1) := by decide +kernel
theorem dX0_input_37 : decode cX0_input 37 = .ok (.iadd, 1) := by decide +kernel
theorem dX0_input_38 : decode cX0_input 38 = .ok (.putfield 37, 3) := by decide +kernel
theorem dX0_input_41 : decode cX0_input 41 = .ok (.aload_n 0, 1) := by decide +kernel
theorem dX0_input_42 : decode cX0_input 42 = .ok (.getfield 37, 3) := by decide +kernel
theorem dX0_input_45 : decode cX0_input 45 = .ok (.ireturn, 1) := by decide +kernel
theorem dX0_data_0 : decode cX0_data 0 = .ok (.iload_n 1, 1) := by decide +kernel
theorem dX0_data_1 : decode cX0_data 1 = .ok (.invokestatic 40, 3) := by decide +kernel
theorem dX0_data_4 : decode cX0_data 4 = .ok (.ifCond .eq 10, 3) := by decide +kernel
theorem dX0_data_7 : decode cX0_data 7 = .ok (.iload_n 2, 1) := by decide +kernel
theorem dX0_data_8 : decode cX0_data 8 = .ok (.invokestatic 33, 3) := by decide +kernel
theorem dX0_data_11 : decode cX0_data 11 = .ok (.ifCond .ne 5, 3) := by decide +kernel
theorem dX0_data_14 : decode cX0_data 14 = .ok (.iconst (-1), 1) := by decide +kernel
theorem dX0_data_15 : decode cX0_data 15 = .ok (.ireturn, 1) := by decide +kernel
theorem dX0_data_16 : decode cX0_data 16 = .ok (.aload_n 0, 1) := by decide +kernel
theorem dX0_data_17 : decode cX0_data 17 = .ok (.getfield 19, 3) := by decide +kernel
theorem dX0_data_20 : decode cX0_data 20 = .ok (.iload_n 1, 1) := by decide +kernel
theorem dX0_data_21 : decode cX0_data 21 = .ok (.iload_n 2, 1) := by decide +kernel
theorem dX0_data_22 : decode cX0_data 22 = .ok (.iastore, 1) := by decide +kernel
theorem dX0_data_23 : decode cX0_data 23 = .ok (.iconst 1, 1) := by decide +kernel
theorem dX0_data_24 : decode cX0_data 24 = .ok (.ireturn, 1) := by decide +kernel
theorem dX0_begin_0 : decode cX0_begin 0 = .ok (.iconst 0, 1) := by decide +kernel
theorem dX0_begin_1 : decode cX0_begin 1 = .ok (.istore_n 1, 1) := by decide +kernel
theorem dX0_begin_2 : decode cX0_begin 2 = .ok (.iload_n 1, 1) := by decide +kernel
theorem dX0_begin_3 : decode cX0_begin 3 = .ok (.aload_n 0, 1) := by decide +kernel
theorem dX0_begin_4 : decode cX0_begin 4 = .ok (.getfield 29, 3) := by decide +kernel
theorem dX0_begin_7 : decode cX0_begin 7 = .ok (.if_icmp .ge 21, 3) := by decide +kernel
theorem dX0_begin_10 : decode cX0_begin 10 = .ok (.aload_n 0, 1) := by decide +kernel
theorem dX0_begin_11 : decode cX0_begin 11 = .ok (.getfield 13, 3) := by decide +kernel
theorem dX0_begin_14 : decode cX0_begin 14 = .ok (.iload_n 1, 1) := by decide +kernel
theorem dX0_begin_15 : decode cX0_begin 15 = .ok (.aload_n 0, 1) := by decide +kernel
theorem dX0_begin_16 : decode cX0_begin 16 = .ok (.getfield 9, 3) := by decide +kernel
theorem dX0_begin_19 : decode cX0_begin 19 = .ok (.iload_n 1, 1) := by decide +kernel
theorem dX0_begin_20 : decode cX0_begin 20 = .ok (.iaload, 1) := by decide +kernel
theorem dX0_begin_21 : decode cX0_begin 21 = .ok (.iastore, 1) := by decide +kernel
theorem dX0_begin_22 : decode cX0_begin 22 = .ok (.iinc 1 1, 3) := by decide +kernel
theorem dX0_begin_25 : decode cX0_begin 25 = .ok (.goto (-23), 3) := by decide +kernel
theorem dX0_begin_28 : decode cX0_begin 28 = .ok (.aload_n 0, 1) := by decide +kernel
theorem dX0_begin_29 : decode cX0_begin 29 = .ok (.aload_n 0, 1) := by decide +kernel
theorem dX0_begin_30 : decode cX0_begin 30 = .ok (.getfield 29, 3) := by decide +kernel
theorem dX0_begin_33 : decode cX0_begin 33 = .ok (.putfield 43, 3) := by decide +kernel
theorem dX0_begin_36 : decode cX0_begin 36 = .ok (.iconst 0, 1) := by decide +kernel
theorem dX0_begin_37 : decode cX0_begin 37 = .ok (.istore_n 1, 1) := by decide +kernel
theorem dX0_begin_38 : decode cX0_begin 38 = .ok (.iload_n 1, 1) := by decide +kernel
theorem dX0_begin_39 : decode cX0_begin 39 = .ok (.bipush 34, 2) := by decide +kernel
theorem dX0_begin_41 : decode cX0_begin 41 = .ok (.if_icmp .ge 16, 3) := by decide +kernel
theorem dX0_begin_44 : decode cX0_begin 44 = .ok (.aload_n 0, 1) := by decide +kernel
theorem dX0_begin_45 : decode cX0_begin 45 = .ok (.getfield 16, 3) := by decide +kernel
theorem dX0_begin_48 : decode cX0_begin 48 = .ok (.iload_n 1, 1) := by decide +kernel
theorem dX0_begin_49 : decode cX0_begin 49 = .ok (.iconst 0, 1) := by decide +kernel
theorem dX0_begin_50 : decode cX0_begin 50 = .ok (.iastore, 1) := by decide +kernel
theorem dX0_begin_51 : decode cX0_begin 51 = .ok (.iinc 1 1, 3) := by decide +kernel
theorem dX0_begin_54 : decode cX0_begin 54 = .ok (.goto (-16), 3) := by decide +kernel
theorem dX0_begin_57 : decode cX0_begin 57 = .ok (.aload_n 0, 1) := by decide +kernel
theorem dX0_begin_58 : decode cX0_begin 58 = .ok (.getfield 16, 3) := by decide +kernel
theorem dX0_begin_61 : decode cX0_begin 61 = .ok (.bipush 29, 2) := by decide +kernel
theorem dX0_begin_63 : decode cX0_begin 63 = .ok (.ldc 28, 2) := by decide +kernel
theorem dX0_begin_65 : decode cX0_begin 65 = .ok (.iastore, 1) := by decide +kernel
theorem dX0_begin_66 : decode cX0_begin 66 = .ok (.aload_n 0, 1) := by decide +kernel
theorem dX0_begin_67 : decode cX0_begin 67 = .ok (.iconst 0, 1) := by decide +kernel
theorem dX0_begin_68 : decode cX0_begin 68 = .ok (.putfield 46, 3) := by decide +kernel
theorem dX0_begin_71 : decode cX0_begin 71 = .ok (.aload_n 0, 1) := by decide +kernel
theorem dX0_begin_72 : decode cX0_begin 72 = .ok (.iconst 0, 1) := by decide +kernel
theorem dX0_begin_73 : decode cX0_begin 73 = .ok (.putfield 49, 3) := by decide +kernel
theorem dX0_begin_76 : decode cX0_begin 76 = .ok (.aload_n 0, 1) := by decide +kernel
theorem dX0_begin_77 : decode cX0_begin 77 = .ok (.iconst 0, 1) := by decide +kernel
theorem dX0_begin_78 : decode cX0_begin 78 = .ok (.putfield 52, 3) := by decide +kernel
theorem dX0_begin_81 : decode cX0_begin 81 = .ok (.aload_n 0, 1) := by decide +kernel
theorem dX0_begin_82 : decode cX0_begin 82 = .ok (.iconst 0, 1) := by decide +kernel
theorem dX0_begin_83 : decode cX0_begin 83 = .ok (.putfield 55, 3) := by decide +kernel
theorem dX0_begin_86 : decode cX0_begin 86 = .ok (.aload_n 0, 1) := by decide +kernel
theorem dX0_begin_87 : decode cX0_begin 87 = .ok (.iconst 0, 1) := by decide +kernel
theorem dX0_begin_88 : decode cX0_begin 88 = .ok (.putfield 58, 3) := by decide +kernel
theorem dX0_begin_91 : decode cX0_begin 91 = .ok (.aload_n 0, 1) := by decide +kernel
theorem dX0_begin_92 : decode cX0_begin 92 = .ok (.iconst 0, 1) := by decide +kernel
theorem dX0_begin_93 : decode cX0_begin 93 = .ok (.putfield 61, 3) := by decide +kernel
theorem dX0_begin_96 : decode cX0_begin 96 = .ok (.aload_n 0, 1) := by decide +kernel
theorem dX0_begin_97 : decode cX0_begin 97 = .ok (.getfield 43, 3) := by decide +kernel
theorem dX0_begin_100 : decode cX0_begin 100 = .ok (.ireturn, 1) := by decide +kernel
theorem dX0_run_0 : decode cX0_run 0 = .ok (.iload_n 1, 1) := by decide +kernel
theorem dX0_run_1 : decode cX0_run 1 = .ok (.iconst 1, 1) := by decide +kernel
theorem dX0_run_2 : decode cX0_run 2 = .ok (.if_icmp .lt 10, 3) := by decide +kernel
theorem dX0_run_5 : decode cX0_run 5 = .ok (.iload_n 1, 1) := by decide +kernel
theorem dX0_run_6 : decode cX0_run 6 = .ok (.sipush 2000, 3) := by decide +kernel
theorem dX0_run_9 : decode cX0_run 9 = .ok (.if_icmp .le 5, 3) := by decide +kernel
theorem dX0_run_12 : decode cX0_run 12 = .ok (.iconst (-1), 1) := by decide +kernel
theorem dX0_run_13 : decode cX0_run 13 = .ok (.ireturn, 1) := by decide +kernel
theorem dX0_run_14 : decode cX0_run 14 = .ok (.iload_n 1, 1) := by decide +kernel
theorem dX0_run_15 : decode cX0_run 15 = .ok (.istore_n 2, 1) := by decide +kernel
theorem dX0_run_16 : decode cX0_run 16 = .ok (.iconst 0, 1) := by decide +kernel
theorem dX0_run_17 : decode cX0_run 17 = .ok (.istore_n 3, 1) := by decide +kernel
theorem dX0_run_18 : decode cX0_run 18 = .ok (.iload_n 3, 1) := by decide +kernel
theorem dX0_run_19 : decode cX0_run 19 = .ok (.iload_n 1, 1) := by decide +kernel
theorem dX0_run_20 : decode cX0_run 20 = .ok (.if_icmp .gt 130, 3) := by decide +kernel
theorem dX0_run_23 : decode cX0_run 23 = .ok (.aload_n 0, 1) := by decide +kernel
theorem dX0_run_24 : decode cX0_run 24 = .ok (.getfield 58, 3) := by decide +kernel
theorem dX0_run_27 : decode cX0_run 27 = .ok (.ifCond .ne 123, 3) := by decide +kernel
theorem dX0_run_30 : decode cX0_run 30 = .ok (.aload_n 0, 1) := by decide +kernel
theorem dX0_run_31 : decode cX0_run 31 = .ok (.aload_n 0, 1) := by decide +kernel
theorem dX0_run_32 : decode cX0_run 32 = .ok (.getfield 52, 3) := by decide +kernel
theorem dX0_run_35 : decode cX0_run 35 = .ok (.invokevirtual 64, 3) := by decide +kernel
theorem dX0_run_38 : decode cX0_run 38 = .ok (.ifCond .ne 14, 3) := by decide +kernel
theorem dX0_run_41 : decode cX0_run 41 = .ok (.aload_n 0, 1) := by decide +kernel
theorem dX0_run_42 : decode cX0_run 42 = .ok (.bipush 17, 2) := by decide +kernel
theorem dX0_run_44 : decode cX0_run 44 = .ok (.putfield 58, 3) := by decide +kernel
theorem dX0_run_47 : decode cX0_run 47 = .ok (.aload_n 0, 1) := by decide +kernel
theorem dX0_run_48 : decode cX0_run 48 = .ok (.getfield 58, 3) := by decide +kernel
theorem dX0_run_51 : decode cX0_run 51 = .ok (.ireturn, 1) := by decide +kernel
theorem dX0_run_52 : decode cX0_run 52 = .ok (.aload_n 0, 1) := by decide +kernel
theorem dX0_run_53 : decode cX0_run 53 = .ok (.getfield 13, 3) := by decide +kernel
theorem dX0_run_56 : decode cX0_run 56 = .ok (.aload_n 0, 1) := by decide +kernel
theorem dX0_run_57 : decode cX0_run 57 = .ok (.getfield 52, 3) := by decide +kernel
theorem dX0_run_60 : decode cX0_run 60 = .ok (.iaload, 1) := by decide +kernel
theorem dX0_run_61 : decode cX0_run 61 = .ok (.istore 4, 2) := by decide +kernel
theorem dX0_run_63 : decode cX0_run 63 = .ok (.iload 4, 2) := by decide +kernel
theorem dX0_run_65 : decode cX0_run 65 = .ok (.invokestatic 67, 3) := by decide +kernel
theorem dX0_run_68 : decode cX0_run 68 = .ok (.ifCond .eq 7, 3) := by decide +kernel
theorem dX0_run_71 : decode cX0_run 71 = .ok (.iconst 2, 1) := by decide +kernel
theorem dX0_run_72 : decode cX0_run 72 = .ok (.goto 4, 3) := by decide +kernel
theorem dX0_run_75 : decode cX0_run 75 = .ok (.iconst 1, 1) := by decide +kernel
theorem dX0_run_76 : decode cX0_run 76 = .ok (.istore 5, 2) := by decide +kernel
theorem dX0_run_78 : decode cX0_run 78 = .ok (.iload 5, 2) := by decide +kernel
theorem dX0_run_80 : decode cX0_run 80 = .ok (.iload_n 2, 1) := by decide +kernel
theorem dX0_run_81 : decode cX0_run 81 = .ok (.if_icmp .le 5, 3) := by decide +kernel
theorem dX0_run_84 : decode cX0_run 84 = .ok (.iconst 0, 1) := by decide +kernel
theorem dX0_run_85 : decode cX0_run 85 = .ok (.ireturn, 1) := by decide +kernel
theorem dX0_run_86 : decode cX0_run 86 = .ok (.iload 5, 2) := by decide +kernel
theorem dX0_run_88 : decode cX0_run 88 = .ok (.iconst 2, 1) := by decide +kernel
theorem dX0_run_89 : decode cX0_run 89 = .ok (.if_icmp .ne 12, 3) := by decide +kernel
theorem dX0_run_92 : decode cX0_run 92 = .ok (.aload_n 0, 1) := by decide +kernel
theorem dX0_run_93 : decode cX0_run 93 = .ok (.iload 4, 2) := by decide +kernel
theorem dX0_run_95 : decode cX0_run 95 = .ok (.invokevirtual 70, 3) := by decide +kernel
theorem dX0_run_98 : decode cX0_run 98 = .ok (.goto 9, 3) := by decide +kernel
theorem dX0_run_101 : decode cX0_run 101 = .ok (.aload_n 0, 1) := by decide +kernel
theorem dX0_run_102 : decode cX0_run 102 = .ok (.iload 4, 2) := by decide +kernel
theorem dX0_run_104 : decode cX0_run 104 = .ok (.invokevirtual 74, 3) := by decide +kernel
theorem dX0_run_107 : decode cX0_run 107 = .ok (.istore 6, 2) := by decide +kernel
theorem dX0_run_109 : decode cX0_run 109 = .ok (.iload 6, 2) := by decide +kernel
theorem dX0_run_111 : decode cX0_run 111 = .ok (.ifCond .eq 17, 3) := by decide +kernel
theorem dX0_run_114 : decode cX0_run 114 = .ok (.aload_n 0, 1) := by decide +kernel
theorem dX0_run_115 : decode cX0_run 115 = .ok (.bipush 10, 2) := by decide +kernel
theorem dX0_run_117 : decode cX0_run 117 = .ok (.iload 6, 2) := by decide +kernel
theorem dX0_run_119 : decode cX0_run 119 = .ok (.iadd, 1) := by decide +kernel
theorem dX0_run_120 : decode cX0_run 120 = .ok (.putfield 58, 3) := by decide +kernel
theorem dX0_run_123 : decode cX0_run 123 = .ok (.aload_n 0, 1) := by decide +kernel
theorem dX0_run_124 : decode cX0_run 124 = .ok (.getfield 58, 3) := by decide +kernel
theorem dX0_run_127 : decode cX0_run 127 = .ok (.ireturn, 1) := by decide +kernel
theorem dX0_run_128 : decode cX0_run 128 = .ok (.iload_n 2, 1) := by decide +kernel
theorem dX0_run_129 : decode cX0_run 129 = .ok (.iload 5, 2) := by decide +kernel
theorem dX0_run_131 : decode cX0_run 131 = .ok (.isub, 1) := by decide +kernel
theorem dX0_run_132 : decode cX0_run 132 = .ok (.istore_n 2, 1) := by decide +kernel
theorem dX0_run_133 : decode cX0_run 133 = .ok (.aload_n 0, 1) := by decide +kernel
theorem dX0_run_134 : decode cX0_run 134 = .ok (.dup, 1) := by decide +kernel
theorem dX0_run_135 : decode cX0_run 135 = .ok (.getfield 55, 3) := by decide +kernel
theorem dX0_run_138 : decode cX0_run 138 = .ok (.iload 5, 2) := by decide +kernel
theorem dX0_run_140 : decode cX0_run 140 = .ok (.iadd, 1) := by decide +kernel
theorem dX0_run_141 : decode cX0_run 141 = .ok (.putfield 55, 3) := by decide +kernel
theorem dX0_run_144 : decode cX0_run 144 = .ok (.iinc 3 1, 3) := by decide +kernel
theorem dX0_run_147 : decode cX0_run 147 = .ok (.goto (-129), 3) := by decide +kernel
theorem dX0_run_150 : decode cX0_run 150 = .ok (.aload_n 0, 1) := by decide +kernel
theorem dX0_run_151 : decode cX0_run 151 = .ok (.getfield 58, 3) := by decide +kernel
theorem dX0_run_154 : decode cX0_run 154 = .ok (.ireturn, 1) := by decide +kernel
theorem dX0_register_0 : decode cX0_register 0 = .ok (.iload_n 1, 1) := by decide +kernel
theorem dX0_register_1 : decode cX0_register 1 = .ok (.bipush 34, 2) := by decide +kernel
theorem dX0_register_3 : decode cX0_register 3 = .ok (.if_icmp .ne 8, 3) := by decide +kernel
theorem dX0_register_6 : decode cX0_register 6 = .ok (.aload_n 0, 1) := by decide +kernel
theorem dX0_register_7 : decode cX0_register 7 = .ok (.getfield 52, 3) := by decide +kernel
theorem dX0_register_10 : decode cX0_register 10 = .ok (.ireturn, 1) := by decide +kernel
theorem dX0_register_11 : decode cX0_register 11 = .ok (.iload_n 1, 1) := by decide +kernel
theorem dX0_register_12 : decode cX0_register 12 = .ok (.bipush 35, 2) := by decide +kernel
theorem dX0_register_14 : decode cX0_register 14 = .ok (.if_icmp .ne 8, 3) := by decide +kernel
theorem dX0_register_17 : decode cX0_register 17 = .ok (.aload_n 0, 1) := by decide +kernel
theorem dX0_register_18 : decode cX0_register 18 = .ok (.getfield 55, 3) := by decide +kernel
theorem dX0_register_21 : decode cX0_register 21 = .ok (.ireturn, 1) := by decide +kernel
theorem dX0_register_22 : decode cX0_register 22 = .ok (.iload_n 1, 1) := by decide +kernel
theorem dX0_register_23 : decode cX0_register 23 = .ok (.ifCond .lt 18, 3) := by decide +kernel
theorem dX0_register_26 : decode cX0_register 26 = .ok (.iload_n 1, 1) := by decide +kernel
theorem dX0_register_27 : decode cX0_register 27 = .ok (.bipush 34, 2) := by decide +kernel
theorem dX0_register_29 : decode cX0_register 29 = .ok (.if_icmp .ge 12, 3) := by decide +kernel
theorem dX0_register_32 : decode cX0_register 32 = .ok (.aload_n 0, 1) := by decide +kernel
theorem dX0_register_33 : decode cX0_register 33 = .ok (.getfield 16, 3) := by decide +kernel
theorem dX0_register_36 : decode cX0_register 36 = .ok (.iload_n 1, 1) := by decide +kernel
theorem dX0_register_37 : decode cX0_register 37 = .ok (.iaload, 1) := by decide +kernel
theorem dX0_register_38 : decode cX0_register 38 = .ok (.goto 4, 3) := by decide +kernel
theorem dX0_register_41 : decode cX0_register 41 = .ok (.iconst 0, 1) := by decide +kernel
theorem dX0_register_42 : decode cX0_register 42 = .ok (.ireturn, 1) := by decide +kernel
theorem dX0_give_0 : decode cX0_give 0 = .ok (.iload_n 1, 1) := by decide +kernel
theorem dX0_give_1 : decode cX0_give 1 = .ok (.iconst 1, 1) := by decide +kernel
theorem dX0_give_2 : decode cX0_give 2 = .ok (.if_icmp .lt 9, 3) := by decide +kernel
theorem dX0_give_5 : decode cX0_give 5 = .ok (.iload_n 1, 1) := by decide +kernel
theorem dX0_give_6 : decode cX0_give 6 = .ok (.bipush 34, 2) := by decide +kernel
theorem dX0_give_8 : decode cX0_give 8 = .ok (.if_icmp .lt 5, 3) := by decide +kernel
theorem dX0_give_11 : decode cX0_give 11 = .ok (.iconst (-1), 1) := by decide +kernel
theorem dX0_give_12 : decode cX0_give 12 = .ok (.ireturn, 1) := by decide +kernel
theorem dX0_give_13 : decode cX0_give 13 = .ok (.aload_n 0, 1) := by decide +kernel
theorem dX0_give_14 : decode cX0_give 14 = .ok (.getfield 16, 3) := by decide +kernel
theorem dX0_give_17 : decode cX0_give 17 = .ok (.iload_n 1, 1) := by decide +kernel
theorem dX0_give_18 : decode cX0_give 18 = .ok (.iload_n 2, 1) := by decide +kernel
theorem dX0_give_19 : decode cX0_give 19 = .ok (.iastore, 1) := by decide +kernel
theorem dX0_give_20 : decode cX0_give 20 = .ok (.iconst 1, 1) := by decide +kernel
theorem dX0_give_21 : decode cX0_give 21 = .ok (.ireturn, 1) := by decide +kernel
theorem dX0_byteOf_0 : decode cX0_byteOf 0 = .ok (.iload_n 1, 1) := by decide +kernel
theorem dX0_byteOf_1 : decode cX0_byteOf 1 = .ok (.invokestatic 40, 3) := by decide +kernel
theorem dX0_byteOf_4 : decode cX0_byteOf 4 = .ok (.ifCond .eq 12, 3) := by decide +kernel
theorem dX0_byteOf_7 : decode cX0_byteOf 7 = .ok (.aload_n 0, 1) := by decide +kernel
theorem dX0_byteOf_8 : decode cX0_byteOf 8 = .ok (.getfield 19, 3) := by decide +kernel
theorem dX0_byteOf_11 : decode cX0_byteOf 11 = .ok (.iload_n 1, 1) := by decide +kernel
theorem dX0_byteOf_12 : decode cX0_byteOf 12 = .ok (.iaload, 1) := by decide +kernel
theorem dX0_byteOf_13 : decode cX0_byteOf 13 = .ok (.goto 4, 3) := by decide +kernel
theorem dX0_byteOf_16 : decode cX0_byteOf 16 = .ok (.iconst (-1), 1) := by decide +kernel
theorem dX0_byteOf_17 : decode cX0_byteOf 17 = .ok (.ireturn, 1) := by decide +kernel
theorem dX0_output_0 : decode cX0_output 0 = .ok (.iload_n 1, 1) := by decide +kernel
theorem dX0_output_1 : decode cX0_output 1 = .ok (.ifCond .lt 20, 3) := by decide +kernel
theorem dX0_output_4 : decode cX0_output 4 = .ok (.iload_n 1, 1) := by decide +kernel
theorem dX0_output_5 : decode cX0_output 5 = .ok (.aload_n 0, 1) := by decide +kernel
theorem dX0_output_6 : decode cX0_output 6 = .ok (.getfield 49, 3) := by decide +kernel
theorem dX0_output_9 : decode cX0_output 9 = .ok (.if_icmp .ge 12, 3) := by decide +kernel
theorem dX0_output_12 : decode cX0_output 12 = .ok (.aload_n 0, 1) := by decide +kernel
theorem dX0_output_13 : decode cX0_output 13 = .ok (.getfield 25, 3) := by decide +kernel
theorem dX0_output_16 : decode cX0_output 16 = .ok (.iload_n 1, 1) := by decide +kernel
theorem dX0_output_17 : decode cX0_output 17 = .ok (.iaload, 1) := by decide +kernel
theorem dX0_output_18 : decode cX0_output 18 = .ok (.goto 4, 3) := by decide +kernel
theorem dX0_output_21 : decode cX0_output 21 = .ok (.iconst (-1), 1) := by decide +kernel
theorem dX0_output_22 : decode cX0_output 22 = .ok (.ireturn, 1) := by decide +kernel
theorem dX0_code_0 : decode cX0_code 0 = .ok (.aload_n 0, 1) := by decide +kernel
theorem dX0_code_1 : decode cX0_code 1 = .ok (.getfield 61, 3) := by decide +kernel
theorem dX0_code_4 : decode cX0_code 4 = .ok (.ireturn, 1) := by decide +kernel
theorem dX0_opOf_0 : decode cX0_opOf 0 = .ok (.iload_n 0, 1) := by decide +kernel
theorem dX0_opOf_1 : decode cX0_opOf 1 = .ok (.bipush 26, 2) := by decide +kernel
theorem dX0_opOf_3 : decode cX0_opOf 3 = .ok (.iushr, 1) := by decide +kernel
theorem dX0_opOf_4 : decode cX0_opOf 4 = .ok (.ireturn, 1) := by decide +kernel
theorem dX0_sOf_0 : decode cX0_sOf 0 = .ok (.iload_n 0, 1) := by decide +kernel
theorem dX0_sOf_1 : decode cX0_sOf 1 = .ok (.bipush 21, 2) := by decide +kernel
theorem dX0_sOf_3 : decode cX0_sOf 3 = .ok (.iushr, 1) := by decide +kernel
theorem dX0_sOf_4 : decode cX0_sOf 4 = .ok (.bipush 31, 2) := by decide +kernel
theorem dX0_sOf_6 : decode cX0_sOf 6 = .ok (.iand, 1) := by decide +kernel
theorem dX0_sOf_7 : decode cX0_sOf 7 = .ok (.ireturn, 1) := by decide +kernel
theorem dX0_tOf_0 : decode cX0_tOf 0 = .ok (.iload_n 0, 1) := by decide +kernel
theorem dX0_tOf_1 : decode cX0_tOf 1 = .ok (.bipush 16, 2) := by decide +kernel
theorem dX0_tOf_3 : decode cX0_tOf 3 = .ok (.iushr, 1) := by decide +kernel
theorem dX0_tOf_4 : decode cX0_tOf 4 = .ok (.bipush 31, 2) := by decide +kernel
theorem dX0_tOf_6 : decode cX0_tOf 6 = .ok (.iand, 1) := by decide +kernel
theorem dX0_tOf_7 : decode cX0_tOf 7 = .ok (.ireturn, 1) := by decide +kernel
theorem dX0_dOf_0 : decode cX0_dOf 0 = .ok (.iload_n 0, 1) := by decide +kernel
theorem dX0_dOf_1 : decode cX0_dOf 1 = .ok (.bipush 11, 2) := by decide +kernel
theorem dX0_dOf_3 : decode cX0_dOf 3 = .ok (.iushr, 1) := by decide +kernel
theorem dX0_dOf_4 : decode cX0_dOf 4 = .ok (.bipush 31, 2) := by decide +kernel
theorem dX0_dOf_6 : decode cX0_dOf 6 = .ok (.iand, 1) := by decide +kernel
theorem dX0_dOf_7 : decode cX0_dOf 7 = .ok (.ireturn, 1) := by decide +kernel
theorem dX0_hOf_0 : decode cX0_hOf 0 = .ok (.iload_n 0, 1) := by decide +kernel
theorem dX0_hOf_1 : decode cX0_hOf 1 = .ok (.bipush 6, 2) := by decide +kernel
theorem dX0_hOf_3 : decode cX0_hOf 3 = .ok (.iushr, 1) := by decide +kernel
theorem dX0_hOf_4 : decode cX0_hOf 4 = .ok (.bipush 31, 2) := by decide +kernel
theorem dX0_hOf_6 : decode cX0_hOf 6 = .ok (.iand, 1) := by decide +kernel
theorem dX0_hOf_7 : decode cX0_hOf 7 = .ok (.ireturn, 1) := by decide +kernel
theorem dX0_fOf_0 : decode cX0_fOf 0 = .ok (.iload_n 0, 1) := by decide +kernel
theorem dX0_fOf_1 : decode cX0_fOf 1 = .ok (.bipush 63, 2) := by decide +kernel
theorem dX0_fOf_3 : decode cX0_fOf 3 = .ok (.iand, 1) := by decide +kernel
theorem dX0_fOf_4 : decode cX0_fOf 4 = .ok (.ireturn, 1) := by decide +kernel
theorem dX0_signedImmediate_0 : decode cX0_signedImmediate 0 = .ok (.iload_n 0, 1) := by decide +kernel
theorem dX0_signedImmediate_1 : decode cX0_signedImmediate 1 = .ok (.bipush 16, 2) := by decide +kernel
theorem dX0_signedImmediate_3 : decode cX0_signedImmediate 3 = .ok (.ishl, 1) := by decide +kernel
theorem dX0_signedImmediate_4 : decode cX0_signedImmediate 4 = .ok (.bipush 16, 2) := by decide +kernel
theorem dX0_signedImmediate_6 : decode cX0_signedImmediate 6 = .ok (.ishr, 1) := by decide +kernel
theorem dX0_signedImmediate_7 : decode cX0_signedImmediate 7 = .ok (.ireturn, 1) := by decide +kernel
theorem dX0_plainImmediate_0 : decode cX0_plainImmediate 0 = .ok (.iload_n 0, 1) := by decide +kernel
theorem dX0_plainImmediate_1 : decode cX0_plainImmediate 1 = .ok (.ldc 77, 2) := by decide +kernel
theorem dX0_plainImmediate_3 : decode cX0_plainImmediate 3 = .ok (.iand, 1) := by decide +kernel
theorem dX0_plainImmediate_4 : decode cX0_plainImmediate 4 = .ok (.ireturn, 1) := by decide +kernel
