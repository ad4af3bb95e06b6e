theorem dX1_init_0 : decode cX1_init 0 = .ok (.aload_n 0, 1) := by decide +kernel
theorem dX1_init_1 : decode cX1_init 1 = .ok (.invokespecial 1, 3) := by decide +kernel
theorem dX1_init_4 : decode cX1_init 4 = .ok (.aload_n 0, 1) := by decide +kernel
theorem dX1_init_5 : decode cX1_init 5 = .ok (.bipush 64, 2) := by decide +kernel
theorem dX1_init_7 : decode cX1_init 7 = .ok (.newarray .int, 2) := by decide +kernel
theorem dX1_init_9 : decode cX1_init 9 = .ok (.putfield 7, 3) := by decide +kernel
theorem dX1_init_12 : decode cX1_init 12 = .ok (.aload_n 0, 1) := by decide +kernel
theorem dX1_init_13 : decode cX1_init 13 = .ok (.bipush 64, 2) := by decide +kernel
theorem dX1_init_15 : decode cX1_init 15 = .ok (.newarray .int, 2) := by decide +kernel
theorem dX1_init_17 : decode cX1_init 17 = .ok (.putfield 13, 3) := by decide +kernel
theorem dX1_init_20 : decode cX1_init 20 = .ok (.aload_n 0, 1) := by decide +kernel
theorem dX1_init_21 : decode cX1_init 21 = .ok (.sipush 256, 3) := by decide +kernel
theorem dX1_init_24 : decode cX1_init 24 = .ok (.newarray .int, 2) := by decide +kernel
theorem dX1_init_26 : decode cX1_init 26 = .ok (.putfield 16, 3) := by decide +kernel
theorem dX1_init_29 : decode cX1_init 29 = .ok (.aload_n 0, 1) := by decide +kernel
theorem dX1_init_30 : decode cX1_init 30 = .ok (.bipush 64, 2) := by decide +kernel
theorem dX1_init_32 : decode cX1_init 32 = .ok (.newarray .int, 2) := by decide +kernel
theorem dX1_init_34 : decode cX1_init 34 = .ok (.putfield 19, 3) := by decide +kernel
theorem dX1_init_37 : decode cX1_init 37 = .ok (.aload_n 0, 1) := by decide +kernel
theorem dX1_init_38 : decode cX1_init 38 = .ok (.sipush 256, 3) := by decide +kernel
theorem dX1_init_41 : decode cX1_init 41 = .ok (.newarray .int, 2) := by decide +kernel
theorem dX1_init_43 : decode cX1_init 43 = .ok (.putfield 22, 3) := by decide +kernel
theorem dX1_init_46 : decode cX1_init 46 = .ok (.aload_n 0, 1) := by decide +kernel
theorem dX1_init_47 : decode cX1_init 47 = .ok (.bipush 34, 2) := by decide +kernel
theorem dX1_init_49 : decode cX1_init 49 = .ok (.newarray .int, 2) := by decide +kernel
theorem dX1_init_51 : decode cX1_init 51 = .ok (.putfield 25, 3) := by decide +kernel
theorem dX1_init_54 : decode cX1_init 54 = .ok (.aload_n 0, 1) := by decide +kernel
theorem dX1_init_55 : decode cX1_init 55 = .ok (.getfield 25, 3) := by decide +kernel
theorem dX1_init_58 : decode cX1_init 58 = .ok (.bipush 29, 2) := by decide +kernel
theorem dX1_init_60 : decode cX1_init 60 = .ok (.ldc 28, 2) := by decide +kernel
theorem dX1_init_62 : decode cX1_init 62 = .ok (.iastore, 1) := by decide +kernel
theorem dX1_init_63 : decode cX1_init 63 = .ok (.return_, 1) := by decide +kernel
theorem dX1_word_0 : decode cX1_word 0 = .ok (.aload_n 0, 1) := by decide +kernel
theorem dX1_word_1 : decode cX1_word 1 = .ok (.getfield 29, 3) := by decide +kernel
theorem dX1_word_4 : decode cX1_word 4 = .ok (.bipush 64, 2) := by decide +kernel
theorem dX1_word_6 : decode cX1_word 6 = .ok (.if_icmp .ne 6, 3) := by decide +kernel
theorem dX1_word_9 : decode cX1_word 9 = .ok (.bipush (-2), 2) := by decide +kernel
theorem dX1_word_11 : decode cX1_word 11 = .ok (.ireturn, 1) := by decide +kernel
theorem dX1_word_12 : decode cX1_word 12 = .ok (.aload_n 0, 1) := by decide +kernel
theorem dX1_word_13 : decode cX1_word 13 = .ok (.getfield 7, 3) := by decide +kernel
theorem dX1_word_16 : decode cX1_word 16 = .ok (.aload_n 0, 1) := by decide +kernel
theorem dX1_word_17 : decode cX1_word 17 = .ok (.getfield 29, 3) := by decide +kernel
theorem dX1_word_20 : decode cX1_word 20 = .ok (.iload_n 1, 1) := by decide +kernel
theorem dX1_word_21 : decode cX1_word 21 = .ok (.iastore, 1) := by decide +kernel
theorem dX1_word_22 : decode cX1_word 22 = .ok (.aload_n 0, 1) := by decide +kernel
theorem dX1_word_23 : decode cX1_word 23 = .ok (.dup, 1) := by decide +kernel
theorem dX1_word_24 : decode cX1_word 24 = .ok (.getfield 29, 3) := by decide +kernel
theorem dX1_word_27 : decode cX1_word 27 = .ok (.iconst 1, 1) := by decide +kernel
theorem dX1_word_28 : decode cX1_word 28 = .ok (.iadd, 1) := by decide +kernel
theorem dX1_word_29 : decode cX1_word 29 = .ok (.putfield 29, 3) := by decide +kernel
theorem dX1_word_32 : decode cX1_word 32 = .ok (.aload_n 0, 1) := by decide +kernel
theorem dX1_word_33 : decode cX1_word 33 = .ok (.getfield 29, 3) := by decide +kernel
theorem dX1_word_36 : decode cX1_word 36 = .ok (.ireturn, 1) := by decide +kernel
theorem dX1_set_0 : decode cX1_set 0 = .ok (.iload_n 1, 1) := by decide +kernel
theorem dX1_set_1 : decode cX1_set 1 = .ok (.ifCond .lt 11, 3) := by decide +kernel
theorem dX1_set_4 : decode cX1_set 4 = .ok (.iload_n 1, 1) := by decide +kernel
theorem dX1_set_5 : decode cX1_set 5 = .ok (.aload_n 0, 1) := by decide +kernel
theorem dX1_set_6 : decode cX1_set 6 = .ok (.getfield 29, 3) := by decide +kernel
theorem dX1_set_9 : decode cX1_set 9 = .ok (.if_icmp .lt 5, 3) := by decide +kernel
theorem dX1_set_12 : decode cX1_set 12 = .ok (.iconst (-1), 1) := by decide +kernel
theorem dX1_set_13 : decode cX1_set 13 = .ok (.ireturn, 1) := by decide +kernel
theorem dX1_set_14 : decode cX1_set 14 = .ok (.aload_n 0, 1) := by decide +kernel
theorem dX1_set_15 : decode cX1_set 15 = .ok (.getfield 7, 3) := by decide +kernel
theorem dX1_set_18 : decode cX1_set 18 = .ok (.iload_n 1, 1) := by decide +kernel
theorem dX1_set_19 : decode cX1_set 19 = .ok (.iload_n 2, 1) := by decide +kernel
theorem dX1_set_20 : decode cX1_set 20 = .ok (.iastore, 1) := by decide +kernel
theorem dX1_set_21 : decode cX1_set 21 = .ok (.iconst 1, 1) := by decide +kernel
theorem dX1_set_22 : decode cX1_set 22 = .ok (.ireturn, 1) := by decide +kernel
theorem dX1_input_0 : decode cX1_input 0 = .ok (.iload_n 1, 1) := by decide +kernel
theorem dX1_input_1 : decode cX1_input 1 = .ok (.ifCond .lt 10, 3) := by decide +kernel
theorem dX1_input_4 : decode cX1_input 4 = .ok (.iload_n 1, 1) := by decide +kernel
theorem dX1_input_5 : decode cX1_input 5 = .ok (.sipush 255, 3) := by decide +kernel
theorem dX1_input_8 : decode cX1_input 8 = .ok (.if_icmp .le 5, 3) := by decide +kernel
theorem dX1_input_11 : decode cX1_input 11 = .ok (.iconst (-1), 1) := by decide +kernel
theorem dX1_input_12 : decode cX1_input 12 = .ok (.ireturn, 1) := by decide +kernel
theorem dX1_input_13 : decode cX1_input 13 = .ok (.aload_n 0, 1) := by decide +kernel
theorem dX1_input_14 : decode cX1_input 14 = .ok (.getfield 33, 3) := by decide +kernel
theorem dX1_input_17 : decode cX1_input 17 = .ok (.bipush 64, 2) := by decide +kernel
theorem dX1_input_19 : decode cX1_input 19 = .ok (.if_icmp .ne 6, 3) := by decide +kernel
theorem dX1_input_22 : decode cX1_input 22 = .ok (.bipush (-2), 2) := by decide +kernel
theorem dX1_input_24 : decode cX1_input 24 = .ok (.ireturn, 1) := by decide +kernel
theorem dX1_input_25 : decode cX1_input 25 = .ok (.aload_n 0, 1) := by decide +kernel
theorem dX1_input_26 : decode cX1_input 26 = .ok (.getfield 19, 3) := by decide +kernel
theorem dX1_input_29 : decode cX1_input 29 = .ok (.aload_n 0, 1) := by decide +kernel
theorem dX1_input_30 : decode cX1_input 30 = .ok (.getfield 33, 3) := by decide +kernel
theorem dX1_input_33 : decode cX1_input 33 = .ok (.iload_n 1, 1) := by decide +kernel
theorem dX1_input_34 : decode cX1_input 34 = .ok (.iastore, 1) := by decide +kernel
theorem dX1_input_35 : decode cX1_input 35 = .ok (.aload_n 0, 1) := by decide +kernel
theorem dX1_input_36 : decode cX1_input 36 = .ok (.dup, 1) := by decide +kernel
theorem dX1_input_37 : decode cX1_input 37 = .ok (.getfield 33, 3) := by decide +kernel
theorem dX1_input_40 : decode cX1_input 40 = .ok (.iconst 1, 1) := by decide +kernel
theorem dX1_input_41 : decode cX1_input 41 = .ok (.iadd, 1) := by decide +kernel
theorem dX1_input_42 : decode cX1_input 42 = .ok (.putfield 33, 3) := by decide +kernel
theorem dX1_input_45 : decode cX1_input 45 = .ok (.aload_n 0, 1) := by decide +kernel
theorem dX1_input_46 : decode cX1_input 46 = .ok (.getfield 33, 3) := by decide +kernel
theorem dX1_input_49 : decode cX1_input 49 = .ok (.ireturn, 1) := by decide +kernel
theorem dX1_data_0 : decode cX1_data 0 = .ok (.iload_n 1, 1) := by decide +kernel
theorem dX1_data_1 : decode cX1_data 1 = .ok (.ifCond .lt 21, 3) := by decide +kernel
theorem dX1_data_4 : decode cX1_data 4 = .ok (.iload_n 1, 1) := by decide +kernel
theorem dX1_data_5 : decode cX1_data 5 = .ok (.sipush 255, 3) := by decide +kernel
theorem dX1_data_8 : decode cX1_data 8 = .ok (.if_icmp .gt 14, 3) := by decide +kernel
theorem dX1_data_11 : decode cX1_data 11 = .ok (.iload_n 2, 1) := by decide +kernel
theorem dX1_data_12 : decode cX1_data 12 = .ok (.ifCond .lt 10, 3) := by decide +kernel
theorem dX1_data_15 : decode cX1_data 15 = .ok (.iload_n 2, 1) := by decide +kernel
theorem dX1_data_16 : decode cX1_data 16 = .ok (.sipush 255, 3) := by decide +kernel
theorem dX1_data_19 : decode cX1_data 19 = .ok (.if_icmp .le 5, 3) := by decide +kernel
theorem dX1_data_22 : decode cX1_data 22 = .ok (.iconst (-1), 1) := by decide +kernel
theorem dX1_data_23 : decode cX1_data 23 = .ok (.ireturn, 1) := by decide +kernel
theorem dX1_data_24 : decode cX1_data 24 = .ok (.aload_n 0, 1) := by decide +kernel
theorem dX1_data_25 : decode cX1_data 25 = .ok (.getfield 16, 3) := by decide +kernel
theorem dX1_data_28 : decode cX1_data 28 = .ok (.iload_n 1, 1) := by decide +kernel
theorem dX1_data_29 : decode cX1_data 29 = .ok (.iload_n 2, 1) := by decide +kernel
theorem dX1_data_30 : decode cX1_data 30 = .ok (.iastore, 1) := by decide +kernel
theorem dX1_data_31 : decode cX1_data 31 = .ok (.iconst 1, 1) := by decide +kernel
theorem dX1_data_32 : decode cX1_data 32 = .ok (.ireturn, 1) := by decide +kernel
theorem dX1_begin_0 : decode cX1_begin 0 = .ok (.aload_n 0, 1) := by decide +kernel
theorem dX1_begin_1 : decode cX1_begin 1 = .ok (.aload_n 0, 1) := by decide +kernel
theorem dX1_begin_2 : decode cX1_begin 2 = .ok (.getfield 29, 3) := by decide +kernel
theorem dX1_begin_5 : decode cX1_begin 5 = .ok (.putfield 36, 3) := by decide +kernel
theorem dX1_begin_8 : decode cX1_begin 8 = .ok (.iconst 0, 1) := by decide +kernel
theorem dX1_begin_9 : decode cX1_begin 9 = .ok (.istore_n 1, 1) := by decide +kernel
theorem dX1_begin_10 : decode cX1_begin 10 = .ok (.iload_n 1, 1) := by decide +kernel
theorem dX1_begin_11 : decode cX1_begin 11 = .ok (.aload_n 0, 1) := by decide +kernel
theorem dX1_begin_12 : decode cX1_begin 12 = .ok (.getfield 36, 3) := by decide +kernel
theorem dX1_begin_15 : decode cX1_begin 15 = .ok (.if_icmp .ge 21, 3) := by decide +kernel
theorem dX1_begin_18 : decode cX1_begin 18 = .ok (.aload_n 0, 1) := by decide +kernel
theorem dX1_begin_19 : decode cX1_begin 19 = .ok (.getfield 13, 3) := by decide +kernel
theorem dX1_begin_22 : decode cX1_begin 22 = .ok (.iload_n 1, 1) := by decide +kernel
theorem dX1_begin_23 : decode cX1_begin 23 = .ok (.aload_n 0, 1) := by decide +kernel
theorem dX1_begin_24 : decode cX1_begin 24 = .ok (.getfield 7, 3) := by decide +kernel
theorem dX1_begin_27 : decode cX1_begin 27 = .ok (.iload_n 1, 1) := by decide +kernel
theorem dX1_begin_28 : decode cX1_begin 28 = .ok (.iaload, 1) := by decide +kernel
theorem dX1_begin_29 : decode cX1_begin 29 = .ok (.iastore, 1) := by decide +kernel
theorem dX1_begin_30 : decode cX1_begin 30 = .ok (.iinc 1 1, 3) := by decide +kernel
theorem dX1_begin_33 : decode cX1_begin 33 = .ok (.goto (-23), 3) := by decide +kernel
theorem dX1_begin_36 : decode cX1_begin 36 = .ok (.iconst 0, 1) := by decide +kernel
theorem dX1_begin_37 : decode cX1_begin 37 = .ok (.istore_n 1, 1) := by decide +kernel
theorem dX1_begin_38 : decode cX1_begin 38 = .ok (.iload_n 1, 1) := by decide +kernel
theorem dX1_begin_39 : decode cX1_begin 39 = .ok (.bipush 34, 2) := by decide +kernel
theorem dX1_begin_41 : decode cX1_begin 41 = .ok (.if_icmp .ge 16, 3) := by decide +kernel
theorem dX1_begin_44 : decode cX1_begin 44 = .ok (.aload_n 0, 1) := by decide +kernel
theorem dX1_begin_45 : decode cX1_begin 45 = .ok (.getfield 25, 3) := by decide +kernel
theorem dX1_begin_48 : decode cX1_begin 48 = .ok (.iload_n 1, 1) := by decide +kernel
theorem dX1_begin_49 : decode cX1_begin 49 = .ok (.iconst 0, 1) := by decide +kernel
theorem dX1_begin_50 : decode cX1_begin 50 = .ok (.iastore, 1) := by decide +kernel
theorem dX1_begin_51 : decode cX1_begin 51 = .ok (.iinc 1 1, 3) := by decide +kernel
theorem dX1_begin_54 : decode cX1_begin 54 = .ok (.goto (-16), 3) := by decide +kernel
theorem dX1_begin_57 : decode cX1_begin 57 = .ok (.aload_n 0, 1) := by decide +kernel
theorem dX1_begin_58 : decode cX1_begin 58 = .ok (.getfield 25, 3) := by decide +kernel
theorem dX1_begin_61 : decode cX1_begin 61 = .ok (.bipush 29, 2) := by decide +kernel
theorem dX1_begin_63 : decode cX1_begin 63 = .ok (.ldc 28, 2) := by decide +kernel
theorem dX1_begin_65 : decode cX1_begin 65 = .ok (.iastore, 1) := by decide +kernel
theorem dX1_begin_66 : decode cX1_begin 66 = .ok (.aload_n 0, 1) := by decide +kernel
theorem dX1_begin_67 : decode cX1_begin 67 = .ok (.iconst 0, 1) := by decide +kernel
theorem dX1_begin_68 : decode cX1_begin 68 = .ok (.putfield 39, 3) := by decide +kernel
theorem dX1_begin_71 : decode cX1_begin 71 = .ok (.aload_n 0, 1) := by decide +kernel
theorem dX1_begin_72 : decode cX1_begin 72 = .ok (.iconst 0, 1) := by decide +kernel
theorem dX1_begin_73 : decode cX1_begin 73 = .ok (.putfield 42, 3) := by decide +kernel
theorem dX1_begin_76 : decode cX1_begin 76 = .ok (.aload_n 0, 1) := by decide +kernel
theorem dX1_begin_77 : decode cX1_begin 77 = .ok (.iconst 0, 1) := by decide +kernel
theorem dX1_begin_78 : decode cX1_begin 78 = .ok (.putfield 45, 3) := by decide +kernel
theorem dX1_begin_81 : decode cX1_begin 81 = .ok (.aload_n 0, 1) := by decide +kernel
theorem dX1_begin_82 : decode cX1_begin 82 = .ok (.iconst 0, 1) := by decide +kernel
theorem dX1_begin_83 : decode cX1_begin 83 = .ok (.putfield 48, 3) := by decide +kernel
theorem dX1_begin_86 : decode cX1_begin 86 = .ok (.aload_n 0, 1) := by decide +kernel
theorem dX1_begin_87 : decode cX1_begin 87 = .ok (.iconst 0, 1) := by decide +kernel
theorem dX1_begin_88 : decode cX1_begin 88 = .ok (.putfield 51, 3) := by decide +kernel
theorem dX1_begin_91 : decode cX1_begin 91 = .ok (.aload_n 0, 1) := by decide +kernel
theorem dX1_begin_92 : decode cX1_begin 92 = .ok (.iconst 0, 1) := by decide +kernel
theorem dX1_begin_93 : decode cX1_begin 93 = .ok (.putfield 55, 3) := by decide +kernel
theorem dX1_begin_96 : decode cX1_begin 96 = .ok (.aload_n 0, 1) := by decide +kernel
theorem dX1_begin_97 : decode cX1_begin 97 = .ok (.iconst 0, 1) := by decide +kernel
theorem dX1_begin_98 : decode cX1_begin 98 = .ok (.putfield 58, 3) := by decide +kernel
theorem dX1_begin_101 : decode cX1_begin 101 = .ok (.aload_n 0, 1) := by decide +kernel
theorem dX1_begin_102 : decode cX1_begin 102 = .ok (.getfield 36, 3) := by decide +kernel
theorem dX1_begin_105 : decode cX1_begin 105 = .ok (.ireturn, 1) := by decide +kernel
theorem dX1_op_0 : decode cX1_op 0 = .ok (.iload_n 0, 1) := by decide +kernel
theorem dX1_op_1 : decode cX1_op 1 = .ok (.bipush 26, 2) := by decide +kernel
theorem dX1_op_3 : decode cX1_op 3 = .ok (.iushr, 1) := by decide +kernel
theorem dX1_op_4 : decode cX1_op 4 = .ok (.ireturn, 1) := by decide +kernel
theorem dX1_first_0 : decode cX1_first 0 = .ok (.iload_n 0, 1) := by decide +kernel
theorem dX1_first_1 : decode cX1_first 1 = .ok (.bipush 21, 2) := by decide +kernel
theorem dX1_first_3 : decode cX1_first 3 = .ok (.iushr, 1) := by decide +kernel
theorem dX1_first_4 : decode cX1_first 4 = .ok (.bipush 31, 2) := by decide +kernel
theorem dX1_first_6 : decode cX1_first 6 = .ok (.iand, 1) := by decide +kernel
theorem dX1_first_7 : decode cX1_first 7 = .ok (.ireturn, 1) := by decide +kernel
theorem dX1_second_0 : decode cX1_second 0 = .ok (.iload_n 0, 1) := by decide +kernel
theorem dX1_second_1 : decode cX1_second 1 = .ok (.bipush 16, 2) := by decide +kernel
theorem dX1_second_3 : decode cX1_second 3 = .ok (.iushr, 1) := by decide +kernel
theorem dX1_second_4 : decode cX1_second 4 = .ok (.bipush 31, 2) := by decide +kernel
theorem dX1_second_6 : decode cX1_second 6 = .ok (.iand, 1) := by decide +kernel
theorem dX1_second_7 : decode cX1_second 7 = .ok (.ireturn, 1) := by decide +kernel
theorem dX1_third_0 : decode cX1_third 0 = .ok (.iload_n 0, 1) := by decide +kernel
theorem dX1_third_1 : decode cX1_third 1 = .ok (.bipush 11, 2) := by decide +kernel
theorem dX1_third_3 : decode cX1_third 3 = .ok (.iushr, 1) := by decide +kernel
theorem dX1_third_4 : decode cX1_third 4 = .ok (.bipush 31, 2) := by decide +kernel
theorem dX1_third_6 : decode cX1_third 6 = .ok (.iand, 1) := by decide +kernel
theorem dX1_third_7 : decode cX1_third 7 = .ok (.ireturn, 1) := by decide +kernel
theorem dX1_signed_0 : decode cX1_signed 0 = .ok (.iload_n 0, 1) := by decide +kernel
theorem dX1_signed_1 : decode cX1_signed 1 = .ok (.bipush 16, 2) := by decide +kernel
theorem dX1_signed_3 : decode cX1_signed 3 = .ok (.ishl, 1) := by decide +kernel
theorem dX1_signed_4 : decode cX1_signed 4 = .ok (.bipush 16, 2) := by decide +kernel
theorem dX1_signed_6 : decode cX1_signed 6 = .ok (.ishr, 1) := by decide +kernel
theorem dX1_signed_7 : decode cX1_signed 7 = .ok (.ireturn, 1) := by decide +kernel
theorem dX1_put_0 : decode cX1_put 0 = .ok (.aload_n 0, 1) := by decide +kernel
theorem dX1_put_1 : decode cX1_put 1 = .ok (.getfield 25, 3) := by decide +kernel
theorem dX1_put_4 : decode cX1_put 4 = .ok (.iload_n 1, 1) := by decide +kernel
theorem dX1_put_5 : decode cX1_put 5 = .ok (.iload_n 1, 1) := by decide +kernel
theorem dX1_put_6 : decode cX1_put 6 = .ok (.ifCond .ne 7, 3) := by decide +kernel
theorem dX1_put_9 : decode cX1_put 9 = .ok (.iconst 0, 1) := by decide +kernel
theorem dX1_put_10 : decode cX1_put 10 = .ok (.goto 4, 3) := by decide +kernel
theorem dX1_put_13 : decode cX1_put 13 = .ok (.iload_n 2, 1) := by decide +kernel
theorem dX1_put_14 : decode cX1_put 14 = .ok (.iastore, 1) := by decide +kernel
theorem dX1_put_15 : decode cX1_put 15 = .ok (.return_, 1) := by decide +kernel
theorem dX1_leads_0 : decode cX1_leads 0 = .ok (.iload_n 0, 1) := by decide +kernel
theorem dX1_leads_1 : decode cX1_leads 1 = .ok (.invokestatic 61, 3) := by decide +kernel
theorem dX1_leads_4 : decode cX1_leads 4 = .ok (.istore_n 1, 1) := by decide +kernel
theorem dX1_leads_5 : decode cX1_leads 5 = .ok (.iload_n 0, 1) := by decide +kernel
theorem dX1_leads_6 : decode cX1_leads 6 = .ok (.bipush 63, 2) := by decide +kernel
theorem dX1_leads_8 : decode cX1_leads 8 = .ok (.iand, 1) := by decide +kernel
theorem dX1_leads_9 : decode cX1_leads 9 = .ok (.istore_n 2, 1) := by decide +kernel
theorem dX1_leads_10 : decode cX1_leads 10 = .ok (.iload_n 0, 1) := by decide +kernel
theorem dX1_leads_11 : decode cX1_leads 11 = .ok (.invokestatic 65, 3) := by decide +kernel
theorem dX1_leads_14 : decode cX1_leads 14 = .ok (.istore_n 3, 1) := by decide +kernel
theorem dX1_leads_15 : decode cX1_leads 15 = .ok (.iload_n 1, 1) := by decide +kernel
theorem dX1_leads_16 : decode cX1_leads 16 = .ok (.ifCond .ne 15, 3) := by decide +kernel
theorem dX1_leads_19 : decode cX1_leads 19 = .ok (.iload_n 2, 1) := by decide +kernel
theorem dX1_leads_20 : decode cX1_leads 20 = .ok (.bipush 8, 2) := by decide +kernel
theorem dX1_leads_22 : decode cX1_leads 22 = .ok (.if_icmp .eq 46, 3) := by decide +kernel
theorem dX1_leads_25 : decode cX1_leads 25 = .ok (.iload_n 2, 1) := by decide +kernel
theorem dX1_leads_26 : decode cX1_leads 26 = .ok (.bipush 9, 2) := by decide +kernel
theorem dX1_leads_28 : decode cX1_leads 28 = .ok (.if_icmp .eq 40, 3) := by decide +kernel
theorem dX1_leads_31 : decode cX1_leads 31 = .ok (.iload_n 1, 1) := by decide +kernel
theorem dX1_leads_32 : decode cX1_leads 32 = .ok (.iconst 1, 1) := by decide +kernel
theorem dX1_leads_33 : decode cX1_leads 33 = .ok (.if_icmp .ne 24, 3) := by decide +kernel
theorem dX1_leads_36 : decode cX1_leads 36 = .ok (.iload_n 3, 1) := by decide +kernel
theorem dX1_leads_37 : decode cX1_leads 37 = .ok (.ifCond .eq 31, 3) := by decide +kernel
theorem dX1_leads_40 : decode cX1_leads 40 = .ok (.iload_n 3, 1) := by decide +kernel
theorem dX1_leads_41 : decode cX1_leads 41 = .ok (.iconst 1, 1) := by decide +kernel
theorem dX1_leads_42 : decode cX1_leads 42 = .ok (.if_icmp .eq 26, 3) := by decide +kernel
theorem dX1_leads_45 : decode cX1_leads 45 = .ok (.iload_n 3, 1) := by decide +kernel
theorem dX1_leads_46 : decode cX1_leads 46 = .ok (.bipush 16, 2) := by decide +kernel
theorem dX1_leads_48 : decode cX1_leads 48 = .ok (.if_icmp .eq 20, 3) := by decide +kernel
theorem dX1_leads_51 : decode cX1_leads 51 = .ok (.iload_n 3, 1) := by decide +kernel
theorem dX1_leads_52 : decode cX1_leads 52 = .ok (.bipush 17, 2) := by decide +kernel
theorem dX1_leads_54 : decode cX1_leads 54 = .ok (.if_icmp .eq 14, 3) := by decide +kernel
theorem dX1_leads_57 : decode cX1_leads 57 = .ok (.iload_n 1, 1) := by decide +kernel
theorem dX1_leads_58 : decode cX1_leads 58 = .ok (.iconst 2, 1) := by decide +kernel
theorem dX1_leads_59 : decode cX1_leads 59 = .ok (.if_icmp .lt 13, 3) := by decide +kernel
theorem dX1_leads_62 : decode cX1_leads 62 = .ok (.iload_n 1, 1) := by decide +kernel
theorem dX1_leads_63 : decode cX1_leads 63 = .ok (.bipush 7, 2) := by decide +kernel
theorem dX1_leads_65 : decode cX1_leads 65 = .ok (.if_icmp .gt 7, 3) := by decide +kernel
theorem dX1_leads_68 : decode cX1_leads 68 = .ok (.iconst 1, 1) := by decide +kernel
theorem dX1_leads_69 : decode cX1_leads 69 = .ok (.goto 4, 3) := by decide +kernel
theorem dX1_leads_72 : decode cX1_leads 72 = .ok (.iconst 0, 1) := by decide +kernel
theorem dX1_leads_73 : decode cX1_leads 73 = .ok (.ireturn, 1) := by decide +kernel
theorem dX1_calls_0 : decode cX1_calls 0 = .ok (.iload_n 0, 1) := by decide +kernel
theorem dX1_calls_1 : decode cX1_calls 1 = .ok (.invokestatic 61, 3) := by decide +kernel
theorem dX1_calls_4 : decode cX1_calls 4 = .ok (.ifCond .ne 25, 3) := by decide +kernel
theorem dX1_calls_7 : decode cX1_calls 7 = .ok (.iload_n 0, 1) := by decide +kernel
theorem dX1_calls_8 : decode cX1_calls 8 = .ok (.bipush 63, 2) := by decide +kernel
theorem dX1_calls_10 : decode cX1_calls 10 = .ok (.iand, 1) := by decide +kernel
theorem dX1_calls_11 : decode cX1_calls 11 = .ok (.bipush 12, 2) := by decide +kernel
theorem dX1_calls_13 : decode cX1_calls 13 = .ok (.if_icmp .eq 12, 3) := by decide +kernel
theorem dX1_calls_16 : decode cX1_calls 16 = .ok (.iload_n 0, 1) := by decide +kernel
theorem dX1_calls_17 : decode cX1_calls 17 = .ok (.bipush 63, 2) := by decide +kernel
theorem dX1_calls_19 : decode cX1_calls 19 = .ok (.iand, 1) := by decide +kernel
theorem dX1_calls_20 : decode cX1_calls 20 = .ok (.bipush 13, 2) := by decide +kernel
theorem dX1_calls_22 : decode cX1_calls 22 = .ok (.if_icmp .ne 7, 3) := by decide +kernel
theorem dX1_calls_25 : decode cX1_calls 25 = .ok (.iconst 1, 1) := by decide +kernel
theorem dX1_calls_26 : decode cX1_calls 26 = .ok (.goto 4, 3) := by decide +kernel
theorem dX1_calls_29 : decode cX1_calls 29 = .ok (.iconst 0, 1) := by decide +kernel
theorem dX1_calls_30 : decode cX1_calls 30 = .ok (.ireturn, 1) := by decide +kernel
