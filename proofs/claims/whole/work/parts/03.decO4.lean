theorem dB_init_0 : decode cB_init 0 = .ok (.aload_n 0, 1) := by decide +kernel
theorem dB_init_1 : decode cB_init 1 = .ok (.invokespecial 3, 3) := by decide +kernel
theorem dB_init_4 : decode cB_init 4 = .ok (.aload_n 0, 1) := by decide +kernel
theorem dB_init_5 : decode cB_init 5 = .ok (.new 9, 3) := by decide +kernel
theorem dB_init_8 : decode cB_init 8 = .ok (.dup, 1) := by decide +kernel
theorem dB_init_9 : decode cB_init 9 = .ok (.invokespecial 11, 3) := by decide +kernel
theorem dB_init_12 : decode cB_init 12 = .ok (.putfield 12, 3) := by decide +kernel
theorem dB_init_15 : decode cB_init 15 = .ok (.aload_n 0, 1) := by decide +kernel
theorem dB_init_16 : decode cB_init 16 = .ok (.new 16, 3) := by decide +kernel
theorem dB_init_19 : decode cB_init 19 = .ok (.dup, 1) := by decide +kernel
theorem dB_init_20 : decode cB_init 20 = .ok (.invokespecial 18, 3) := by decide +kernel
theorem dB_init_23 : decode cB_init 23 = .ok (.putfield 19, 3) := by decide +kernel
theorem dB_init_26 : decode cB_init 26 = .ok (.aload_n 0, 1) := by decide +kernel
theorem dB_init_27 : decode cB_init 27 = .ok (.new 23, 3) := by decide +kernel
theorem dB_init_30 : decode cB_init 30 = .ok (.dup, 1) := by decide +kernel
theorem dB_init_31 : decode cB_init 31 = .ok (.invokespecial 25, 3) := by decide +kernel
theorem dB_init_34 : decode cB_init 34 = .ok (.putfield 26, 3) := by decide +kernel
theorem dB_init_37 : decode cB_init 37 = .ok (.aload_n 0, 1) := by decide +kernel
theorem dB_init_38 : decode cB_init 38 = .ok (.new 23, 3) := by decide +kernel
theorem dB_init_41 : decode cB_init 41 = .ok (.dup, 1) := by decide +kernel
theorem dB_init_42 : decode cB_init 42 = .ok (.invokespecial 25, 3) := by decide +kernel
theorem dB_init_45 : decode cB_init 45 = .ok (.putfield 30, 3) := by decide +kernel
theorem dB_init_48 : decode cB_init 48 = .ok (.aload_n 0, 1) := by decide +kernel
theorem dB_init_49 : decode cB_init 49 = .ok (.bipush 24, 2) := by decide +kernel
theorem dB_init_51 : decode cB_init 51 = .ok (.newarray .int, 2) := by decide +kernel
theorem dB_init_53 : decode cB_init 53 = .ok (.putfield 33, 3) := by decide +kernel
theorem dB_init_56 : decode cB_init 56 = .ok (.aload_n 0, 1) := by decide +kernel
theorem dB_init_57 : decode cB_init 57 = .ok (.bipush 24, 2) := by decide +kernel
theorem dB_init_59 : decode cB_init 59 = .ok (.newarray .int, 2) := by decide +kernel
theorem dB_init_61 : decode cB_init 61 = .ok (.putfield 37, 3) := by decide +kernel
theorem dB_init_64 : decode cB_init 64 = .ok (.aload_n 0, 1) := by decide +kernel
theorem dB_init_65 : decode cB_init 65 = .ok (.iconst 3, 1) := by decide +kernel
theorem dB_init_66 : decode cB_init 66 = .ok (.newarray .int, 2) := by decide +kernel
theorem dB_init_68 : decode cB_init 68 = .ok (.putfield 40, 3) := by decide +kernel
theorem dB_init_71 : decode cB_init 71 = .ok (.aload_n 0, 1) := by decide +kernel
theorem dB_init_72 : decode cB_init 72 = .ok (.new 43, 3) := by decide +kernel
theorem dB_init_75 : decode cB_init 75 = .ok (.dup, 1) := by decide +kernel
theorem dB_init_76 : decode cB_init 76 = .ok (.invokespecial 45, 3) := by decide +kernel
theorem dB_init_79 : decode cB_init 79 = .ok (.putfield 46, 3) := by decide +kernel
theorem dB_init_82 : decode cB_init 82 = .ok (.aload_n 0, 1) := by decide +kernel
theorem dB_init_83 : decode cB_init 83 = .ok (.new 43, 3) := by decide +kernel
theorem dB_init_86 : decode cB_init 86 = .ok (.dup, 1) := by decide +kernel
theorem dB_init_87 : decode cB_init 87 = .ok (.invokespecial 45, 3) := by decide +kernel
theorem dB_init_90 : decode cB_init 90 = .ok (.putfield 50, 3) := by decide +kernel
theorem dB_init_93 : decode cB_init 93 = .ok (.aload_n 0, 1) := by decide +kernel
theorem dB_init_94 : decode cB_init 94 = .ok (.getfield 37, 3) := by decide +kernel
theorem dB_init_97 : decode cB_init 97 = .ok (.iconst (-1), 1) := by decide +kernel
theorem dB_init_98 : decode cB_init 98 = .ok (.invokestatic 53, 3) := by decide +kernel
theorem dB_init_101 : decode cB_init 101 = .ok (.return_, 1) := by decide +kernel
theorem dB_input_0 : decode cB_input 0 = .ok (.iload_n 1, 1) := by decide +kernel
theorem dB_input_1 : decode cB_input 1 = .ok (.ifCond .lt 8, 3) := by decide +kernel
theorem dB_input_4 : decode cB_input 4 = .ok (.iload_n 1, 1) := by decide +kernel
theorem dB_input_5 : decode cB_input 5 = .ok (.iconst 3, 1) := by decide +kernel
theorem dB_input_6 : decode cB_input 6 = .ok (.if_icmp .lt 13, 3) := by decide +kernel
theorem dB_input_9 : decode cB_input 9 = .ok (.new 59, 3) := by decide +kernel
theorem dB_input_12 : decode cB_input 12 = .ok (.dup, 1) := by decide +kernel
theorem dB_input_13 : decode cB_input 13 = .ok (.ldc 61, 2) := by decide +kernel
theorem dB_input_15 : decode cB_input 15 = .ok (.invokespecial 63, 3) := by decide +kernel
theorem dB_input_18 : decode cB_input 18 = .ok (.athrow, 1) := by decide +kernel
theorem dB_input_19 : decode cB_input 19 = .ok (.aload_n 0, 1) := by decide +kernel
theorem dB_input_20 : decode cB_input 20 = .ok (.bipush 9, 2) := by decide +kernel
theorem dB_input_22 : decode cB_input 22 = .ok (.iconst 0, 1) := by decide +kernel
theorem dB_input_23 : decode cB_input 23 = .ok (.iconst 0, 1) := by decide +kernel
theorem dB_input_24 : decode cB_input 24 = .ok (.iload_n 1, 1) := by decide +kernel
theorem dB_input_25 : decode cB_input 25 = .ok (.invokevirtual 66, 3) := by decide +kernel
theorem dB_input_28 : decode cB_input 28 = .ok (.ireturn, 1) := by decide +kernel
theorem dB_constant_0 : decode cB_constant 0 = .ok (.aload_n 0, 1) := by decide +kernel
theorem dB_constant_1 : decode cB_constant 1 = .ok (.bipush 10, 2) := by decide +kernel
theorem dB_constant_3 : decode cB_constant 3 = .ok (.iconst 0, 1) := by decide +kernel
theorem dB_constant_4 : decode cB_constant 4 = .ok (.iconst 0, 1) := by decide +kernel
theorem dB_constant_5 : decode cB_constant 5 = .ok (.iload_n 1, 1) := by decide +kernel
theorem dB_constant_6 : decode cB_constant 6 = .ok (.invokevirtual 66, 3) := by decide +kernel
theorem dB_constant_9 : decode cB_constant 9 = .ok (.ireturn, 1) := by decide +kernel
theorem dB_binary_0 : decode cB_binary 0 = .ok (.iload_n 1, 1) := by decide +kernel
theorem dB_binary_1 : decode cB_binary 1 = .ok (.ifCond .lt 8, 3) := by decide +kernel
theorem dB_binary_4 : decode cB_binary 4 = .ok (.iload_n 1, 1) := by decide +kernel
theorem dB_binary_5 : decode cB_binary 5 = .ok (.iconst 5, 1) := by decide +kernel
theorem dB_binary_6 : decode cB_binary 6 = .ok (.if_icmp .le 13, 3) := by decide +kernel
theorem dB_binary_9 : decode cB_binary 9 = .ok (.new 59, 3) := by decide +kernel
theorem dB_binary_12 : decode cB_binary 12 = .ok (.dup, 1) := by decide +kernel
theorem dB_binary_13 : decode cB_binary 13 = .ok (.ldc 70, 2) := by decide +kernel
theorem dB_binary_15 : decode cB_binary 15 = .ok (.invokespecial 63, 3) := by decide +kernel
theorem dB_binary_18 : decode cB_binary 18 = .ok (.athrow, 1) := by decide +kernel
theorem dB_binary_19 : decode cB_binary 19 = .ok (.aload_n 0, 1) := by decide +kernel
theorem dB_binary_20 : decode cB_binary 20 = .ok (.iload_n 2, 1) := by decide +kernel
theorem dB_binary_21 : decode cB_binary 21 = .ok (.invokevirtual 72, 3) := by decide +kernel
theorem dB_binary_24 : decode cB_binary 24 = .ok (.aload_n 0, 1) := by decide +kernel
theorem dB_binary_25 : decode cB_binary 25 = .ok (.iload_n 3, 1) := by decide +kernel
theorem dB_binary_26 : decode cB_binary 26 = .ok (.invokevirtual 72, 3) := by decide +kernel
theorem dB_binary_29 : decode cB_binary 29 = .ok (.aload_n 0, 1) := by decide +kernel
theorem dB_binary_30 : decode cB_binary 30 = .ok (.iload_n 1, 1) := by decide +kernel
theorem dB_binary_31 : decode cB_binary 31 = .ok (.iload_n 2, 1) := by decide +kernel
theorem dB_binary_32 : decode cB_binary 32 = .ok (.iload_n 3, 1) := by decide +kernel
theorem dB_binary_33 : decode cB_binary 33 = .ok (.iconst 0, 1) := by decide +kernel
theorem dB_binary_34 : decode cB_binary 34 = .ok (.invokevirtual 66, 3) := by decide +kernel
theorem dB_binary_37 : decode cB_binary 37 = .ok (.ireturn, 1) := by decide +kernel
theorem dB_shift_0 : decode cB_shift 0 = .ok (.iload_n 1, 1) := by decide +kernel
theorem dB_shift_1 : decode cB_shift 1 = .ok (.ifCond .lt 8, 3) := by decide +kernel
theorem dB_shift_4 : decode cB_shift 4 = .ok (.iload_n 1, 1) := by decide +kernel
theorem dB_shift_5 : decode cB_shift 5 = .ok (.iconst 2, 1) := by decide +kernel
theorem dB_shift_6 : decode cB_shift 6 = .ok (.if_icmp .le 13, 3) := by decide +kernel
theorem dB_shift_9 : decode cB_shift 9 = .ok (.new 59, 3) := by decide +kernel
theorem dB_shift_12 : decode cB_shift 12 = .ok (.dup, 1) := by decide +kernel
theorem dB_shift_13 : decode cB_shift 13 = .ok (.ldc 76, 2) := by decide +kernel
theorem dB_shift_15 : decode cB_shift 15 = .ok (.invokespecial 63, 3) := by decide +kernel
theorem dB_shift_18 : decode cB_shift 18 = .ok (.athrow, 1) := by decide +kernel
theorem dB_shift_19 : decode cB_shift 19 = .ok (.iload_n 3, 1) := by decide +kernel
theorem dB_shift_20 : decode cB_shift 20 = .ok (.ifCond .lt 9, 3) := by decide +kernel
theorem dB_shift_23 : decode cB_shift 23 = .ok (.iload_n 3, 1) := by decide +kernel
theorem dB_shift_24 : decode cB_shift 24 = .ok (.bipush 31, 2) := by decide +kernel
theorem dB_shift_26 : decode cB_shift 26 = .ok (.if_icmp .le 13, 3) := by decide +kernel
theorem dB_shift_29 : decode cB_shift 29 = .ok (.new 59, 3) := by decide +kernel
theorem dB_shift_32 : decode cB_shift 32 = .ok (.dup, 1) := by decide +kernel
theorem dB_shift_33 : decode cB_shift 33 = .ok (.ldc 78, 2) := by decide +kernel
theorem dB_shift_35 : decode cB_shift 35 = .ok (.invokespecial 63, 3) := by decide +kernel
theorem dB_shift_38 : decode cB_shift 38 = .ok (.athrow, 1) := by decide +kernel
theorem dB_shift_39 : decode cB_shift 39 = .ok (.aload_n 0, 1) := by decide +kernel
theorem dB_shift_40 : decode cB_shift 40 = .ok (.iload_n 2, 1) := by decide +kernel
theorem dB_shift_41 : decode cB_shift 41 = .ok (.invokevirtual 72, 3) := by decide +kernel
theorem dB_shift_44 : decode cB_shift 44 = .ok (.aload_n 0, 1) := by decide +kernel
theorem dB_shift_45 : decode cB_shift 45 = .ok (.bipush 6, 2) := by decide +kernel
theorem dB_shift_47 : decode cB_shift 47 = .ok (.iload_n 1, 1) := by decide +kernel
theorem dB_shift_48 : decode cB_shift 48 = .ok (.iadd, 1) := by decide +kernel
theorem dB_shift_49 : decode cB_shift 49 = .ok (.iload_n 2, 1) := by decide +kernel
theorem dB_shift_50 : decode cB_shift 50 = .ok (.iconst 0, 1) := by decide +kernel
theorem dB_shift_51 : decode cB_shift 51 = .ok (.iload_n 3, 1) := by decide +kernel
theorem dB_shift_52 : decode cB_shift 52 = .ok (.invokevirtual 66, 3) := by decide +kernel
theorem dB_shift_55 : decode cB_shift 55 = .ok (.ireturn, 1) := by decide +kernel
theorem dB_extend_0 : decode cB_extend 0 = .ok (.aload_n 0, 1) := by decide +kernel
theorem dB_extend_1 : decode cB_extend 1 = .ok (.iload_n 1, 1) := by decide +kernel
theorem dB_extend_2 : decode cB_extend 2 = .ok (.invokevirtual 72, 3) := by decide +kernel
theorem dB_extend_5 : decode cB_extend 5 = .ok (.aload_n 0, 1) := by decide +kernel
theorem dB_extend_6 : decode cB_extend 6 = .ok (.iload_n 2, 1) := by decide +kernel
theorem dB_extend_7 : decode cB_extend 7 = .ok (.ifCond .eq 8, 3) := by decide +kernel
theorem dB_extend_10 : decode cB_extend 10 = .ok (.bipush 12, 2) := by decide +kernel
theorem dB_extend_12 : decode cB_extend 12 = .ok (.goto 5, 3) := by decide +kernel
theorem dB_extend_15 : decode cB_extend 15 = .ok (.bipush 11, 2) := by decide +kernel
theorem dB_extend_17 : decode cB_extend 17 = .ok (.iload_n 1, 1) := by decide +kernel
theorem dB_extend_18 : decode cB_extend 18 = .ok (.iconst 0, 1) := by decide +kernel
theorem dB_extend_19 : decode cB_extend 19 = .ok (.iconst 0, 1) := by decide +kernel
theorem dB_extend_20 : decode cB_extend 20 = .ok (.invokevirtual 66, 3) := by decide +kernel
theorem dB_extend_23 : decode cB_extend 23 = .ok (.ireturn, 1) := by decide +kernel
theorem dB_loop_0 : decode cB_loop 0 = .ok (.aload_n 0, 1) := by decide +kernel
theorem dB_loop_1 : decode cB_loop 1 = .ok (.iload_n 1, 1) := by decide +kernel
theorem dB_loop_2 : decode cB_loop 2 = .ok (.invokevirtual 72, 3) := by decide +kernel
theorem dB_loop_5 : decode cB_loop 5 = .ok (.aload_n 0, 1) := by decide +kernel
theorem dB_loop_6 : decode cB_loop 6 = .ok (.bipush 13, 2) := by decide +kernel
theorem dB_loop_8 : decode cB_loop 8 = .ok (.iload_n 1, 1) := by decide +kernel
theorem dB_loop_9 : decode cB_loop 9 = .ok (.aload_n 0, 1) := by decide +kernel
theorem dB_loop_10 : decode cB_loop 10 = .ok (.getfield 12, 3) := by decide +kernel
theorem dB_loop_13 : decode cB_loop 13 = .ok (.getfield 80, 3) := by decide +kernel
theorem dB_loop_16 : decode cB_loop 16 = .ok (.iconst 0, 1) := by decide +kernel
theorem dB_loop_17 : decode cB_loop 17 = .ok (.invokevirtual 66, 3) := by decide +kernel
theorem dB_loop_20 : decode cB_loop 20 = .ok (.ireturn, 1) := by decide +kernel
theorem dB_back_0 : decode cB_back 0 = .ok (.aload_n 0, 1) := by decide +kernel
theorem dB_back_1 : decode cB_back 1 = .ok (.iload_n 1, 1) := by decide +kernel
theorem dB_back_2 : decode cB_back 2 = .ok (.invokevirtual 72, 3) := by decide +kernel
theorem dB_back_5 : decode cB_back 5 = .ok (.aload_n 0, 1) := by decide +kernel
theorem dB_back_6 : decode cB_back 6 = .ok (.iload_n 2, 1) := by decide +kernel
theorem dB_back_7 : decode cB_back 7 = .ok (.invokevirtual 72, 3) := by decide +kernel
theorem dB_back_10 : decode cB_back 10 = .ok (.aload_n 0, 1) := by decide +kernel
theorem dB_back_11 : decode cB_back 11 = .ok (.getfield 12, 3) := by decide +kernel
theorem dB_back_14 : decode cB_back 14 = .ok (.getfield 84, 3) := by decide +kernel
theorem dB_back_17 : decode cB_back 17 = .ok (.iload_n 1, 1) := by decide +kernel
theorem dB_back_18 : decode cB_back 18 = .ok (.iaload, 1) := by decide +kernel
theorem dB_back_19 : decode cB_back 19 = .ok (.bipush 13, 2) := by decide +kernel
theorem dB_back_21 : decode cB_back 21 = .ok (.if_icmp .eq 13, 3) := by decide +kernel
theorem dB_back_24 : decode cB_back 24 = .ok (.new 59, 3) := by decide +kernel
theorem dB_back_27 : decode cB_back 27 = .ok (.dup, 1) := by decide +kernel
theorem dB_back_28 : decode cB_back 28 = .ok (.ldc 87, 2) := by decide +kernel
theorem dB_back_30 : decode cB_back 30 = .ok (.invokespecial 63, 3) := by decide +kernel
theorem dB_back_33 : decode cB_back 33 = .ok (.athrow, 1) := by decide +kernel
theorem dB_back_34 : decode cB_back 34 = .ok (.aload_n 0, 1) := by decide +kernel
theorem dB_back_35 : decode cB_back 35 = .ok (.getfield 12, 3) := by decide +kernel
theorem dB_back_38 : decode cB_back 38 = .ok (.getfield 89, 3) := by decide +kernel
theorem dB_back_41 : decode cB_back 41 = .ok (.iload_n 1, 1) := by decide +kernel
theorem dB_back_42 : decode cB_back 42 = .ok (.iload_n 2, 1) := by decide +kernel
theorem dB_back_43 : decode cB_back 43 = .ok (.iastore, 1) := by decide +kernel
theorem dB_back_44 : decode cB_back 44 = .ok (.aload_n 0, 1) := by decide +kernel
theorem dB_back_45 : decode cB_back 45 = .ok (.iconst 0, 1) := by decide +kernel
theorem dB_back_46 : decode cB_back 46 = .ok (.putfield 92, 3) := by decide +kernel
theorem dB_back_49 : decode cB_back 49 = .ok (.return_, 1) := by decide +kernel
theorem dB_result_0 : decode cB_result 0 = .ok (.aload_n 0, 1) := by decide +kernel
theorem dB_result_1 : decode cB_result 1 = .ok (.iload_n 1, 1) := by decide +kernel
theorem dB_result_2 : decode cB_result 2 = .ok (.invokevirtual 72, 3) := by decide +kernel
theorem dB_result_5 : decode cB_result 5 = .ok (.aload_n 0, 1) := by decide +kernel
theorem dB_result_6 : decode cB_result 6 = .ok (.getfield 12, 3) := by decide +kernel
theorem dB_result_9 : decode cB_result 9 = .ok (.getfield 96, 3) := by decide +kernel
theorem dB_result_12 : decode cB_result 12 = .ok (.iconst 4, 1) := by decide +kernel
theorem dB_result_13 : decode cB_result 13 = .ok (.if_icmp .lt 13, 3) := by decide +kernel
theorem dB_result_16 : decode cB_result 16 = .ok (.new 99, 3) := by decide +kernel
theorem dB_result_19 : decode cB_result 19 = .ok (.dup, 1) := by decide +kernel
theorem dB_result_20 : decode cB_result 20 = .ok (.ldc 101, 2) := by decide +kernel
theorem dB_result_22 : decode cB_result 22 = .ok (.invokespecial 103, 3) := by decide +kernel
theorem dB_result_25 : decode cB_result 25 = .ok (.athrow, 1) := by decide +kernel
theorem dB_result_26 : decode cB_result 26 = .ok (.aload_n 0, 1) := by decide +kernel
theorem dB_result_27 : decode cB_result 27 = .ok (.iconst 0, 1) := by decide +kernel
theorem dB_result_28 : decode cB_result 28 = .ok (.putfield 92, 3) := by decide +kernel
theorem dB_result_31 : decode cB_result 31 = .ok (.aload_n 0, 1) := by decide +kernel
theorem dB_result_32 : decode cB_result 32 = .ok (.getfield 12, 3) := by decide +kernel
theorem dB_result_35 : decode cB_result 35 = .ok (.iload_n 1, 1) := by decide +kernel
theorem dB_result_36 : decode cB_result 36 = .ok (.iload_n 2, 1) := by decide +kernel
theorem dB_result_37 : decode cB_result 37 = .ok (.invokevirtual 104, 3) := by decide +kernel
theorem dB_result_40 : decode cB_result 40 = .ok (.ireturn, 1) := by decide +kernel
theorem dB_bits_0 : decode cB_bits 0 = .ok (.aload_n 0, 1) := by decide +kernel
theorem dB_bits_1 : decode cB_bits 1 = .ok (.iload_n 1, 1) := by decide +kernel
theorem dB_bits_2 : decode cB_bits 2 = .ok (.invokevirtual 72, 3) := by decide +kernel
theorem dB_bits_5 : decode cB_bits 5 = .ok (.iload_n 2, 1) := by decide +kernel
theorem dB_bits_6 : decode cB_bits 6 = .ok (.ifCond .lt 8, 3) := by decide +kernel
theorem dB_bits_9 : decode cB_bits 9 = .ok (.iload_n 2, 1) := by decide +kernel
theorem dB_bits_10 : decode cB_bits 10 = .ok (.iconst 4, 1) := by decide +kernel
theorem dB_bits_11 : decode cB_bits 11 = .ok (.if_icmp .le 13, 3) := by decide +kernel
theorem dB_bits_14 : decode cB_bits 14 = .ok (.new 59, 3) := by decide +kernel
theorem dB_bits_17 : decode cB_bits 17 = .ok (.dup, 1) := by decide +kernel
theorem dB_bits_18 : decode cB_bits 18 = .ok (.ldc 108, 2) := by decide +kernel
theorem dB_bits_20 : decode cB_bits 20 = .ok (.invokespecial 63, 3) := by decide +kernel
theorem dB_bits_23 : decode cB_bits 23 = .ok (.athrow, 1) := by decide +kernel
theorem dB_bits_24 : decode cB_bits 24 = .ok (.aload_n 0, 1) := by decide +kernel
theorem dB_bits_25 : decode cB_bits 25 = .ok (.invokevirtual 110, 3) := by decide +kernel
theorem dB_bits_28 : decode cB_bits 28 = .ok (.iload_n 2, 1) := by decide +kernel
theorem dB_bits_29 : decode cB_bits 29 = .ok (.tableswitch 74 0 3 #[31, 41, 51, 61], 31) := by decide +kernel
theorem dB_bits_60 : decode cB_bits 60 = .ok (.aload_n 0, 1) := by decide +kernel
theorem dB_bits_61 : decode cB_bits 61 = .ok (.getfield 19, 3) := by decide +kernel
theorem dB_bits_64 : decode cB_bits 64 = .ok (.getfield 113, 3) := by decide +kernel
theorem dB_bits_67 : decode cB_bits 67 = .ok (.iload_n 1, 1) := by decide +kernel
theorem dB_bits_68 : decode cB_bits 68 = .ok (.iaload, 1) := by decide +kernel
theorem dB_bits_69 : decode cB_bits 69 = .ok (.ireturn, 1) := by decide +kernel
theorem dB_bits_70 : decode cB_bits 70 = .ok (.aload_n 0, 1) := by decide +kernel
theorem dB_bits_71 : decode cB_bits 71 = .ok (.getfield 19, 3) := by decide +kernel
theorem dB_bits_74 : decode cB_bits 74 = .ok (.getfield 116, 3) := by decide +kernel
theorem dB_bits_77 : decode cB_bits 77 = .ok (.iload_n 1, 1) := by decide +kernel
theorem dB_bits_78 : decode cB_bits 78 = .ok (.iaload, 1) := by decide +kernel
theorem dB_bits_79 : decode cB_bits 79 = .ok (.ireturn, 1) := by decide +kernel
theorem dB_bits_80 : decode cB_bits 80 = .ok (.aload_n 0, 1) := by decide +kernel
theorem dB_bits_81 : decode cB_bits 81 = .ok (.getfield 26, 3) := by decide +kernel
theorem dB_bits_84 : decode cB_bits 84 = .ok (.getfield 119, 3) := by decide +kernel
theorem dB_bits_87 : decode cB_bits 87 = .ok (.iload_n 1, 1) := by decide +kernel
theorem dB_bits_88 : decode cB_bits 88 = .ok (.iaload, 1) := by decide +kernel
theorem dB_bits_89 : decode cB_bits 89 = .ok (.ireturn, 1) := by decide +kernel
theorem dB_bits_90 : decode cB_bits 90 = .ok (.aload_n 0, 1) := by decide +kernel
theorem dB_bits_91 : decode cB_bits 91 = .ok (.getfield 26, 3) := by decide +kernel
theorem dB_bits_94 : decode cB_bits 94 = .ok (.getfield 119, 3) := by decide +kernel
theorem dB_bits_97 : decode cB_bits 97 = .ok (.iload_n 1, 1) := by decide +kernel
theorem dB_bits_98 : decode cB_bits 98 = .ok (.iaload, 1) := by decide +kernel
theorem dB_bits_99 : decode cB_bits 99 = .ok (.invokestatic 122, 3) := by decide +kernel
theorem dB_bits_102 : decode cB_bits 102 = .ok (.ireturn, 1) := by decide +kernel
theorem dB_bits_103 : decode cB_bits 103 = .ok (.aload_n 0, 1) := by decide +kernel
theorem dB_bits_104 : decode cB_bits 104 = .ok (.getfield 30, 3) := by decide +kernel
theorem dB_bits_107 : decode cB_bits 107 = .ok (.getfield 119, 3) := by decide +kernel
theorem dB_bits_110 : decode cB_bits 110 = .ok (.iload_n 1, 1) := by decide +kernel
theorem dB_bits_111 : decode cB_bits 111 = .ok (.iaload, 1) := by decide +kernel
theorem dB_bits_112 : decode cB_bits 112 = .ok (.ireturn, 1) := by decide +kernel
theorem dB_replaced_0 : decode cB_replaced 0 = .ok (.aload_n 0, 1) := by decide +kernel
theorem dB_replaced_1 : decode cB_replaced 1 = .ok (.iload_n 1, 1) := by decide +kernel
theorem dB_replaced_2 : decode cB_replaced 2 = .ok (.invokevirtual 72, 3) := by decide +kernel
theorem dB_replaced_5 : decode cB_replaced 5 = .ok (.aload_n 0, 1) := by decide +kernel
theorem dB_replaced_6 : decode cB_replaced 6 = .ok (.invokevirtual 110, 3) := by decide +kernel
theorem dB_replaced_9 : decode cB_replaced 9 = .ok (.aload_n 0, 1) := by decide +kernel
theorem dB_replaced_10 : decode cB_replaced 10 = .ok (.getfield 33, 3) := by decide +kernel
theorem dB_replaced_13 : decode cB_replaced 13 = .ok (.iload_n 1, 1) := by decide +kernel
theorem dB_replaced_14 : decode cB_replaced 14 = .ok (.iaload, 1) := by decide +kernel
theorem dB_replaced_15 : decode cB_replaced 15 = .ok (.ireturn, 1) := by decide +kernel
theorem dB_live_0 : decode cB_live 0 = .ok (.aload_n 0, 1) := by decide +kernel
theorem dB_live_1 : decode cB_live 1 = .ok (.invokevirtual 110, 3) := by decide +kernel
theorem dB_live_4 : decode cB_live 4 = .ok (.iconst 0, 1) := by decide +kernel
theorem dB_live_5 : decode cB_live 5 = .ok (.istore_n 1, 1) := by decide +kernel
theorem dB_live_6 : decode cB_live 6 = .ok (.iconst 0, 1) := by decide +kernel
theorem dB_live_7 : decode cB_live 7 = .ok (.istore_n 2, 1) := by decide +kernel
theorem dB_live_8 : decode cB_live 8 = .ok (.iload_n 2, 1) := by decide +kernel
theorem dB_live_9 : decode cB_live 9 = .ok (.aload_n 0, 1) := by decide +kernel
theorem dB_live_10 : decode cB_live 10 = .ok (.getfield 12, 3) := by decide +kernel
theorem dB_live_13 : decode cB_live 13 = .ok (.getfield 80, 3) := by decide +kernel
theorem dB_live_16 : decode cB_live 16 = .ok (.if_icmp .ge 24, 3) := by decide +kernel
theorem dB_live_19 : decode cB_live 19 = .ok (.aload_n 0, 1) := by decide +kernel
theorem dB_live_20 : decode cB_live 20 = .ok (.getfield 30, 3) := by decide +kernel
theorem dB_live_23 : decode cB_live 23 = .ok (.getfield 119, 3) := by decide +kernel
theorem dB_live_26 : decode cB_live 26 = .ok (.iload_n 2, 1) := by decide +kernel
theorem dB_live_27 : decode cB_live 27 = .ok (.iaload, 1) := by decide +kernel
theorem dB_live_28 : decode cB_live 28 = .ok (.ifCond .eq 6, 3) := by decide +kernel
theorem dB_live_31 : decode cB_live 31 = .ok (.iinc 1 1, 3) := by decide +kernel
theorem dB_live_34 : decode cB_live 34 = .ok (.iinc 2 1, 3) := by decide +kernel
theorem dB_live_37 : decode cB_live 37 = .ok (.goto (-29), 3) := by decide +kernel
theorem dB_live_40 : decode cB_live 40 = .ok (.iload_n 1, 1) := by decide +kernel
theorem dB_live_41 : decode cB_live 41 = .ok (.ireturn, 1) := by decide +kernel
theorem dB_run_0 : decode cB_run 0 = .ok (.iload_n 1, 1) := by decide +kernel
theorem dB_run_1 : decode cB_run 1 = .ok (.iconst 1, 1) := by decide +kernel
theorem dB_run_2 : decode cB_run 2 = .ok (.if_icmp .lt 9, 3) := by decide +kernel
theorem dB_run_5 : decode cB_run 5 = .ok (.iload_n 1, 1) := by decide +kernel
theorem dB_run_6 : decode cB_run 6 = .ok (.bipush 50, 2) := by decide +kernel
theorem dB_run_8 : decode cB_run 8 = .ok (.if_icmp .le 13, 3) := by decide +kernel
theorem dB_run_11 : decode cB_run 11 = .ok (.new 59, 3) := by decide +kernel
theorem dB_run_14 : decode cB_run 14 = .ok (.dup, 1) := by decide +kernel
theorem dB_run_15 : decode cB_run 15 = .ok (.ldc 126, 2) := by decide +kernel
theorem dB_run_17 : decode cB_run 17 = .ok (.invokespecial 63, 3) := by decide +kernel
theorem dB_run_20 : decode cB_run 20 = .ok (.athrow, 1) := by decide +kernel
theorem dB_run_21 : decode cB_run 21 = .ok (.aload_n 0, 1) := by decide +kernel
theorem dB_run_22 : decode cB_run 22 = .ok (.invokevirtual 110, 3) := by decide +kernel
theorem dB_run_25 : decode cB_run 25 = .ok (.aload_n 0, 1) := by decide +kernel
theorem dB_run_26 : decode cB_run 26 = .ok (.getfield 40, 3) := by decide +kernel
theorem dB_run_29 : decode cB_run 29 = .ok (.iconst 0, 1) := by decide +kernel
theorem dB_run_30 : decode cB_run 30 = .ok (.iload_n 2, 1) := by decide +kernel
theorem dB_run_31 : decode cB_run 31 = .ok (.iastore, 1) := by decide +kernel
theorem dB_run_32 : decode cB_run 32 = .ok (.aload_n 0, 1) := by decide +kernel
theorem dB_run_33 : decode cB_run 33 = .ok (.getfield 40, 3) := by decide +kernel
theorem dB_run_36 : decode cB_run 36 = .ok (.iconst 1, 1) := by decide +kernel
theorem dB_run_37 : decode cB_run 37 = .ok (.iload_n 3, 1) := by decide +kernel
theorem dB_run_38 : decode cB_run 38 = .ok (.iastore, 1) := by decide +kernel
theorem dB_run_39 : decode cB_run 39 = .ok (.aload_n 0, 1) := by decide +kernel
theorem dB_run_40 : decode cB_run 40 = .ok (.getfield 40, 3) := by decide +kernel
theorem dB_run_43 : decode cB_run 43 = .ok (.iconst 2, 1) := by decide +kernel
theorem dB_run_44 : decode cB_run 44 = .ok (.iload 4, 2) := by decide +kernel
theorem dB_run_46 : decode cB_run 46 = .ok (.iastore, 1) := by decide +kernel
theorem dB_run_47 : decode cB_run 47 = .ok (.aload_n 0, 1) := by decide +kernel
theorem dB_run_48 : decode cB_run 48 = .ok (.getfield 46, 3) := by decide +kernel
theorem dB_run_51 : decode cB_run 51 = .ok (.aload_n 0, 1) := by decide +kernel
theorem dB_run_52 : decode cB_run 52 = .ok (.getfield 12, 3) := by decide +kernel
theorem dB_run_55 : decode cB_run 55 = .ok (.aload_n 0, 1) := by decide +kernel
theorem dB_run_56 : decode cB_run 56 = .ok (.getfield 37, 3) := by decide +kernel
theorem dB_run_59 : decode cB_run 59 = .ok (.aload_n 0, 1) := by decide +kernel
theorem dB_run_60 : decode cB_run 60 = .ok (.getfield 19, 3) := by decide +kernel
theorem dB_run_63 : decode cB_run 63 = .ok (.getfield 116, 3) := by decide +kernel
theorem dB_run_66 : decode cB_run 66 = .ok (.aload_n 0, 1) := by decide +kernel
theorem dB_run_67 : decode cB_run 67 = .ok (.getfield 40, 3) := by decide +kernel
theorem dB_run_70 : decode cB_run 70 = .ok (.iload_n 1, 1) := by decide +kernel
theorem dB_run_71 : decode cB_run 71 = .ok (.invokevirtual 128, 3) := by decide +kernel
theorem dB_run_74 : decode cB_run 74 = .ok (.aload_n 0, 1) := by decide +kernel
theorem dB_run_75 : decode cB_run 75 = .ok (.getfield 50, 3) := by decide +kernel
theorem dB_run_78 : decode cB_run 78 = .ok (.aload_n 0, 1) := by decide +kernel
theorem dB_run_79 : decode cB_run 79 = .ok (.getfield 12, 3) := by decide +kernel
theorem dB_run_82 : decode cB_run 82 = .ok (.aload_n 0, 1) := by decide +kernel
theorem dB_run_83 : decode cB_run 83 = .ok (.getfield 33, 3) := by decide +kernel
theorem dB_run_86 : decode cB_run 86 = .ok (.aload_n 0, 1) := by decide +kernel
theorem dB_run_87 : decode cB_run 87 = .ok (.getfield 19, 3) := by decide +kernel
theorem dB_run_90 : decode cB_run 90 = .ok (.getfield 116, 3) := by decide +kernel
theorem dB_run_93 : decode cB_run 93 = .ok (.aload_n 0, 1) := by decide +kernel
theorem dB_run_94 : decode cB_run 94 = .ok (.getfield 40, 3) := by decide +kernel
theorem dB_run_97 : decode cB_run 97 = .ok (.iload_n 1, 1) := by decide +kernel
theorem dB_run_98 : decode cB_run 98 = .ok (.invokevirtual 128, 3) := by decide +kernel
theorem dB_run_101 : decode cB_run 101 = .ok (.aload_n 0, 1) := by decide +kernel
theorem dB_run_102 : decode cB_run 102 = .ok (.invokevirtual 132, 3) := by decide +kernel
theorem dB_run_105 : decode cB_run 105 = .ok (.ireturn, 1) := by decide +kernel
theorem dB_observed_0 : decode cB_observed 0 = .ok (.iload_n 1, 1) := by decide +kernel
theorem dB_observed_1 : decode cB_observed 1 = .ok (.ifCond .lt 14, 3) := by decide +kernel
theorem dB_observed_4 : decode cB_observed 4 = .ok (.iload_n 1, 1) := by decide +kernel
theorem dB_observed_5 : decode cB_observed 5 = .ok (.aload_n 0, 1) := by decide +kernel
theorem dB_observed_6 : decode cB_observed 6 = .ok (.getfield 12, 3) := by decide +kernel
theorem dB_observed_9 : decode cB_observed 9 = .ok (.getfield 96, 3) := by decide +kernel
theorem dB_observed_12 : decode cB_observed 12 = .ok (.if_icmp .lt 13, 3) := by decide +kernel
theorem dB_observed_15 : decode cB_observed 15 = .ok (.new 136, 3) := by decide +kernel
theorem dB_observed_18 : decode cB_observed 18 = .ok (.dup, 1) := by decide +kernel
theorem dB_observed_19 : decode cB_observed 19 = .ok (.ldc 138, 2) := by decide +kernel
theorem dB_observed_21 : decode cB_observed 21 = .ok (.invokespecial 140, 3) := by decide +kernel
theorem dB_observed_24 : decode cB_observed 24 = .ok (.athrow, 1) := by decide +kernel
theorem dB_observed_25 : decode cB_observed 25 = .ok (.iload_n 2, 1) := by decide +kernel
theorem dB_observed_26 : decode cB_observed 26 = .ok (.ifCond .eq 15, 3) := by decide +kernel
theorem dB_observed_29 : decode cB_observed 29 = .ok (.aload_n 0, 1) := by decide +kernel
theorem dB_observed_30 : decode cB_observed 30 = .ok (.getfield 50, 3) := by decide +kernel
theorem dB_observed_33 : decode cB_observed 33 = .ok (.getfield 141, 3) := by decide +kernel
theorem dB_observed_36 : decode cB_observed 36 = .ok (.iload_n 1, 1) := by decide +kernel
theorem dB_observed_37 : decode cB_observed 37 = .ok (.iaload, 1) := by decide +kernel
theorem dB_observed_38 : decode cB_observed 38 = .ok (.goto 12, 3) := by decide +kernel
theorem dB_observed_41 : decode cB_observed 41 = .ok (.aload_n 0, 1) := by decide +kernel
theorem dB_observed_42 : decode cB_observed 42 = .ok (.getfield 46, 3) := by decide +kernel
theorem dB_observed_45 : decode cB_observed 45 = .ok (.getfield 141, 3) := by decide +kernel
theorem dB_observed_48 : decode cB_observed 48 = .ok (.iload_n 1, 1) := by decide +kernel
theorem dB_observed_49 : decode cB_observed 49 = .ok (.iaload, 1) := by decide +kernel
theorem dB_observed_50 : decode cB_observed 50 = .ok (.ireturn, 1) := by decide +kernel
theorem dB_value_0 : decode cB_value 0 = .ok (.aload_n 0, 1) := by decide +kernel
theorem dB_value_1 : decode cB_value 1 = .ok (.iload_n 1, 1) := by decide +kernel
theorem dB_value_2 : decode cB_value 2 = .ok (.invokevirtual 72, 3) := by decide +kernel
theorem dB_value_5 : decode cB_value 5 = .ok (.iload_n 2, 1) := by decide +kernel
theorem dB_value_6 : decode cB_value 6 = .ok (.ifCond .eq 15, 3) := by decide +kernel
theorem dB_value_9 : decode cB_value 9 = .ok (.aload_n 0, 1) := by decide +kernel
theorem dB_value_10 : decode cB_value 10 = .ok (.getfield 50, 3) := by decide +kernel
theorem dB_value_13 : decode cB_value 13 = .ok (.getfield 144, 3) := by decide +kernel
theorem dB_value_16 : decode cB_value 16 = .ok (.iload_n 1, 1) := by decide +kernel
theorem dB_value_17 : decode cB_value 17 = .ok (.iaload, 1) := by decide +kernel
theorem dB_value_18 : decode cB_value 18 = .ok (.goto 12, 3) := by decide +kernel
theorem dB_value_21 : decode cB_value 21 = .ok (.aload_n 0, 1) := by decide +kernel
theorem dB_value_22 : decode cB_value 22 = .ok (.getfield 46, 3) := by decide +kernel
theorem dB_value_25 : decode cB_value 25 = .ok (.getfield 144, 3) := by decide +kernel
theorem dB_value_28 : decode cB_value 28 = .ok (.iload_n 1, 1) := by decide +kernel
theorem dB_value_29 : decode cB_value 29 = .ok (.iaload, 1) := by decide +kernel
theorem dB_value_30 : decode cB_value 30 = .ok (.ireturn, 1) := by decide +kernel
theorem dB_requireValue_0 : decode cB_requireValue 0 = .ok (.iload_n 1, 1) := by decide +kernel
theorem dB_requireValue_1 : decode cB_requireValue 1 = .ok (.ifCond .lt 14, 3) := by decide +kernel
theorem dB_requireValue_4 : decode cB_requireValue 4 = .ok (.iload_n 1, 1) := by decide +kernel
theorem dB_requireValue_5 : decode cB_requireValue 5 = .ok (.aload_n 0, 1) := by decide +kernel
theorem dB_requireValue_6 : decode cB_requireValue 6 = .ok (.getfield 12, 3) := by decide +kernel
theorem dB_requireValue_9 : decode cB_requireValue 9 = .ok (.getfield 80, 3) := by decide +kernel
theorem dB_requireValue_12 : decode cB_requireValue 12 = .ok (.if_icmp .lt 13, 3) := by decide +kernel
theorem dB_requireValue_15 : decode cB_requireValue 15 = .ok (.new 136, 3) := by decide +kernel
theorem dB_requireValue_18 : decode cB_requireValue 18 = .ok (.dup, 1) := by decide +kernel
theorem dB_requireValue_19 : decode cB_requireValue 19 = .ok (.ldc 147, 2) := by decide +kernel
theorem dB_requireValue_21 : decode cB_requireValue 21 = .ok (.invokespecial 140, 3) := by decide +kernel
theorem dB_requireValue_24 : decode cB_requireValue 24 = .ok (.athrow, 1) := by decide +kernel
theorem dB_requireValue_25 : decode cB_requireValue 25 = .ok (.return_, 1) := by decide +kernel
theorem dB_append_0 : decode cB_append 0 = .ok (.aload_n 0, 1) := by decide +kernel
theorem dB_append_1 : decode cB_append 1 = .ok (.getfield 12, 3) := by decide +kernel
theorem dB_append_4 : decode cB_append 4 = .ok (.getfield 80, 3) := by decide +kernel
theorem dB_append_7 : decode cB_append 7 = .ok (.bipush 24, 2) := by decide +kernel
theorem dB_append_9 : decode cB_append 9 = .ok (.if_icmp .lt 13, 3) := by decide +kernel
theorem dB_append_12 : decode cB_append 12 = .ok (.new 99, 3) := by decide +kernel
theorem dB_append_15 : decode cB_append 15 = .ok (.dup, 1) := by decide +kernel
theorem dB_append_16 : decode cB_append 16 = .ok (.ldc 149, 2) := by decide +kernel
theorem dB_append_18 : decode cB_append 18 = .ok (.invokespecial 103, 3) := by decide +kernel
theorem dB_append_21 : decode cB_append 21 = .ok (.athrow, 1) := by decide +kernel
theorem dB_append_22 : decode cB_append 22 = .ok (.aload_n 0, 1) := by decide +kernel
theorem dB_append_23 : decode cB_append 23 = .ok (.iconst 0, 1) := by decide +kernel
theorem dB_append_24 : decode cB_append 24 = .ok (.putfield 92, 3) := by decide +kernel
theorem dB_append_27 : decode cB_append 27 = .ok (.aload_n 0, 1) := by decide +kernel
theorem dB_append_28 : decode cB_append 28 = .ok (.getfield 12, 3) := by decide +kernel
theorem dB_append_31 : decode cB_append 31 = .ok (.iload_n 1, 1) := by decide +kernel
theorem dB_append_32 : decode cB_append 32 = .ok (.iload_n 2, 1) := by decide +kernel
theorem dB_append_33 : decode cB_append 33 = .ok (.iload_n 3, 1) := by decide +kernel
theorem dB_append_34 : decode cB_append 34 = .ok (.iload 4, 2) := by decide +kernel
theorem dB_append_36 : decode cB_append 36 = .ok (.invokevirtual 151, 3) := by decide +kernel
theorem dB_append_39 : decode cB_append 39 = .ok (.ireturn, 1) := by decide +kernel
theorem dB_analyse_0 : decode cB_analyse 0 = .ok (.aload_n 0, 1) := by decide +kernel
theorem dB_analyse_1 : decode cB_analyse 1 = .ok (.getfield 92, 3) := by decide +kernel
theorem dB_analyse_4 : decode cB_analyse 4 = .ok (.ifCond .eq 4, 3) := by decide +kernel
theorem dB_analyse_7 : decode cB_analyse 7 = .ok (.return_, 1) := by decide +kernel
theorem dB_analyse_8 : decode cB_analyse 8 = .ok (.aload_n 0, 1) := by decide +kernel
theorem dB_analyse_9 : decode cB_analyse 9 = .ok (.getfield 19, 3) := by decide +kernel
theorem dB_analyse_12 : decode cB_analyse 12 = .ok (.aload_n 0, 1) := by decide +kernel
theorem dB_analyse_13 : decode cB_analyse 13 = .ok (.getfield 12, 3) := by decide +kernel
theorem dB_analyse_16 : decode cB_analyse 16 = .ok (.invokevirtual 154, 3) := by decide +kernel
theorem dB_analyse_19 : decode cB_analyse 19 = .ok (.aload_n 0, 1) := by decide +kernel
theorem dB_analyse_20 : decode cB_analyse 20 = .ok (.getfield 26, 3) := by decide +kernel
theorem dB_analyse_23 : decode cB_analyse 23 = .ok (.aload_n 0, 1) := by decide +kernel
theorem dB_analyse_24 : decode cB_analyse 24 = .ok (.getfield 12, 3) := by decide +kernel
theorem dB_analyse_27 : decode cB_analyse 27 = .ok (.aload_n 0, 1) := by decide +kernel
theorem dB_analyse_28 : decode cB_analyse 28 = .ok (.getfield 19, 3) := by decide +kernel
theorem dB_analyse_31 : decode cB_analyse 31 = .ok (.aload_n 0, 1) := by decide +kernel
theorem dB_analyse_32 : decode cB_analyse 32 = .ok (.getfield 37, 3) := by decide +kernel
theorem dB_analyse_35 : decode cB_analyse 35 = .ok (.invokevirtual 158, 3) := by decide +kernel
theorem dB_analyse_38 : decode cB_analyse 38 = .ok (.iconst 0, 1) := by decide +kernel
theorem dB_analyse_39 : decode cB_analyse 39 = .ok (.istore_n 1, 1) := by decide +kernel
theorem dB_analyse_40 : decode cB_analyse 40 = .ok (.iload_n 1, 1) := by decide +kernel
theorem dB_analyse_41 : decode cB_analyse 41 = .ok (.aload_n 0, 1) := by decide +kernel
theorem dB_analyse_42 : decode cB_analyse 42 = .ok (.getfield 12, 3) := by decide +kernel
theorem dB_analyse_45 : decode cB_analyse 45 = .ok (.getfield 80, 3) := by decide +kernel
theorem dB_analyse_48 : decode cB_analyse 48 = .ok (.if_icmp .ge 20, 3) := by decide +kernel
theorem dB_analyse_51 : decode cB_analyse 51 = .ok (.aload_n 0, 1) := by decide +kernel
theorem dB_analyse_52 : decode cB_analyse 52 = .ok (.getfield 33, 3) := by decide +kernel
theorem dB_analyse_55 : decode cB_analyse 55 = .ok (.iload_n 1, 1) := by decide +kernel
theorem dB_analyse_56 : decode cB_analyse 56 = .ok (.aload_n 0, 1) := by decide +kernel
theorem dB_analyse_57 : decode cB_analyse 57 = .ok (.iload_n 1, 1) := by decide +kernel
theorem dB_analyse_58 : decode cB_analyse 58 = .ok (.invokevirtual 161, 3) := by decide +kernel
theorem dB_analyse_61 : decode cB_analyse 61 = .ok (.iastore, 1) := by decide +kernel
theorem dB_analyse_62 : decode cB_analyse 62 = .ok (.iinc 1 1, 3) := by decide +kernel
theorem dB_analyse_65 : decode cB_analyse 65 = .ok (.goto (-25), 3) := by decide +kernel
theorem dB_analyse_68 : decode cB_analyse 68 = .ok (.aload_n 0, 1) := by decide +kernel
theorem dB_analyse_69 : decode cB_analyse 69 = .ok (.getfield 30, 3) := by decide +kernel
theorem dB_analyse_72 : decode cB_analyse 72 = .ok (.aload_n 0, 1) := by decide +kernel
theorem dB_analyse_73 : decode cB_analyse 73 = .ok (.getfield 12, 3) := by decide +kernel
theorem dB_analyse_76 : decode cB_analyse 76 = .ok (.aload_n 0, 1) := by decide +kernel
theorem dB_analyse_77 : decode cB_analyse 77 = .ok (.getfield 19, 3) := by decide +kernel
theorem dB_analyse_80 : decode cB_analyse 80 = .ok (.aload_n 0, 1) := by decide +kernel
theorem dB_analyse_81 : decode cB_analyse 81 = .ok (.getfield 33, 3) := by decide +kernel
theorem dB_analyse_84 : decode cB_analyse 84 = .ok (.invokevirtual 158, 3) := by decide +kernel
theorem dB_analyse_87 : decode cB_analyse 87 = .ok (.aload_n 0, 1) := by decide +kernel
theorem dB_analyse_88 : decode cB_analyse 88 = .ok (.iconst 1, 1) := by decide +kernel
theorem dB_analyse_89 : decode cB_analyse 89 = .ok (.putfield 92, 3) := by decide +kernel
theorem dB_analyse_92 : decode cB_analyse 92 = .ok (.return_, 1) := by decide +kernel
theorem dB_replacementOf_0 : decode cB_replacementOf 0 = .ok (.aload_n 0, 1) := by decide +kernel
theorem dB_replacementOf_1 : decode cB_replacementOf 1 = .ok (.getfield 12, 3) := by decide +kernel
theorem dB_replacementOf_4 : decode cB_replacementOf 4 = .ok (.getfield 84, 3) := by decide +kernel
theorem dB_replacementOf_7 : decode cB_replacementOf 7 = .ok (.iload_n 1, 1) := by decide +kernel
theorem dB_replacementOf_8 : decode cB_replacementOf 8 = .ok (.iaload, 1) := by decide +kernel
theorem dB_replacementOf_9 : decode cB_replacementOf 9 = .ok (.bipush 10, 2) := by decide +kernel
theorem dB_replacementOf_11 : decode cB_replacementOf 11 = .ok (.if_icmp .ne 5, 3) := by decide +kernel
theorem dB_replacementOf_14 : decode cB_replacementOf 14 = .ok (.iconst (-1), 1) := by decide +kernel
theorem dB_replacementOf_15 : decode cB_replacementOf 15 = .ok (.ireturn, 1) := by decide +kernel
theorem dB_replacementOf_16 : decode cB_replacementOf 16 = .ok (.aload_n 0, 1) := by decide +kernel
theorem dB_replacementOf_17 : decode cB_replacementOf 17 = .ok (.getfield 26, 3) := by decide +kernel
theorem dB_replacementOf_20 : decode cB_replacementOf 20 = .ok (.getfield 119, 3) := by decide +kernel
theorem dB_replacementOf_23 : decode cB_replacementOf 23 = .ok (.iload_n 1, 1) := by decide +kernel
theorem dB_replacementOf_24 : decode cB_replacementOf 24 = .ok (.iaload, 1) := by decide +kernel
theorem dB_replacementOf_25 : decode cB_replacementOf 25 = .ok (.istore_n 2, 1) := by decide +kernel
theorem dB_replacementOf_26 : decode cB_replacementOf 26 = .ok (.iload_n 2, 1) := by decide +kernel
theorem dB_replacementOf_27 : decode cB_replacementOf 27 = .ok (.aload_n 0, 1) := by decide +kernel
theorem dB_replacementOf_28 : decode cB_replacementOf 28 = .ok (.getfield 19, 3) := by decide +kernel
theorem dB_replacementOf_31 : decode cB_replacementOf 31 = .ok (.iload_n 1, 1) := by decide +kernel
theorem dB_replacementOf_32 : decode cB_replacementOf 32 = .ok (.invokevirtual 164, 3) := by decide +kernel
theorem dB_replacementOf_35 : decode cB_replacementOf 35 = .ok (.iconst (-1), 1) := by decide +kernel
theorem dB_replacementOf_36 : decode cB_replacementOf 36 = .ok (.ixor, 1) := by decide +kernel
theorem dB_replacementOf_37 : decode cB_replacementOf 37 = .ok (.iand, 1) := by decide +kernel
theorem dB_replacementOf_38 : decode cB_replacementOf 38 = .ok (.ifCond .ne 6, 3) := by decide +kernel
theorem dB_replacementOf_41 : decode cB_replacementOf 41 = .ok (.bipush (-2), 2) := by decide +kernel
theorem dB_replacementOf_43 : decode cB_replacementOf 43 = .ok (.ireturn, 1) := by decide +kernel
theorem dB_replacementOf_44 : decode cB_replacementOf 44 = .ok (.aload_n 0, 1) := by decide +kernel
theorem dB_replacementOf_45 : decode cB_replacementOf 45 = .ok (.iload_n 1, 1) := by decide +kernel
theorem dB_replacementOf_46 : decode cB_replacementOf 46 = .ok (.iload_n 2, 1) := by decide +kernel
theorem dB_replacementOf_47 : decode cB_replacementOf 47 = .ok (.invokevirtual 167, 3) := by decide +kernel
theorem dB_replacementOf_50 : decode cB_replacementOf 50 = .ok (.ifCond .eq 15, 3) := by decide +kernel
theorem dB_replacementOf_53 : decode cB_replacementOf 53 = .ok (.aload_n 0, 1) := by decide +kernel
theorem dB_replacementOf_54 : decode cB_replacementOf 54 = .ok (.getfield 12, 3) := by decide +kernel
theorem dB_replacementOf_57 : decode cB_replacementOf 57 = .ok (.getfield 171, 3) := by decide +kernel
theorem dB_replacementOf_60 : decode cB_replacementOf 60 = .ok (.iload_n 1, 1) := by decide +kernel
theorem dB_replacementOf_61 : decode cB_replacementOf 61 = .ok (.iaload, 1) := by decide +kernel
theorem dB_replacementOf_62 : decode cB_replacementOf 62 = .ok (.goto 4, 3) := by decide +kernel
theorem dB_replacementOf_65 : decode cB_replacementOf 65 = .ok (.iconst (-1), 1) := by decide +kernel
theorem dB_replacementOf_66 : decode cB_replacementOf 66 = .ok (.ireturn, 1) := by decide +kernel
theorem dB_hasBitsOfX_0 : decode cB_hasBitsOfX 0 = .ok (.aload_n 0, 1) := by decide +kernel
theorem dB_hasBitsOfX_1 : decode cB_hasBitsOfX 1 = .ok (.getfield 12, 3) := by decide +kernel
theorem dB_hasBitsOfX_4 : decode cB_hasBitsOfX 4 = .ok (.getfield 89, 3) := by decide +kernel
theorem dB_hasBitsOfX_7 : decode cB_hasBitsOfX 7 = .ok (.iload_n 1, 1) := by decide +kernel
theorem dB_hasBitsOfX_8 : decode cB_hasBitsOfX 8 = .ok (.iaload, 1) := by decide +kernel
theorem dB_hasBitsOfX_9 : decode cB_hasBitsOfX 9 = .ok (.istore_n 3, 1) := by decide +kernel
theorem dB_hasBitsOfX_10 : decode cB_hasBitsOfX 10 = .ok (.aload_n 0, 1) := by decide +kernel
theorem dB_hasBitsOfX_11 : decode cB_hasBitsOfX 11 = .ok (.getfield 12, 3) := by decide +kernel
theorem dB_hasBitsOfX_14 : decode cB_hasBitsOfX 14 = .ok (.getfield 84, 3) := by decide +kernel
theorem dB_hasBitsOfX_17 : decode cB_hasBitsOfX 17 = .ok (.iload_n 3, 1) := by decide +kernel
theorem dB_hasBitsOfX_18 : decode cB_hasBitsOfX 18 = .ok (.iaload, 1) := by decide +kernel
theorem dB_hasBitsOfX_19 : decode cB_hasBitsOfX 19 = .ok (.bipush 10, 2) := by decide +kernel
theorem dB_hasBitsOfX_21 : decode cB_hasBitsOfX 21 = .ok (.if_icmp .ne 7, 3) := by decide +kernel
theorem dB_hasBitsOfX_24 : decode cB_hasBitsOfX 24 = .ok (.iconst 1, 1) := by decide +kernel
theorem dB_hasBitsOfX_25 : decode cB_hasBitsOfX 25 = .ok (.goto 4, 3) := by decide +kernel
theorem dB_hasBitsOfX_28 : decode cB_hasBitsOfX 28 = .ok (.iconst 0, 1) := by decide +kernel
theorem dB_hasBitsOfX_29 : decode cB_hasBitsOfX 29 = .ok (.istore 4, 2) := by decide +kernel
theorem dB_hasBitsOfX_31 : decode cB_hasBitsOfX 31 = .ok (.aload_n 0, 1) := by decide +kernel
theorem dB_hasBitsOfX_32 : decode cB_hasBitsOfX 32 = .ok (.getfield 12, 3) := by decide +kernel
theorem dB_hasBitsOfX_35 : decode cB_hasBitsOfX 35 = .ok (.getfield 174, 3) := by decide +kernel
theorem dB_hasBitsOfX_38 : decode cB_hasBitsOfX 38 = .ok (.iload_n 3, 1) := by decide +kernel
theorem dB_hasBitsOfX_39 : decode cB_hasBitsOfX 39 = .ok (.iaload, 1) := by decide +kernel
theorem dB_hasBitsOfX_40 : decode cB_hasBitsOfX 40 = .ok (.istore 5, 2) := by decide +kernel
theorem dB_hasBitsOfX_42 : decode cB_hasBitsOfX 42 = .ok (.aload_n 0, 1) := by decide +kernel
theorem dB_hasBitsOfX_43 : decode cB_hasBitsOfX 43 = .ok (.getfield 12, 3) := by decide +kernel
theorem dB_hasBitsOfX_46 : decode cB_hasBitsOfX 46 = .ok (.getfield 84, 3) := by decide +kernel
theorem dB_hasBitsOfX_49 : decode cB_hasBitsOfX 49 = .ok (.iload_n 1, 1) := by decide +kernel
theorem dB_hasBitsOfX_50 : decode cB_hasBitsOfX 50 = .ok (.iaload, 1) := by decide +kernel
theorem dB_hasBitsOfX_51 : decode cB_hasBitsOfX 51 = .ok (.tableswitch 151 0 12 #[103, 103, 151, 65, 85, 103, 151, 151, 151, 151, 151, 124, 138], 65) := by decide +kernel
theorem dB_hasBitsOfX_116 : decode cB_hasBitsOfX 116 = .ok (.iload 4, 2) := by decide +kernel
theorem dB_hasBitsOfX_118 : decode cB_hasBitsOfX 118 = .ok (.ifCond .eq 16, 3) := by decide +kernel
theorem dB_hasBitsOfX_121 : decode cB_hasBitsOfX 121 = .ok (.iload_n 2, 1) := by decide +kernel
theorem dB_hasBitsOfX_122 : decode cB_hasBitsOfX 122 = .ok (.iload 5, 2) := by decide +kernel
theorem dB_hasBitsOfX_124 : decode cB_hasBitsOfX 124 = .ok (.iconst (-1), 1) := by decide +kernel
theorem dB_hasBitsOfX_125 : decode cB_hasBitsOfX 125 = .ok (.ixor, 1) := by decide +kernel
theorem dB_hasBitsOfX_126 : decode cB_hasBitsOfX 126 = .ok (.iand, 1) := by decide +kernel
theorem dB_hasBitsOfX_127 : decode cB_hasBitsOfX 127 = .ok (.ifCond .ne 7, 3) := by decide +kernel
theorem dB_hasBitsOfX_130 : decode cB_hasBitsOfX 130 = .ok (.iconst 1, 1) := by decide +kernel
theorem dB_hasBitsOfX_131 : decode cB_hasBitsOfX 131 = .ok (.goto 4, 3) := by decide +kernel
theorem dB_hasBitsOfX_134 : decode cB_hasBitsOfX 134 = .ok (.iconst 0, 1) := by decide +kernel
theorem dB_hasBitsOfX_135 : decode cB_hasBitsOfX 135 = .ok (.ireturn, 1) := by decide +kernel
theorem dB_hasBitsOfX_136 : decode cB_hasBitsOfX 136 = .ok (.iload 4, 2) := by decide +kernel
theorem dB_hasBitsOfX_138 : decode cB_hasBitsOfX 138 = .ok (.ifCond .eq 14, 3) := by decide +kernel
theorem dB_hasBitsOfX_141 : decode cB_hasBitsOfX 141 = .ok (.iload_n 2, 1) := by decide +kernel
theorem dB_hasBitsOfX_142 : decode cB_hasBitsOfX 142 = .ok (.iload 5, 2) := by decide +kernel
theorem dB_hasBitsOfX_144 : decode cB_hasBitsOfX 144 = .ok (.iand, 1) := by decide +kernel
theorem dB_hasBitsOfX_145 : decode cB_hasBitsOfX 145 = .ok (.ifCond .ne 7, 3) := by decide +kernel
theorem dB_hasBitsOfX_148 : decode cB_hasBitsOfX 148 = .ok (.iconst 1, 1) := by decide +kernel
theorem dB_hasBitsOfX_149 : decode cB_hasBitsOfX 149 = .ok (.goto 4, 3) := by decide +kernel
theorem dB_hasBitsOfX_152 : decode cB_hasBitsOfX 152 = .ok (.iconst 0, 1) := by decide +kernel
theorem dB_hasBitsOfX_153 : decode cB_hasBitsOfX 153 = .ok (.ireturn, 1) := by decide +kernel
theorem dB_hasBitsOfX_154 : decode cB_hasBitsOfX 154 = .ok (.iload 4, 2) := by decide +kernel
theorem dB_hasBitsOfX_156 : decode cB_hasBitsOfX 156 = .ok (.ifCond .eq 17, 3) := by decide +kernel
theorem dB_hasBitsOfX_159 : decode cB_hasBitsOfX 159 = .ok (.iload_n 2, 1) := by decide +kernel
theorem dB_hasBitsOfX_160 : decode cB_hasBitsOfX 160 = .ok (.invokestatic 177, 3) := by decide +kernel
theorem dB_hasBitsOfX_163 : decode cB_hasBitsOfX 163 = .ok (.iload 5, 2) := by decide +kernel
theorem dB_hasBitsOfX_165 : decode cB_hasBitsOfX 165 = .ok (.iand, 1) := by decide +kernel
theorem dB_hasBitsOfX_166 : decode cB_hasBitsOfX 166 = .ok (.ifCond .ne 7, 3) := by decide +kernel
theorem dB_hasBitsOfX_169 : decode cB_hasBitsOfX 169 = .ok (.iconst 1, 1) := by decide +kernel
theorem dB_hasBitsOfX_170 : decode cB_hasBitsOfX 170 = .ok (.goto 4, 3) := by decide +kernel
theorem dB_hasBitsOfX_173 : decode cB_hasBitsOfX 173 = .ok (.iconst 0, 1) := by decide +kernel
theorem dB_hasBitsOfX_174 : decode cB_hasBitsOfX 174 = .ok (.ireturn, 1) := by decide +kernel
theorem dB_hasBitsOfX_175 : decode cB_hasBitsOfX 175 = .ok (.iload_n 2, 1) := by decide +kernel
theorem dB_hasBitsOfX_176 : decode cB_hasBitsOfX 176 = .ok (.sipush (-256), 3) := by decide +kernel
theorem dB_hasBitsOfX_179 : decode cB_hasBitsOfX 179 = .ok (.iand, 1) := by decide +kernel
theorem dB_hasBitsOfX_180 : decode cB_hasBitsOfX 180 = .ok (.ifCond .ne 7, 3) := by decide +kernel
theorem dB_hasBitsOfX_183 : decode cB_hasBitsOfX 183 = .ok (.iconst 1, 1) := by decide +kernel
theorem dB_hasBitsOfX_184 : decode cB_hasBitsOfX 184 = .ok (.goto 4, 3) := by decide +kernel
theorem dB_hasBitsOfX_187 : decode cB_hasBitsOfX 187 = .ok (.iconst 0, 1) := by decide +kernel
theorem dB_hasBitsOfX_188 : decode cB_hasBitsOfX 188 = .ok (.ireturn, 1) := by decide +kernel
theorem dB_hasBitsOfX_189 : decode cB_hasBitsOfX 189 = .ok (.iload_n 2, 1) := by decide +kernel
theorem dB_hasBitsOfX_190 : decode cB_hasBitsOfX 190 = .ok (.ldc 180, 2) := by decide +kernel
theorem dB_hasBitsOfX_192 : decode cB_hasBitsOfX 192 = .ok (.iand, 1) := by decide +kernel
theorem dB_hasBitsOfX_193 : decode cB_hasBitsOfX 193 = .ok (.ifCond .ne 7, 3) := by decide +kernel
theorem dB_hasBitsOfX_196 : decode cB_hasBitsOfX 196 = .ok (.iconst 1, 1) := by decide +kernel
theorem dB_hasBitsOfX_197 : decode cB_hasBitsOfX 197 = .ok (.goto 4, 3) := by decide +kernel
theorem dB_hasBitsOfX_200 : decode cB_hasBitsOfX 200 = .ok (.iconst 0, 1) := by decide +kernel
theorem dB_hasBitsOfX_201 : decode cB_hasBitsOfX 201 = .ok (.ireturn, 1) := by decide +kernel
theorem dB_hasBitsOfX_202 : decode cB_hasBitsOfX 202 = .ok (.iconst 0, 1) := by decide +kernel
theorem dB_hasBitsOfX_203 : decode cB_hasBitsOfX 203 = .ok (.ireturn, 1) := by decide +kernel
theorem dB_countDifferences_0 : decode cB_countDifferences 0 = .ok (.iconst 0, 1) := by decide +kernel
theorem dB_countDifferences_1 : decode cB_countDifferences 1 = .ok (.istore_n 1, 1) := by decide +kernel
theorem dB_countDifferences_2 : decode cB_countDifferences 2 = .ok (.iconst 0, 1) := by decide +kernel
theorem dB_countDifferences_3 : decode cB_countDifferences 3 = .ok (.istore_n 2, 1) := by decide +kernel
theorem dB_countDifferences_4 : decode cB_countDifferences 4 = .ok (.iload_n 2, 1) := by decide +kernel
theorem dB_countDifferences_5 : decode cB_countDifferences 5 = .ok (.aload_n 0, 1) := by decide +kernel
theorem dB_countDifferences_6 : decode cB_countDifferences 6 = .ok (.getfield 12, 3) := by decide +kernel
theorem dB_countDifferences_9 : decode cB_countDifferences 9 = .ok (.getfield 80, 3) := by decide +kernel
theorem dB_countDifferences_12 : decode cB_countDifferences 12 = .ok (.if_icmp .ge 33, 3) := by decide +kernel
theorem dB_countDifferences_15 : decode cB_countDifferences 15 = .ok (.aload_n 0, 1) := by decide +kernel
theorem dB_countDifferences_16 : decode cB_countDifferences 16 = .ok (.getfield 46, 3) := by decide +kernel
theorem dB_countDifferences_19 : decode cB_countDifferences 19 = .ok (.getfield 144, 3) := by decide +kernel
theorem dB_countDifferences_22 : decode cB_countDifferences 22 = .ok (.iload_n 2, 1) := by decide +kernel
theorem dB_countDifferences_23 : decode cB_countDifferences 23 = .ok (.iaload, 1) := by decide +kernel
theorem dB_countDifferences_24 : decode cB_countDifferences 24 = .ok (.aload_n 0, 1) := by decide +kernel
theorem dB_countDifferences_25 : decode cB_countDifferences 25 = .ok (.getfield 50, 3) := by decide +kernel
theorem dB_countDifferences_28 : decode cB_countDifferences 28 = .ok (.getfield 144, 3) := by decide +kernel
theorem dB_countDifferences_31 : decode cB_countDifferences 31 = .ok (.iload_n 2, 1) := by decide +kernel
theorem dB_countDifferences_32 : decode cB_countDifferences 32 = .ok (.iaload, 1) := by decide +kernel
theorem dB_countDifferences_33 : decode cB_countDifferences 33 = .ok (.if_icmp .eq 6, 3) := by decide +kernel
theorem dB_countDifferences_36 : decode cB_countDifferences 36 = .ok (.iinc 1 1, 3) := by decide +kernel
theorem dB_countDifferences_39 : decode cB_countDifferences 39 = .ok (.iinc 2 1, 3) := by decide +kernel
theorem dB_countDifferences_42 : decode cB_countDifferences 42 = .ok (.goto (-38), 3) := by decide +kernel
theorem dB_countDifferences_45 : decode cB_countDifferences 45 = .ok (.iload_n 1, 1) := by decide +kernel
theorem dB_countDifferences_46 : decode cB_countDifferences 46 = .ok (.ireturn, 1) := by decide +kernel
theorem dB_width_0 : decode cB_width 0 = .ok (.iload_n 0, 1) := by decide +kernel
theorem dB_width_1 : decode cB_width 1 = .ok (.sipush (-256), 3) := by decide +kernel
theorem dB_width_4 : decode cB_width 4 = .ok (.iand, 1) := by decide +kernel
theorem dB_width_5 : decode cB_width 5 = .ok (.ifCond .ne 6, 3) := by decide +kernel
theorem dB_width_8 : decode cB_width 8 = .ok (.bipush 8, 2) := by decide +kernel
theorem dB_width_10 : decode cB_width 10 = .ok (.ireturn, 1) := by decide +kernel
theorem dB_width_11 : decode cB_width 11 = .ok (.iload_n 0, 1) := by decide +kernel
theorem dB_width_12 : decode cB_width 12 = .ok (.ldc 180, 2) := by decide +kernel
theorem dB_width_14 : decode cB_width 14 = .ok (.iand, 1) := by decide +kernel
theorem dB_width_15 : decode cB_width 15 = .ok (.ifCond .ne 8, 3) := by decide +kernel
theorem dB_width_18 : decode cB_width 18 = .ok (.bipush 16, 2) := by decide +kernel
theorem dB_width_20 : decode cB_width 20 = .ok (.goto 5, 3) := by decide +kernel
theorem dB_width_23 : decode cB_width 23 = .ok (.bipush 32, 2) := by decide +kernel
theorem dB_width_25 : decode cB_width 25 = .ok (.ireturn, 1) := by decide +kernel
theorem dB_upTo_0 : decode cB_upTo 0 = .ok (.iload_n 0, 1) := by decide +kernel
theorem dB_upTo_1 : decode cB_upTo 1 = .ok (.ifCond .ne 7, 3) := by decide +kernel
theorem dB_upTo_4 : decode cB_upTo 4 = .ok (.iconst 0, 1) := by decide +kernel
theorem dB_upTo_5 : decode cB_upTo 5 = .ok (.goto 9, 3) := by decide +kernel
theorem dB_upTo_8 : decode cB_upTo 8 = .ok (.iconst (-1), 1) := by decide +kernel
theorem dB_upTo_9 : decode cB_upTo 9 = .ok (.iload_n 0, 1) := by decide +kernel
theorem dB_upTo_10 : decode cB_upTo 10 = .ok (.invokestatic 181, 3) := by decide +kernel
theorem dB_upTo_13 : decode cB_upTo 13 = .ok (.iushr, 1) := by decide +kernel
theorem dB_upTo_14 : decode cB_upTo 14 = .ok (.ireturn, 1) := by decide +kernel
theorem dB_lowest_0 : decode cB_lowest 0 = .ok (.iload_n 0, 1) := by decide +kernel
theorem dB_lowest_1 : decode cB_lowest 1 = .ok (.bipush 32, 2) := by decide +kernel
theorem dB_lowest_3 : decode cB_lowest 3 = .ok (.if_icmp .lt 7, 3) := by decide +kernel
theorem dB_lowest_6 : decode cB_lowest 6 = .ok (.iconst (-1), 1) := by decide +kernel
theorem dB_lowest_7 : decode cB_lowest 7 = .ok (.goto 8, 3) := by decide +kernel
theorem dB_lowest_10 : decode cB_lowest 10 = .ok (.iconst 1, 1) := by decide +kernel
theorem dB_lowest_11 : decode cB_lowest 11 = .ok (.iload_n 0, 1) := by decide +kernel
theorem dB_lowest_12 : decode cB_lowest 12 = .ok (.ishl, 1) := by decide +kernel
theorem dB_lowest_13 : decode cB_lowest 13 = .ok (.iconst 1, 1) := by decide +kernel
theorem dB_lowest_14 : decode cB_lowest 14 = .ok (.isub, 1) := by decide +kernel
theorem dB_lowest_15 : decode cB_lowest 15 = .ok (.ireturn, 1) := by decide +kernel
theorem dC_init_0 : decode cC_init 0 = .ok (.aload_n 0, 1) := by decide +kernel
theorem dC_init_1 : decode cC_init 1 = .ok (.invokespecial 3, 3) := by decide +kernel
theorem dC_init_4 : decode cC_init 4 = .ok (.aload_n 0, 1) := by decide +kernel
theorem dC_init_5 : decode cC_init 5 = .ok (.bipush 24, 2) := by decide +kernel
theorem dC_init_7 : decode cC_init 7 = .ok (.newarray .int, 2) := by decide +kernel
theorem dC_init_9 : decode cC_init 9 = .ok (.putfield 9, 3) := by decide +kernel
theorem dC_init_12 : decode cC_init 12 = .ok (.aload_n 0, 1) := by decide +kernel
theorem dC_init_13 : decode cC_init 13 = .ok (.iconst 4, 1) := by decide +kernel
theorem dC_init_14 : decode cC_init 14 = .ok (.newarray .int, 2) := by decide +kernel
theorem dC_init_16 : decode cC_init 16 = .ok (.putfield 15, 3) := by decide +kernel
theorem dC_init_19 : decode cC_init 19 = .ok (.aload_n 0, 1) := by decide +kernel
theorem dC_init_20 : decode cC_init 20 = .ok (.bipush 24, 2) := by decide +kernel
theorem dC_init_22 : decode cC_init 22 = .ok (.newarray .int, 2) := by decide +kernel
theorem dC_init_24 : decode cC_init 24 = .ok (.putfield 18, 3) := by decide +kernel
theorem dC_init_27 : decode cC_init 27 = .ok (.return_, 1) := by decide +kernel
theorem dC_follow_0 : decode cC_follow 0 = .ok (.iconst 0, 1) := by decide +kernel
theorem dC_follow_1 : decode cC_follow 1 = .ok (.istore 6, 2) := by decide +kernel
theorem dC_follow_3 : decode cC_follow 3 = .ok (.iload 6, 2) := by decide +kernel
theorem dC_follow_5 : decode cC_follow 5 = .ok (.iload 5, 2) := by decide +kernel
theorem dC_follow_7 : decode cC_follow 7 = .ok (.if_icmp .ge 198, 3) := by decide +kernel
theorem dC_follow_10 : decode cC_follow 10 = .ok (.aload_n 0, 1) := by decide +kernel
theorem dC_follow_11 : decode cC_follow 11 = .ok (.getfield 9, 3) := by decide +kernel
theorem dC_follow_14 : decode cC_follow 14 = .ok (.iconst 0, 1) := by decide +kernel
theorem dC_follow_15 : decode cC_follow 15 = .ok (.aload_n 0, 1) := by decide +kernel
theorem dC_follow_16 : decode cC_follow 16 = .ok (.getfield 18, 3) := by decide +kernel
theorem dC_follow_19 : decode cC_follow 19 = .ok (.iconst 0, 1) := by decide +kernel
theorem dC_follow_20 : decode cC_follow 20 = .ok (.aload_n 1, 1) := by decide +kernel
theorem dC_follow_21 : decode cC_follow 21 = .ok (.getfield 21, 3) := by decide +kernel
theorem dC_follow_24 : decode cC_follow 24 = .ok (.invokestatic 27, 3) := by decide +kernel
theorem dC_follow_27 : decode cC_follow 27 = .ok (.iconst 0, 1) := by decide +kernel
theorem dC_follow_28 : decode cC_follow 28 = .ok (.istore 7, 2) := by decide +kernel
theorem dC_follow_30 : decode cC_follow 30 = .ok (.iload 7, 2) := by decide +kernel
theorem dC_follow_32 : decode cC_follow 32 = .ok (.aload_n 1, 1) := by decide +kernel
theorem dC_follow_33 : decode cC_follow 33 = .ok (.getfield 21, 3) := by decide +kernel
theorem dC_follow_36 : decode cC_follow 36 = .ok (.if_icmp .ge 163, 3) := by decide +kernel
theorem dC_follow_39 : decode cC_follow 39 = .ok (.aload_n 2, 1) := by decide +kernel
theorem dC_follow_40 : decode cC_follow 40 = .ok (.iload 7, 2) := by decide +kernel
theorem dC_follow_42 : decode cC_follow 42 = .ok (.iaload, 1) := by decide +kernel
theorem dC_follow_43 : decode cC_follow 43 = .ok (.bipush (-2), 2) := by decide +kernel
theorem dC_follow_45 : decode cC_follow 45 = .ok (.if_icmp .ne 17, 3) := by decide +kernel
theorem dC_follow_48 : decode cC_follow 48 = .ok (.aload_n 0, 1) := by decide +kernel
theorem dC_follow_49 : decode cC_follow 49 = .ok (.getfield 9, 3) := by decide +kernel
theorem dC_follow_52 : decode cC_follow 52 = .ok (.iload 7, 2) := by decide +kernel
theorem dC_follow_54 : decode cC_follow 54 = .ok (.aload_n 3, 1) := by decide +kernel
theorem dC_follow_55 : decode cC_follow 55 = .ok (.iload 7, 2) := by decide +kernel
theorem dC_follow_57 : decode cC_follow 57 = .ok (.iaload, 1) := by decide +kernel
theorem dC_follow_58 : decode cC_follow 58 = .ok (.iastore, 1) := by decide +kernel
theorem dC_follow_59 : decode cC_follow 59 = .ok (.goto 134, 3) := by decide +kernel
theorem dC_follow_62 : decode cC_follow 62 = .ok (.aload_n 2, 1) := by decide +kernel
theorem dC_follow_63 : decode cC_follow 63 = .ok (.iload 7, 2) := by decide +kernel
theorem dC_follow_65 : decode cC_follow 65 = .ok (.iaload, 1) := by decide +kernel
theorem dC_follow_66 : decode cC_follow 66 = .ok (.iconst (-1), 1) := by decide +kernel
theorem dC_follow_67 : decode cC_follow 67 = .ok (.if_icmp .eq 22, 3) := by decide +kernel
theorem dC_follow_70 : decode cC_follow 70 = .ok (.aload_n 0, 1) := by decide +kernel
theorem dC_follow_71 : decode cC_follow 71 = .ok (.getfield 9, 3) := by decide +kernel
theorem dC_follow_74 : decode cC_follow 74 = .ok (.iload 7, 2) := by decide +kernel
theorem dC_follow_76 : decode cC_follow 76 = .ok (.aload_n 0, 1) := by decide +kernel
