theorem dL_input_0 : decode cL_input 0 = .ok (.aload_n 2, 1) := by decide +kernel
theorem dL_input_1 : decode cL_input 1 = .ok (.iconst 0, 1) := by decide +kernel
theorem dL_input_2 : decode cL_input 2 = .ok (.aload_n 0, 1) := by decide +kernel
theorem dL_input_3 : decode cL_input 3 = .ok (.iload_n 1, 1) := by decide +kernel
theorem dL_input_4 : decode cL_input 4 = .ok (.invokevirtual 7, 3) := by decide +kernel
theorem dL_input_7 : decode cL_input 7 = .ok (.i2l, 1) := by decide +kernel
theorem dL_input_8 : decode cL_input 8 = .ok (.lastore, 1) := by decide +kernel
theorem dL_input_9 : decode cL_input 9 = .ok (.goto 9, 3) := by decide +kernel
theorem dL_input_12 : decode cL_input 12 = .ok (.astore_n 3, 1) := by decide +kernel
theorem dL_input_13 : decode cL_input 13 = .ok (.iconst 1, 1) := by decide +kernel
theorem dL_input_14 : decode cL_input 14 = .ok (.ireturn, 1) := by decide +kernel
theorem dL_input_15 : decode cL_input 15 = .ok (.astore_n 3, 1) := by decide +kernel
theorem dL_input_16 : decode cL_input 16 = .ok (.iconst 2, 1) := by decide +kernel
theorem dL_input_17 : decode cL_input 17 = .ok (.ireturn, 1) := by decide +kernel
theorem dL_input_18 : decode cL_input 18 = .ok (.iconst 0, 1) := by decide +kernel
theorem dL_input_19 : decode cL_input 19 = .ok (.ireturn, 1) := by decide +kernel
theorem dL_constant_0 : decode cL_constant 0 = .ok (.aload_n 2, 1) := by decide +kernel
theorem dL_constant_1 : decode cL_constant 1 = .ok (.iconst 0, 1) := by decide +kernel
theorem dL_constant_2 : decode cL_constant 2 = .ok (.aload_n 0, 1) := by decide +kernel
theorem dL_constant_3 : decode cL_constant 3 = .ok (.iload_n 1, 1) := by decide +kernel
theorem dL_constant_4 : decode cL_constant 4 = .ok (.invokevirtual 17, 3) := by decide +kernel
theorem dL_constant_7 : decode cL_constant 7 = .ok (.i2l, 1) := by decide +kernel
theorem dL_constant_8 : decode cL_constant 8 = .ok (.lastore, 1) := by decide +kernel
theorem dL_constant_9 : decode cL_constant 9 = .ok (.goto 6, 3) := by decide +kernel
theorem dL_constant_12 : decode cL_constant 12 = .ok (.astore_n 3, 1) := by decide +kernel
theorem dL_constant_13 : decode cL_constant 13 = .ok (.iconst 1, 1) := by decide +kernel
theorem dL_constant_14 : decode cL_constant 14 = .ok (.ireturn, 1) := by decide +kernel
theorem dL_constant_15 : decode cL_constant 15 = .ok (.iconst 0, 1) := by decide +kernel
theorem dL_constant_16 : decode cL_constant 16 = .ok (.ireturn, 1) := by decide +kernel
theorem dL_binary_0 : decode cL_binary 0 = .ok (.aload 4, 2) := by decide +kernel
theorem dL_binary_2 : decode cL_binary 2 = .ok (.iconst 0, 1) := by decide +kernel
theorem dL_binary_3 : decode cL_binary 3 = .ok (.aload_n 0, 1) := by decide +kernel
theorem dL_binary_4 : decode cL_binary 4 = .ok (.iload_n 1, 1) := by decide +kernel
theorem dL_binary_5 : decode cL_binary 5 = .ok (.iload_n 2, 1) := by decide +kernel
theorem dL_binary_6 : decode cL_binary 6 = .ok (.iload_n 3, 1) := by decide +kernel
theorem dL_binary_7 : decode cL_binary 7 = .ok (.invokevirtual 20, 3) := by decide +kernel
theorem dL_binary_10 : decode cL_binary 10 = .ok (.i2l, 1) := by decide +kernel
theorem dL_binary_11 : decode cL_binary 11 = .ok (.lastore, 1) := by decide +kernel
theorem dL_binary_12 : decode cL_binary 12 = .ok (.goto 15, 3) := by decide +kernel
theorem dL_binary_15 : decode cL_binary 15 = .ok (.astore 5, 2) := by decide +kernel
theorem dL_binary_17 : decode cL_binary 17 = .ok (.iconst 1, 1) := by decide +kernel
theorem dL_binary_18 : decode cL_binary 18 = .ok (.ireturn, 1) := by decide +kernel
theorem dL_binary_19 : decode cL_binary 19 = .ok (.astore 5, 2) := by decide +kernel
theorem dL_binary_21 : decode cL_binary 21 = .ok (.iconst 2, 1) := by decide +kernel
theorem dL_binary_22 : decode cL_binary 22 = .ok (.ireturn, 1) := by decide +kernel
theorem dL_binary_23 : decode cL_binary 23 = .ok (.astore 5, 2) := by decide +kernel
theorem dL_binary_25 : decode cL_binary 25 = .ok (.iconst 3, 1) := by decide +kernel
theorem dL_binary_26 : decode cL_binary 26 = .ok (.ireturn, 1) := by decide +kernel
theorem dL_binary_27 : decode cL_binary 27 = .ok (.iconst 0, 1) := by decide +kernel
theorem dL_binary_28 : decode cL_binary 28 = .ok (.ireturn, 1) := by decide +kernel
theorem dL_shift_0 : decode cL_shift 0 = .ok (.aload 4, 2) := by decide +kernel
theorem dL_shift_2 : decode cL_shift 2 = .ok (.iconst 0, 1) := by decide +kernel
theorem dL_shift_3 : decode cL_shift 3 = .ok (.aload_n 0, 1) := by decide +kernel
theorem dL_shift_4 : decode cL_shift 4 = .ok (.iload_n 1, 1) := by decide +kernel
theorem dL_shift_5 : decode cL_shift 5 = .ok (.iload_n 2, 1) := by decide +kernel
theorem dL_shift_6 : decode cL_shift 6 = .ok (.iload_n 3, 1) := by decide +kernel
theorem dL_shift_7 : decode cL_shift 7 = .ok (.invokevirtual 26, 3) := by decide +kernel
theorem dL_shift_10 : decode cL_shift 10 = .ok (.i2l, 1) := by decide +kernel
theorem dL_shift_11 : decode cL_shift 11 = .ok (.lastore, 1) := by decide +kernel
theorem dL_shift_12 : decode cL_shift 12 = .ok (.goto 15, 3) := by decide +kernel
theorem dL_shift_15 : decode cL_shift 15 = .ok (.astore 5, 2) := by decide +kernel
theorem dL_shift_17 : decode cL_shift 17 = .ok (.iconst 1, 1) := by decide +kernel
theorem dL_shift_18 : decode cL_shift 18 = .ok (.ireturn, 1) := by decide +kernel
theorem dL_shift_19 : decode cL_shift 19 = .ok (.astore 5, 2) := by decide +kernel
theorem dL_shift_21 : decode cL_shift 21 = .ok (.iconst 2, 1) := by decide +kernel
theorem dL_shift_22 : decode cL_shift 22 = .ok (.ireturn, 1) := by decide +kernel
theorem dL_shift_23 : decode cL_shift 23 = .ok (.astore 5, 2) := by decide +kernel
theorem dL_shift_25 : decode cL_shift 25 = .ok (.iconst 3, 1) := by decide +kernel
theorem dL_shift_26 : decode cL_shift 26 = .ok (.ireturn, 1) := by decide +kernel
theorem dL_shift_27 : decode cL_shift 27 = .ok (.iconst 0, 1) := by decide +kernel
theorem dL_shift_28 : decode cL_shift 28 = .ok (.ireturn, 1) := by decide +kernel
theorem dL_extend_0 : decode cL_extend 0 = .ok (.aload_n 3, 1) := by decide +kernel
theorem dL_extend_1 : decode cL_extend 1 = .ok (.iconst 0, 1) := by decide +kernel
theorem dL_extend_2 : decode cL_extend 2 = .ok (.aload_n 0, 1) := by decide +kernel
theorem dL_extend_3 : decode cL_extend 3 = .ok (.iload_n 1, 1) := by decide +kernel
theorem dL_extend_4 : decode cL_extend 4 = .ok (.iload_n 2, 1) := by decide +kernel
theorem dL_extend_5 : decode cL_extend 5 = .ok (.invokevirtual 29, 3) := by decide +kernel
theorem dL_extend_8 : decode cL_extend 8 = .ok (.i2l, 1) := by decide +kernel
theorem dL_extend_9 : decode cL_extend 9 = .ok (.lastore, 1) := by decide +kernel
theorem dL_extend_10 : decode cL_extend 10 = .ok (.goto 11, 3) := by decide +kernel
theorem dL_extend_13 : decode cL_extend 13 = .ok (.astore 4, 2) := by decide +kernel
theorem dL_extend_15 : decode cL_extend 15 = .ok (.iconst 1, 1) := by decide +kernel
theorem dL_extend_16 : decode cL_extend 16 = .ok (.ireturn, 1) := by decide +kernel
theorem dL_extend_17 : decode cL_extend 17 = .ok (.astore 4, 2) := by decide +kernel
theorem dL_extend_19 : decode cL_extend 19 = .ok (.iconst 2, 1) := by decide +kernel
theorem dL_extend_20 : decode cL_extend 20 = .ok (.ireturn, 1) := by decide +kernel
theorem dL_extend_21 : decode cL_extend 21 = .ok (.iconst 0, 1) := by decide +kernel
theorem dL_extend_22 : decode cL_extend 22 = .ok (.ireturn, 1) := by decide +kernel
theorem dL_loop_0 : decode cL_loop 0 = .ok (.aload_n 2, 1) := by decide +kernel
theorem dL_loop_1 : decode cL_loop 1 = .ok (.iconst 0, 1) := by decide +kernel
theorem dL_loop_2 : decode cL_loop 2 = .ok (.aload_n 0, 1) := by decide +kernel
theorem dL_loop_3 : decode cL_loop 3 = .ok (.iload_n 1, 1) := by decide +kernel
theorem dL_loop_4 : decode cL_loop 4 = .ok (.invokevirtual 33, 3) := by decide +kernel
theorem dL_loop_7 : decode cL_loop 7 = .ok (.i2l, 1) := by decide +kernel
theorem dL_loop_8 : decode cL_loop 8 = .ok (.lastore, 1) := by decide +kernel
theorem dL_loop_9 : decode cL_loop 9 = .ok (.goto 9, 3) := by decide +kernel
theorem dL_loop_12 : decode cL_loop 12 = .ok (.astore_n 3, 1) := by decide +kernel
theorem dL_loop_13 : decode cL_loop 13 = .ok (.iconst 1, 1) := by decide +kernel
theorem dL_loop_14 : decode cL_loop 14 = .ok (.ireturn, 1) := by decide +kernel
theorem dL_loop_15 : decode cL_loop 15 = .ok (.astore_n 3, 1) := by decide +kernel
theorem dL_loop_16 : decode cL_loop 16 = .ok (.iconst 2, 1) := by decide +kernel
theorem dL_loop_17 : decode cL_loop 17 = .ok (.ireturn, 1) := by decide +kernel
theorem dL_loop_18 : decode cL_loop 18 = .ok (.iconst 0, 1) := by decide +kernel
theorem dL_loop_19 : decode cL_loop 19 = .ok (.ireturn, 1) := by decide +kernel
theorem dL_back_0 : decode cL_back 0 = .ok (.aload_n 0, 1) := by decide +kernel
theorem dL_back_1 : decode cL_back 1 = .ok (.iload_n 1, 1) := by decide +kernel
theorem dL_back_2 : decode cL_back 2 = .ok (.iload_n 2, 1) := by decide +kernel
theorem dL_back_3 : decode cL_back 3 = .ok (.invokevirtual 36, 3) := by decide +kernel
theorem dL_back_6 : decode cL_back 6 = .ok (.goto 9, 3) := by decide +kernel
theorem dL_back_9 : decode cL_back 9 = .ok (.astore_n 3, 1) := by decide +kernel
theorem dL_back_10 : decode cL_back 10 = .ok (.iconst 1, 1) := by decide +kernel
theorem dL_back_11 : decode cL_back 11 = .ok (.ireturn, 1) := by decide +kernel
theorem dL_back_12 : decode cL_back 12 = .ok (.astore_n 3, 1) := by decide +kernel
theorem dL_back_13 : decode cL_back 13 = .ok (.iconst 2, 1) := by decide +kernel
theorem dL_back_14 : decode cL_back 14 = .ok (.ireturn, 1) := by decide +kernel
theorem dL_back_15 : decode cL_back 15 = .ok (.iconst 0, 1) := by decide +kernel
theorem dL_back_16 : decode cL_back 16 = .ok (.ireturn, 1) := by decide +kernel
theorem dL_result_0 : decode cL_result 0 = .ok (.aload_n 3, 1) := by decide +kernel
theorem dL_result_1 : decode cL_result 1 = .ok (.iconst 0, 1) := by decide +kernel
theorem dL_result_2 : decode cL_result 2 = .ok (.aload_n 0, 1) := by decide +kernel
theorem dL_result_3 : decode cL_result 3 = .ok (.iload_n 1, 1) := by decide +kernel
theorem dL_result_4 : decode cL_result 4 = .ok (.iload_n 2, 1) := by decide +kernel
theorem dL_result_5 : decode cL_result 5 = .ok (.invokevirtual 40, 3) := by decide +kernel
theorem dL_result_8 : decode cL_result 8 = .ok (.i2l, 1) := by decide +kernel
theorem dL_result_9 : decode cL_result 9 = .ok (.lastore, 1) := by decide +kernel
theorem dL_result_10 : decode cL_result 10 = .ok (.goto 11, 3) := by decide +kernel
theorem dL_result_13 : decode cL_result 13 = .ok (.astore 4, 2) := by decide +kernel
theorem dL_result_15 : decode cL_result 15 = .ok (.iconst 1, 1) := by decide +kernel
theorem dL_result_16 : decode cL_result 16 = .ok (.ireturn, 1) := by decide +kernel
theorem dL_result_17 : decode cL_result 17 = .ok (.astore 4, 2) := by decide +kernel
theorem dL_result_19 : decode cL_result 19 = .ok (.iconst 2, 1) := by decide +kernel
theorem dL_result_20 : decode cL_result 20 = .ok (.ireturn, 1) := by decide +kernel
theorem dL_result_21 : decode cL_result 21 = .ok (.iconst 0, 1) := by decide +kernel
theorem dL_result_22 : decode cL_result 22 = .ok (.ireturn, 1) := by decide +kernel
theorem dL_bits_0 : decode cL_bits 0 = .ok (.aload_n 3, 1) := by decide +kernel
theorem dL_bits_1 : decode cL_bits 1 = .ok (.iconst 0, 1) := by decide +kernel
theorem dL_bits_2 : decode cL_bits 2 = .ok (.aload_n 0, 1) := by decide +kernel
theorem dL_bits_3 : decode cL_bits 3 = .ok (.iload_n 1, 1) := by decide +kernel
theorem dL_bits_4 : decode cL_bits 4 = .ok (.iload_n 2, 1) := by decide +kernel
theorem dL_bits_5 : decode cL_bits 5 = .ok (.invokevirtual 44, 3) := by decide +kernel
theorem dL_bits_8 : decode cL_bits 8 = .ok (.i2l, 1) := by decide +kernel
theorem dL_bits_9 : decode cL_bits 9 = .ok (.lastore, 1) := by decide +kernel
theorem dL_bits_10 : decode cL_bits 10 = .ok (.goto 11, 3) := by decide +kernel
theorem dL_bits_13 : decode cL_bits 13 = .ok (.astore 4, 2) := by decide +kernel
theorem dL_bits_15 : decode cL_bits 15 = .ok (.iconst 1, 1) := by decide +kernel
theorem dL_bits_16 : decode cL_bits 16 = .ok (.ireturn, 1) := by decide +kernel
theorem dL_bits_17 : decode cL_bits 17 = .ok (.astore 4, 2) := by decide +kernel
theorem dL_bits_19 : decode cL_bits 19 = .ok (.iconst 2, 1) := by decide +kernel
theorem dL_bits_20 : decode cL_bits 20 = .ok (.ireturn, 1) := by decide +kernel
theorem dL_bits_21 : decode cL_bits 21 = .ok (.iconst 0, 1) := by decide +kernel
theorem dL_bits_22 : decode cL_bits 22 = .ok (.ireturn, 1) := by decide +kernel
theorem dL_replaced_0 : decode cL_replaced 0 = .ok (.aload_n 2, 1) := by decide +kernel
theorem dL_replaced_1 : decode cL_replaced 1 = .ok (.iconst 0, 1) := by decide +kernel
theorem dL_replaced_2 : decode cL_replaced 2 = .ok (.aload_n 0, 1) := by decide +kernel
theorem dL_replaced_3 : decode cL_replaced 3 = .ok (.iload_n 1, 1) := by decide +kernel
theorem dL_replaced_4 : decode cL_replaced 4 = .ok (.invokevirtual 47, 3) := by decide +kernel
theorem dL_replaced_7 : decode cL_replaced 7 = .ok (.i2l, 1) := by decide +kernel
theorem dL_replaced_8 : decode cL_replaced 8 = .ok (.lastore, 1) := by decide +kernel
theorem dL_replaced_9 : decode cL_replaced 9 = .ok (.goto 6, 3) := by decide +kernel
theorem dL_replaced_12 : decode cL_replaced 12 = .ok (.astore_n 3, 1) := by decide +kernel
theorem dL_replaced_13 : decode cL_replaced 13 = .ok (.iconst 1, 1) := by decide +kernel
theorem dL_replaced_14 : decode cL_replaced 14 = .ok (.ireturn, 1) := by decide +kernel
theorem dL_replaced_15 : decode cL_replaced 15 = .ok (.iconst 0, 1) := by decide +kernel
theorem dL_replaced_16 : decode cL_replaced 16 = .ok (.ireturn, 1) := by decide +kernel
theorem dL_run_0 : decode cL_run 0 = .ok (.aload 5, 2) := by decide +kernel
theorem dL_run_2 : decode cL_run 2 = .ok (.iconst 0, 1) := by decide +kernel
theorem dL_run_3 : decode cL_run 3 = .ok (.aload_n 0, 1) := by decide +kernel
theorem dL_run_4 : decode cL_run 4 = .ok (.iload_n 1, 1) := by decide +kernel
theorem dL_run_5 : decode cL_run 5 = .ok (.iload_n 2, 1) := by decide +kernel
theorem dL_run_6 : decode cL_run 6 = .ok (.iload_n 3, 1) := by decide +kernel
theorem dL_run_7 : decode cL_run 7 = .ok (.iload 4, 2) := by decide +kernel
theorem dL_run_9 : decode cL_run 9 = .ok (.invokevirtual 50, 3) := by decide +kernel
theorem dL_run_12 : decode cL_run 12 = .ok (.i2l, 1) := by decide +kernel
theorem dL_run_13 : decode cL_run 13 = .ok (.lastore, 1) := by decide +kernel
theorem dL_run_14 : decode cL_run 14 = .ok (.goto 7, 3) := by decide +kernel
theorem dL_run_17 : decode cL_run 17 = .ok (.astore 6, 2) := by decide +kernel
theorem dL_run_19 : decode cL_run 19 = .ok (.iconst 1, 1) := by decide +kernel
theorem dL_run_20 : decode cL_run 20 = .ok (.ireturn, 1) := by decide +kernel
theorem dL_run_21 : decode cL_run 21 = .ok (.iconst 0, 1) := by decide +kernel
theorem dL_run_22 : decode cL_run 22 = .ok (.ireturn, 1) := by decide +kernel
theorem dL_observed_0 : decode cL_observed 0 = .ok (.aload_n 3, 1) := by decide +kernel
theorem dL_observed_1 : decode cL_observed 1 = .ok (.iconst 0, 1) := by decide +kernel
theorem dL_observed_2 : decode cL_observed 2 = .ok (.aload_n 0, 1) := by decide +kernel
theorem dL_observed_3 : decode cL_observed 3 = .ok (.iload_n 1, 1) := by decide +kernel
theorem dL_observed_4 : decode cL_observed 4 = .ok (.iload_n 2, 1) := by decide +kernel
theorem dL_observed_5 : decode cL_observed 5 = .ok (.invokevirtual 54, 3) := by decide +kernel
theorem dL_observed_8 : decode cL_observed 8 = .ok (.i2l, 1) := by decide +kernel
theorem dL_observed_9 : decode cL_observed 9 = .ok (.lastore, 1) := by decide +kernel
theorem dL_observed_10 : decode cL_observed 10 = .ok (.goto 7, 3) := by decide +kernel
theorem dL_observed_13 : decode cL_observed 13 = .ok (.astore 4, 2) := by decide +kernel
theorem dL_observed_15 : decode cL_observed 15 = .ok (.iconst 1, 1) := by decide +kernel
theorem dL_observed_16 : decode cL_observed 16 = .ok (.ireturn, 1) := by decide +kernel
theorem dL_observed_17 : decode cL_observed 17 = .ok (.iconst 0, 1) := by decide +kernel
theorem dL_observed_18 : decode cL_observed 18 = .ok (.ireturn, 1) := by decide +kernel
theorem dL_value_0 : decode cL_value 0 = .ok (.aload_n 3, 1) := by decide +kernel
theorem dL_value_1 : decode cL_value 1 = .ok (.iconst 0, 1) := by decide +kernel
theorem dL_value_2 : decode cL_value 2 = .ok (.aload_n 0, 1) := by decide +kernel
theorem dL_value_3 : decode cL_value 3 = .ok (.iload_n 1, 1) := by decide +kernel
theorem dL_value_4 : decode cL_value 4 = .ok (.iload_n 2, 1) := by decide +kernel
theorem dL_value_5 : decode cL_value 5 = .ok (.invokevirtual 57, 3) := by decide +kernel
theorem dL_value_8 : decode cL_value 8 = .ok (.i2l, 1) := by decide +kernel
theorem dL_value_9 : decode cL_value 9 = .ok (.lastore, 1) := by decide +kernel
theorem dL_value_10 : decode cL_value 10 = .ok (.goto 7, 3) := by decide +kernel
theorem dL_value_13 : decode cL_value 13 = .ok (.astore 4, 2) := by decide +kernel
theorem dL_value_15 : decode cL_value 15 = .ok (.iconst 1, 1) := by decide +kernel
theorem dL_value_16 : decode cL_value 16 = .ok (.ireturn, 1) := by decide +kernel
theorem dL_value_17 : decode cL_value 17 = .ok (.iconst 0, 1) := by decide +kernel
theorem dL_value_18 : decode cL_value 18 = .ok (.ireturn, 1) := by decide +kernel
theorem dL_law_0 : decode cL_law 0 = .ok (.new 8, 3) := by decide +kernel
theorem dL_law_3 : decode cL_law 3 = .ok (.dup, 1) := by decide +kernel
theorem dL_law_4 : decode cL_law 4 = .ok (.invokespecial 60, 3) := by decide +kernel
theorem dL_law_7 : decode cL_law 7 = .ok (.astore_n 1, 1) := by decide +kernel
theorem dL_law_8 : decode cL_law 8 = .ok (.new 61, 3) := by decide +kernel
theorem dL_law_11 : decode cL_law 11 = .ok (.dup, 1) := by decide +kernel
theorem dL_law_12 : decode cL_law 12 = .ok (.invokespecial 63, 3) := by decide +kernel
theorem dL_law_15 : decode cL_law 15 = .ok (.astore_n 2, 1) := by decide +kernel
theorem dL_law_16 : decode cL_law 16 = .ok (.iconst 1, 1) := by decide +kernel
theorem dL_law_17 : decode cL_law 17 = .ok (.newarray .long, 2) := by decide +kernel
theorem dL_law_19 : decode cL_law 19 = .ok (.astore_n 3, 1) := by decide +kernel
theorem dL_law_20 : decode cL_law 20 = .ok (.iconst 0, 1) := by decide +kernel
theorem dL_law_21 : decode cL_law 21 = .ok (.istore 4, 2) := by decide +kernel
theorem dL_law_23 : decode cL_law 23 = .ok (.iload 4, 2) := by decide +kernel
theorem dL_law_25 : decode cL_law 25 = .ok (.aload_n 0, 1) := by decide +kernel
theorem dL_law_26 : decode cL_law 26 = .ok (.arraylength, 1) := by decide +kernel
theorem dL_law_27 : decode cL_law 27 = .ok (.iconst 5, 1) := by decide +kernel
theorem dL_law_28 : decode cL_law 28 = .ok (.isub, 1) := by decide +kernel
theorem dL_law_29 : decode cL_law 29 = .ok (.if_icmp .gt 1010, 3) := by decide +kernel
theorem dL_law_32 : decode cL_law 32 = .ok (.aload_n 0, 1) := by decide +kernel
theorem dL_law_33 : decode cL_law 33 = .ok (.iload 4, 2) := by decide +kernel
theorem dL_law_35 : decode cL_law 35 = .ok (.iaload, 1) := by decide +kernel
theorem dL_law_36 : decode cL_law 36 = .ok (.bipush 15, 2) := by decide +kernel
theorem dL_law_38 : decode cL_law 38 = .ok (.iand, 1) := by decide +kernel
theorem dL_law_39 : decode cL_law 39 = .ok (.tableswitch 994 0 13 #[69, 125, 181, 261, 341, 425, 481, 529, 597, 665, 721, 734, 826, 910], 69) := by decide +kernel
theorem dL_law_108 : decode cL_law 108 = .ok (.aload_n 1, 1) := by decide +kernel
theorem dL_law_109 : decode cL_law 109 = .ok (.aload_n 0, 1) := by decide +kernel
theorem dL_law_110 : decode cL_law 110 = .ok (.iload 4, 2) := by decide +kernel
theorem dL_law_112 : decode cL_law 112 = .ok (.iconst 1, 1) := by decide +kernel
theorem dL_law_113 : decode cL_law 113 = .ok (.iadd, 1) := by decide +kernel
theorem dL_law_114 : decode cL_law 114 = .ok (.iaload, 1) := by decide +kernel
theorem dL_law_115 : decode cL_law 115 = .ok (.aload_n 3, 1) := by decide +kernel
theorem dL_law_116 : decode cL_law 116 = .ok (.invokestatic 64, 3) := by decide +kernel
theorem dL_law_119 : decode cL_law 119 = .ok (.istore 5, 2) := by decide +kernel
theorem dL_law_121 : decode cL_law 121 = .ok (.aload_n 2, 1) := by decide +kernel
theorem dL_law_122 : decode cL_law 122 = .ok (.aload_n 0, 1) := by decide +kernel
theorem dL_law_123 : decode cL_law 123 = .ok (.iload 4, 2) := by decide +kernel
theorem dL_law_125 : decode cL_law 125 = .ok (.iconst 1, 1) := by decide +kernel
theorem dL_law_126 : decode cL_law 126 = .ok (.iadd, 1) := by decide +kernel
theorem dL_law_127 : decode cL_law 127 = .ok (.iaload, 1) := by decide +kernel
theorem dL_law_128 : decode cL_law 128 = .ok (.invokevirtual 69, 3) := by decide +kernel
theorem dL_law_131 : decode cL_law 131 = .ok (.istore 6, 2) := by decide +kernel
theorem dL_law_133 : decode cL_law 133 = .ok (.aload_n 2, 1) := by decide +kernel
theorem dL_law_134 : decode cL_law 134 = .ok (.invokevirtual 70, 3) := by decide +kernel
theorem dL_law_137 : decode cL_law 137 = .ok (.iload 5, 2) := by decide +kernel
theorem dL_law_139 : decode cL_law 139 = .ok (.if_icmp .eq 5, 3) := by decide +kernel
theorem dL_law_142 : decode cL_law 142 = .ok (.iconst 0, 1) := by decide +kernel
theorem dL_law_143 : decode cL_law 143 = .ok (.ireturn, 1) := by decide +kernel
theorem dL_law_144 : decode cL_law 144 = .ok (.iload 5, 2) := by decide +kernel
theorem dL_law_146 : decode cL_law 146 = .ok (.ifCond .ne 15, 3) := by decide +kernel
theorem dL_law_149 : decode cL_law 149 = .ok (.aload_n 3, 1) := by decide +kernel
theorem dL_law_150 : decode cL_law 150 = .ok (.iconst 0, 1) := by decide +kernel
theorem dL_law_151 : decode cL_law 151 = .ok (.laload, 1) := by decide +kernel
theorem dL_law_152 : decode cL_law 152 = .ok (.iload 6, 2) := by decide +kernel
theorem dL_law_154 : decode cL_law 154 = .ok (.i2l, 1) := by decide +kernel
theorem dL_law_155 : decode cL_law 155 = .ok (.lcmp, 1) := by decide +kernel
theorem dL_law_156 : decode cL_law 156 = .ok (.ifCond .eq 5, 3) := by decide +kernel
theorem dL_law_159 : decode cL_law 159 = .ok (.iconst 0, 1) := by decide +kernel
theorem dL_law_160 : decode cL_law 160 = .ok (.ireturn, 1) := by decide +kernel
theorem dL_law_161 : decode cL_law 161 = .ok (.goto 872, 3) := by decide +kernel
theorem dL_law_164 : decode cL_law 164 = .ok (.aload_n 1, 1) := by decide +kernel
theorem dL_law_165 : decode cL_law 165 = .ok (.aload_n 0, 1) := by decide +kernel
theorem dL_law_166 : decode cL_law 166 = .ok (.iload 4, 2) := by decide +kernel
theorem dL_law_168 : decode cL_law 168 = .ok (.iconst 1, 1) := by decide +kernel
theorem dL_law_169 : decode cL_law 169 = .ok (.iadd, 1) := by decide +kernel
theorem dL_law_170 : decode cL_law 170 = .ok (.iaload, 1) := by decide +kernel
theorem dL_law_171 : decode cL_law 171 = .ok (.aload_n 3, 1) := by decide +kernel
theorem dL_law_172 : decode cL_law 172 = .ok (.invokestatic 74, 3) := by decide +kernel
theorem dL_law_175 : decode cL_law 175 = .ok (.istore 5, 2) := by decide +kernel
theorem dL_law_177 : decode cL_law 177 = .ok (.aload_n 2, 1) := by decide +kernel
theorem dL_law_178 : decode cL_law 178 = .ok (.aload_n 0, 1) := by decide +kernel
theorem dL_law_179 : decode cL_law 179 = .ok (.iload 4, 2) := by decide +kernel
theorem dL_law_181 : decode cL_law 181 = .ok (.iconst 1, 1) := by decide +kernel
theorem dL_law_182 : decode cL_law 182 = .ok (.iadd, 1) := by decide +kernel
theorem dL_law_183 : decode cL_law 183 = .ok (.iaload, 1) := by decide +kernel
theorem dL_law_184 : decode cL_law 184 = .ok (.invokevirtual 76, 3) := by decide +kernel
theorem dL_law_187 : decode cL_law 187 = .ok (.istore 6, 2) := by decide +kernel
theorem dL_law_189 : decode cL_law 189 = .ok (.aload_n 2, 1) := by decide +kernel
theorem dL_law_190 : decode cL_law 190 = .ok (.invokevirtual 70, 3) := by decide +kernel
theorem dL_law_193 : decode cL_law 193 = .ok (.iload 5, 2) := by decide +kernel
theorem dL_law_195 : decode cL_law 195 = .ok (.if_icmp .eq 5, 3) := by decide +kernel
theorem dL_law_198 : decode cL_law 198 = .ok (.iconst 0, 1) := by decide +kernel
theorem dL_law_199 : decode cL_law 199 = .ok (.ireturn, 1) := by decide +kernel
theorem dL_law_200 : decode cL_law 200 = .ok (.iload 5, 2) := by decide +kernel
theorem dL_law_202 : decode cL_law 202 = .ok (.ifCond .ne 15, 3) := by decide +kernel
theorem dL_law_205 : decode cL_law 205 = .ok (.aload_n 3, 1) := by decide +kernel
theorem dL_law_206 : decode cL_law 206 = .ok (.iconst 0, 1) := by decide +kernel
theorem dL_law_207 : decode cL_law 207 = .ok (.laload, 1) := by decide +kernel
theorem dL_law_208 : decode cL_law 208 = .ok (.iload 6, 2) := by decide +kernel
theorem dL_law_210 : decode cL_law 210 = .ok (.i2l, 1) := by decide +kernel
theorem dL_law_211 : decode cL_law 211 = .ok (.lcmp, 1) := by decide +kernel
theorem dL_law_212 : decode cL_law 212 = .ok (.ifCond .eq 5, 3) := by decide +kernel
theorem dL_law_215 : decode cL_law 215 = .ok (.iconst 0, 1) := by decide +kernel
theorem dL_law_216 : decode cL_law 216 = .ok (.ireturn, 1) := by decide +kernel
theorem dL_law_217 : decode cL_law 217 = .ok (.goto 816, 3) := by decide +kernel
theorem dL_law_220 : decode cL_law 220 = .ok (.aload_n 1, 1) := by decide +kernel
theorem dL_law_221 : decode cL_law 221 = .ok (.aload_n 0, 1) := by decide +kernel
theorem dL_law_222 : decode cL_law 222 = .ok (.iload 4, 2) := by decide +kernel
theorem dL_law_224 : decode cL_law 224 = .ok (.iconst 1, 1) := by decide +kernel
theorem dL_law_225 : decode cL_law 225 = .ok (.iadd, 1) := by decide +kernel
theorem dL_law_226 : decode cL_law 226 = .ok (.iaload, 1) := by decide +kernel
theorem dL_law_227 : decode cL_law 227 = .ok (.aload_n 0, 1) := by decide +kernel
theorem dL_law_228 : decode cL_law 228 = .ok (.iload 4, 2) := by decide +kernel
theorem dL_law_230 : decode cL_law 230 = .ok (.iconst 2, 1) := by decide +kernel
theorem dL_law_231 : decode cL_law 231 = .ok (.iadd, 1) := by decide +kernel
theorem dL_law_232 : decode cL_law 232 = .ok (.iaload, 1) := by decide +kernel
theorem dL_law_233 : decode cL_law 233 = .ok (.aload_n 0, 1) := by decide +kernel
theorem dL_law_234 : decode cL_law 234 = .ok (.iload 4, 2) := by decide +kernel
theorem dL_law_236 : decode cL_law 236 = .ok (.iconst 3, 1) := by decide +kernel
theorem dL_law_237 : decode cL_law 237 = .ok (.iadd, 1) := by decide +kernel
theorem dL_law_238 : decode cL_law 238 = .ok (.iaload, 1) := by decide +kernel
theorem dL_law_239 : decode cL_law 239 = .ok (.aload_n 3, 1) := by decide +kernel
theorem dL_law_240 : decode cL_law 240 = .ok (.invokestatic 77, 3) := by decide +kernel
theorem dL_law_243 : decode cL_law 243 = .ok (.istore 5, 2) := by decide +kernel
theorem dL_law_245 : decode cL_law 245 = .ok (.aload_n 2, 1) := by decide +kernel
theorem dL_law_246 : decode cL_law 246 = .ok (.aload_n 0, 1) := by decide +kernel
theorem dL_law_247 : decode cL_law 247 = .ok (.iload 4, 2) := by decide +kernel
theorem dL_law_249 : decode cL_law 249 = .ok (.iconst 1, 1) := by decide +kernel
theorem dL_law_250 : decode cL_law 250 = .ok (.iadd, 1) := by decide +kernel
theorem dL_law_251 : decode cL_law 251 = .ok (.iaload, 1) := by decide +kernel
theorem dL_law_252 : decode cL_law 252 = .ok (.aload_n 0, 1) := by decide +kernel
theorem dL_law_253 : decode cL_law 253 = .ok (.iload 4, 2) := by decide +kernel
theorem dL_law_255 : decode cL_law 255 = .ok (.iconst 2, 1) := by decide +kernel
theorem dL_law_256 : decode cL_law 256 = .ok (.iadd, 1) := by decide +kernel
theorem dL_law_257 : decode cL_law 257 = .ok (.iaload, 1) := by decide +kernel
theorem dL_law_258 : decode cL_law 258 = .ok (.aload_n 0, 1) := by decide +kernel
theorem dL_law_259 : decode cL_law 259 = .ok (.iload 4, 2) := by decide +kernel
theorem dL_law_261 : decode cL_law 261 = .ok (.iconst 3, 1) := by decide +kernel
theorem dL_law_262 : decode cL_law 262 = .ok (.iadd, 1) := by decide +kernel
theorem dL_law_263 : decode cL_law 263 = .ok (.iaload, 1) := by decide +kernel
theorem dL_law_264 : decode cL_law 264 = .ok (.invokevirtual 80, 3) := by decide +kernel
theorem dL_law_267 : decode cL_law 267 = .ok (.istore 6, 2) := by decide +kernel
theorem dL_law_269 : decode cL_law 269 = .ok (.aload_n 2, 1) := by decide +kernel
theorem dL_law_270 : decode cL_law 270 = .ok (.invokevirtual 70, 3) := by decide +kernel
theorem dL_law_273 : decode cL_law 273 = .ok (.iload 5, 2) := by decide +kernel
theorem dL_law_275 : decode cL_law 275 = .ok (.if_icmp .eq 5, 3) := by decide +kernel
theorem dL_law_278 : decode cL_law 278 = .ok (.iconst 0, 1) := by decide +kernel
theorem dL_law_279 : decode cL_law 279 = .ok (.ireturn, 1) := by decide +kernel
theorem dL_law_280 : decode cL_law 280 = .ok (.iload 5, 2) := by decide +kernel
theorem dL_law_282 : decode cL_law 282 = .ok (.ifCond .ne 15, 3) := by decide +kernel
theorem dL_law_285 : decode cL_law 285 = .ok (.aload_n 3, 1) := by decide +kernel
theorem dL_law_286 : decode cL_law 286 = .ok (.iconst 0, 1) := by decide +kernel
theorem dL_law_287 : decode cL_law 287 = .ok (.laload, 1) := by decide +kernel
theorem dL_law_288 : decode cL_law 288 = .ok (.iload 6, 2) := by decide +kernel
theorem dL_law_290 : decode cL_law 290 = .ok (.i2l, 1) := by decide +kernel
theorem dL_law_291 : decode cL_law 291 = .ok (.lcmp, 1) := by decide +kernel
theorem dL_law_292 : decode cL_law 292 = .ok (.ifCond .eq 5, 3) := by decide +kernel
theorem dL_law_295 : decode cL_law 295 = .ok (.iconst 0, 1) := by decide +kernel
theorem dL_law_296 : decode cL_law 296 = .ok (.ireturn, 1) := by decide +kernel
theorem dL_law_297 : decode cL_law 297 = .ok (.goto 736, 3) := by decide +kernel
theorem dL_law_300 : decode cL_law 300 = .ok (.aload_n 1, 1) := by decide +kernel
theorem dL_law_301 : decode cL_law 301 = .ok (.aload_n 0, 1) := by decide +kernel
theorem dL_law_302 : decode cL_law 302 = .ok (.iload 4, 2) := by decide +kernel
theorem dL_law_304 : decode cL_law 304 = .ok (.iconst 1, 1) := by decide +kernel
theorem dL_law_305 : decode cL_law 305 = .ok (.iadd, 1) := by decide +kernel
theorem dL_law_306 : decode cL_law 306 = .ok (.iaload, 1) := by decide +kernel
theorem dL_law_307 : decode cL_law 307 = .ok (.aload_n 0, 1) := by decide +kernel
theorem dL_law_308 : decode cL_law 308 = .ok (.iload 4, 2) := by decide +kernel
theorem dL_law_310 : decode cL_law 310 = .ok (.iconst 2, 1) := by decide +kernel
theorem dL_law_311 : decode cL_law 311 = .ok (.iadd, 1) := by decide +kernel
theorem dL_law_312 : decode cL_law 312 = .ok (.iaload, 1) := by decide +kernel
theorem dL_law_313 : decode cL_law 313 = .ok (.aload_n 0, 1) := by decide +kernel
theorem dL_law_314 : decode cL_law 314 = .ok (.iload 4, 2) := by decide +kernel
theorem dL_law_316 : decode cL_law 316 = .ok (.iconst 3, 1) := by decide +kernel
theorem dL_law_317 : decode cL_law 317 = .ok (.iadd, 1) := by decide +kernel
theorem dL_law_318 : decode cL_law 318 = .ok (.iaload, 1) := by decide +kernel
theorem dL_law_319 : decode cL_law 319 = .ok (.aload_n 3, 1) := by decide +kernel
theorem dL_law_320 : decode cL_law 320 = .ok (.invokestatic 81, 3) := by decide +kernel
theorem dL_law_323 : decode cL_law 323 = .ok (.istore 5, 2) := by decide +kernel
theorem dL_law_325 : decode cL_law 325 = .ok (.aload_n 2, 1) := by decide +kernel
theorem dL_law_326 : decode cL_law 326 = .ok (.aload_n 0, 1) := by decide +kernel
theorem dL_law_327 : decode cL_law 327 = .ok (.iload 4, 2) := by decide +kernel
theorem dL_law_329 : decode cL_law 329 = .ok (.iconst 1, 1) := by decide +kernel
theorem dL_law_330 : decode cL_law 330 = .ok (.iadd, 1) := by decide +kernel
theorem dL_law_331 : decode cL_law 331 = .ok (.iaload, 1) := by decide +kernel
theorem dL_law_332 : decode cL_law 332 = .ok (.aload_n 0, 1) := by decide +kernel
theorem dL_law_333 : decode cL_law 333 = .ok (.iload 4, 2) := by decide +kernel
theorem dL_law_335 : decode cL_law 335 = .ok (.iconst 2, 1) := by decide +kernel
theorem dL_law_336 : decode cL_law 336 = .ok (.iadd, 1) := by decide +kernel
theorem dL_law_337 : decode cL_law 337 = .ok (.iaload, 1) := by decide +kernel
theorem dL_law_338 : decode cL_law 338 = .ok (.aload_n 0, 1) := by decide +kernel
theorem dL_law_339 : decode cL_law 339 = .ok (.iload 4, 2) := by decide +kernel
theorem dL_law_341 : decode cL_law 341 = .ok (.iconst 3, 1) := by decide +kernel
theorem dL_law_342 : decode cL_law 342 = .ok (.iadd, 1) := by decide +kernel
theorem dL_law_343 : decode cL_law 343 = .ok (.iaload, 1) := by decide +kernel
theorem dL_law_344 : decode cL_law 344 = .ok (.invokevirtual 83, 3) := by decide +kernel
theorem dL_law_347 : decode cL_law 347 = .ok (.istore 6, 2) := by decide +kernel
theorem dL_law_349 : decode cL_law 349 = .ok (.aload_n 2, 1) := by decide +kernel
theorem dL_law_350 : decode cL_law 350 = .ok (.invokevirtual 70, 3) := by decide +kernel
theorem dL_law_353 : decode cL_law 353 = .ok (.iload 5, 2) := by decide +kernel
theorem dL_law_355 : decode cL_law 355 = .ok (.if_icmp .eq 5, 3) := by decide +kernel
theorem dL_law_358 : decode cL_law 358 = .ok (.iconst 0, 1) := by decide +kernel
theorem dL_law_359 : decode cL_law 359 = .ok (.ireturn, 1) := by decide +kernel
theorem dL_law_360 : decode cL_law 360 = .ok (.iload 5, 2) := by decide +kernel
theorem dL_law_362 : decode cL_law 362 = .ok (.ifCond .ne 15, 3) := by decide +kernel
theorem dL_law_365 : decode cL_law 365 = .ok (.aload_n 3, 1) := by decide +kernel
theorem dL_law_366 : decode cL_law 366 = .ok (.iconst 0, 1) := by decide +kernel
theorem dL_law_367 : decode cL_law 367 = .ok (.laload, 1) := by decide +kernel
theorem dL_law_368 : decode cL_law 368 = .ok (.iload 6, 2) := by decide +kernel
theorem dL_law_370 : decode cL_law 370 = .ok (.i2l, 1) := by decide +kernel
theorem dL_law_371 : decode cL_law 371 = .ok (.lcmp, 1) := by decide +kernel
theorem dL_law_372 : decode cL_law 372 = .ok (.ifCond .eq 5, 3) := by decide +kernel
theorem dL_law_375 : decode cL_law 375 = .ok (.iconst 0, 1) := by decide +kernel
theorem dL_law_376 : decode cL_law 376 = .ok (.ireturn, 1) := by decide +kernel
theorem dL_law_377 : decode cL_law 377 = .ok (.goto 656, 3) := by decide +kernel
theorem dL_law_380 : decode cL_law 380 = .ok (.aload_n 1, 1) := by decide +kernel
theorem dL_law_381 : decode cL_law 381 = .ok (.aload_n 0, 1) := by decide +kernel
theorem dL_law_382 : decode cL_law 382 = .ok (.iload 4, 2) := by decide +kernel
theorem dL_law_384 : decode cL_law 384 = .ok (.iconst 1, 1) := by decide +kernel
theorem dL_law_385 : decode cL_law 385 = .ok (.iadd, 1) := by decide +kernel
theorem dL_law_386 : decode cL_law 386 = .ok (.iaload, 1) := by decide +kernel
theorem dL_law_387 : decode cL_law 387 = .ok (.aload_n 0, 1) := by decide +kernel
theorem dL_law_388 : decode cL_law 388 = .ok (.iload 4, 2) := by decide +kernel
theorem dL_law_390 : decode cL_law 390 = .ok (.iconst 2, 1) := by decide +kernel
theorem dL_law_391 : decode cL_law 391 = .ok (.iadd, 1) := by decide +kernel
theorem dL_law_392 : decode cL_law 392 = .ok (.iaload, 1) := by decide +kernel
theorem dL_law_393 : decode cL_law 393 = .ok (.ifCond .eq 7, 3) := by decide +kernel
theorem dL_law_396 : decode cL_law 396 = .ok (.iconst 1, 1) := by decide +kernel
theorem dL_law_397 : decode cL_law 397 = .ok (.goto 4, 3) := by decide +kernel
theorem dL_law_400 : decode cL_law 400 = .ok (.iconst 0, 1) := by decide +kernel
theorem dL_law_401 : decode cL_law 401 = .ok (.aload_n 3, 1) := by decide +kernel
theorem dL_law_402 : decode cL_law 402 = .ok (.invokestatic 84, 3) := by decide +kernel
theorem dL_law_405 : decode cL_law 405 = .ok (.istore 5, 2) := by decide +kernel
theorem dL_law_407 : decode cL_law 407 = .ok (.aload_n 2, 1) := by decide +kernel
theorem dL_law_408 : decode cL_law 408 = .ok (.aload_n 0, 1) := by decide +kernel
theorem dL_law_409 : decode cL_law 409 = .ok (.iload 4, 2) := by decide +kernel
theorem dL_law_411 : decode cL_law 411 = .ok (.iconst 1, 1) := by decide +kernel
theorem dL_law_412 : decode cL_law 412 = .ok (.iadd, 1) := by decide +kernel
theorem dL_law_413 : decode cL_law 413 = .ok (.iaload, 1) := by decide +kernel
theorem dL_law_414 : decode cL_law 414 = .ok (.aload_n 0, 1) := by decide +kernel
theorem dL_law_415 : decode cL_law 415 = .ok (.iload 4, 2) := by decide +kernel
theorem dL_law_417 : decode cL_law 417 = .ok (.iconst 2, 1) := by decide +kernel
theorem dL_law_418 : decode cL_law 418 = .ok (.iadd, 1) := by decide +kernel
theorem dL_law_419 : decode cL_law 419 = .ok (.iaload, 1) := by decide +kernel
theorem dL_law_420 : decode cL_law 420 = .ok (.ifCond .eq 7, 3) := by decide +kernel
theorem dL_law_423 : decode cL_law 423 = .ok (.iconst 1, 1) := by decide +kernel
theorem dL_law_424 : decode cL_law 424 = .ok (.goto 4, 3) := by decide +kernel
theorem dL_law_427 : decode cL_law 427 = .ok (.iconst 0, 1) := by decide +kernel
theorem dL_law_428 : decode cL_law 428 = .ok (.invokevirtual 87, 3) := by decide +kernel
theorem dL_law_431 : decode cL_law 431 = .ok (.istore 6, 2) := by decide +kernel
theorem dL_law_433 : decode cL_law 433 = .ok (.aload_n 2, 1) := by decide +kernel
theorem dL_law_434 : decode cL_law 434 = .ok (.invokevirtual 70, 3) := by decide +kernel
