theorem dM_init_0 : decode cM_init 0 = .ok (.aload_n 0, 1) := by decide +kernel
theorem dM_init_1 : decode cM_init 1 = .ok (.invokespecial 1, 3) := by decide +kernel
theorem dM_init_4 : decode cM_init 4 = .ok (.aload_n 0, 1) := by decide +kernel
theorem dM_init_5 : decode cM_init 5 = .ok (.bipush 24, 2) := by decide +kernel
theorem dM_init_7 : decode cM_init 7 = .ok (.newarray .int, 2) := by decide +kernel
theorem dM_init_9 : decode cM_init 9 = .ok (.putfield 7, 3) := by decide +kernel
theorem dM_init_12 : decode cM_init 12 = .ok (.aload_n 0, 1) := by decide +kernel
theorem dM_init_13 : decode cM_init 13 = .ok (.bipush 24, 2) := by decide +kernel
theorem dM_init_15 : decode cM_init 15 = .ok (.newarray .int, 2) := by decide +kernel
theorem dM_init_17 : decode cM_init 17 = .ok (.putfield 13, 3) := by decide +kernel
theorem dM_init_20 : decode cM_init 20 = .ok (.aload_n 0, 1) := by decide +kernel
theorem dM_init_21 : decode cM_init 21 = .ok (.bipush 24, 2) := by decide +kernel
theorem dM_init_23 : decode cM_init 23 = .ok (.newarray .int, 2) := by decide +kernel
theorem dM_init_25 : decode cM_init 25 = .ok (.putfield 16, 3) := by decide +kernel
theorem dM_init_28 : decode cM_init 28 = .ok (.aload_n 0, 1) := by decide +kernel
theorem dM_init_29 : decode cM_init 29 = .ok (.iconst 4, 1) := by decide +kernel
theorem dM_init_30 : decode cM_init 30 = .ok (.newarray .int, 2) := by decide +kernel
theorem dM_init_32 : decode cM_init 32 = .ok (.putfield 19, 3) := by decide +kernel
theorem dM_init_35 : decode cM_init 35 = .ok (.aload_n 0, 1) := by decide +kernel
theorem dM_init_36 : decode cM_init 36 = .ok (.iconst 4, 1) := by decide +kernel
theorem dM_init_37 : decode cM_init 37 = .ok (.newarray .int, 2) := by decide +kernel
theorem dM_init_39 : decode cM_init 39 = .ok (.putfield 22, 3) := by decide +kernel
theorem dM_init_42 : decode cM_init 42 = .ok (.aload_n 0, 1) := by decide +kernel
theorem dM_init_43 : decode cM_init 43 = .ok (.sipush 768, 3) := by decide +kernel
theorem dM_init_46 : decode cM_init 46 = .ok (.newarray .int, 2) := by decide +kernel
theorem dM_init_48 : decode cM_init 48 = .ok (.putfield 25, 3) := by decide +kernel
theorem dM_init_51 : decode cM_init 51 = .ok (.aload_n 0, 1) := by decide +kernel
theorem dM_init_52 : decode cM_init 52 = .ok (.sipush 768, 3) := by decide +kernel
theorem dM_init_55 : decode cM_init 55 = .ok (.newarray .boolean, 2) := by decide +kernel
theorem dM_init_57 : decode cM_init 57 = .ok (.putfield 28, 3) := by decide +kernel
theorem dM_init_60 : decode cM_init 60 = .ok (.aload_n 0, 1) := by decide +kernel
theorem dM_init_61 : decode cM_init 61 = .ok (.sipush 768, 3) := by decide +kernel
theorem dM_init_64 : decode cM_init 64 = .ok (.newarray .boolean, 2) := by decide +kernel
theorem dM_init_66 : decode cM_init 66 = .ok (.putfield 32, 3) := by decide +kernel
theorem dM_init_69 : decode cM_init 69 = .ok (.aload_n 0, 1) := by decide +kernel
theorem dM_init_70 : decode cM_init 70 = .ok (.bipush 24, 2) := by decide +kernel
theorem dM_init_72 : decode cM_init 72 = .ok (.newarray .int, 2) := by decide +kernel
theorem dM_init_74 : decode cM_init 74 = .ok (.putfield 35, 3) := by decide +kernel
theorem dM_init_77 : decode cM_init 77 = .ok (.aload_n 0, 1) := by decide +kernel
theorem dM_init_78 : decode cM_init 78 = .ok (.sipush 1600, 3) := by decide +kernel
theorem dM_init_81 : decode cM_init 81 = .ok (.newarray .int, 2) := by decide +kernel
theorem dM_init_83 : decode cM_init 83 = .ok (.putfield 38, 3) := by decide +kernel
theorem dM_init_86 : decode cM_init 86 = .ok (.aload_n 0, 1) := by decide +kernel
theorem dM_init_87 : decode cM_init 87 = .ok (.bipush 24, 2) := by decide +kernel
theorem dM_init_89 : decode cM_init 89 = .ok (.newarray .int, 2) := by decide +kernel
theorem dM_init_91 : decode cM_init 91 = .ok (.putfield 41, 3) := by decide +kernel
theorem dM_init_94 : decode cM_init 94 = .ok (.aload_n 0, 1) := by decide +kernel
theorem dM_init_95 : decode cM_init 95 = .ok (.bipush 24, 2) := by decide +kernel
theorem dM_init_97 : decode cM_init 97 = .ok (.newarray .int, 2) := by decide +kernel
theorem dM_init_99 : decode cM_init 99 = .ok (.putfield 44, 3) := by decide +kernel
theorem dM_init_102 : decode cM_init 102 = .ok (.aload_n 0, 1) := by decide +kernel
theorem dM_init_103 : decode cM_init 103 = .ok (.bipush 24, 2) := by decide +kernel
theorem dM_init_105 : decode cM_init 105 = .ok (.newarray .int, 2) := by decide +kernel
theorem dM_init_107 : decode cM_init 107 = .ok (.putfield 47, 3) := by decide +kernel
theorem dM_init_110 : decode cM_init 110 = .ok (.return_, 1) := by decide +kernel
theorem dM_thrown_0 : decode cM_thrown 0 = .ok (.aload_n 0, 1) := by decide +kernel
theorem dM_thrown_1 : decode cM_thrown 1 = .ok (.getfield 50, 3) := by decide +kernel
theorem dM_thrown_4 : decode cM_thrown 4 = .ok (.ireturn, 1) := by decide +kernel
theorem dM_isValue_0 : decode cM_isValue 0 = .ok (.iload_n 1, 1) := by decide +kernel
theorem dM_isValue_1 : decode cM_isValue 1 = .ok (.ifCond .lt 15, 3) := by decide +kernel
theorem dM_isValue_4 : decode cM_isValue 4 = .ok (.iload_n 1, 1) := by decide +kernel
theorem dM_isValue_5 : decode cM_isValue 5 = .ok (.aload_n 0, 1) := by decide +kernel
theorem dM_isValue_6 : decode cM_isValue 6 = .ok (.getfield 54, 3) := by decide +kernel
theorem dM_isValue_9 : decode cM_isValue 9 = .ok (.if_icmp .ge 7, 3) := by decide +kernel
theorem dM_isValue_12 : decode cM_isValue 12 = .ok (.iconst 1, 1) := by decide +kernel
theorem dM_isValue_13 : decode cM_isValue 13 = .ok (.goto 4, 3) := by decide +kernel
theorem dM_isValue_16 : decode cM_isValue 16 = .ok (.iconst 0, 1) := by decide +kernel
theorem dM_isValue_17 : decode cM_isValue 17 = .ok (.ireturn, 1) := by decide +kernel
theorem dM_make_0 : decode cM_make 0 = .ok (.aload_n 0, 1) := by decide +kernel
theorem dM_make_1 : decode cM_make 1 = .ok (.iload_n 1, 1) := by decide +kernel
theorem dM_make_2 : decode cM_make 2 = .ok (.putfield 50, 3) := by decide +kernel
theorem dM_make_5 : decode cM_make 5 = .ok (.aload_n 0, 1) := by decide +kernel
theorem dM_make_6 : decode cM_make 6 = .ok (.getfield 50, 3) := by decide +kernel
theorem dM_make_9 : decode cM_make 9 = .ok (.ifCond .le 5, 3) := by decide +kernel
theorem dM_make_12 : decode cM_make 12 = .ok (.iconst 0, 1) := by decide +kernel
theorem dM_make_13 : decode cM_make 13 = .ok (.ireturn, 1) := by decide +kernel
theorem dM_make_14 : decode cM_make 14 = .ok (.aload_n 0, 1) := by decide +kernel
theorem dM_make_15 : decode cM_make 15 = .ok (.getfield 7, 3) := by decide +kernel
theorem dM_make_18 : decode cM_make 18 = .ok (.aload_n 0, 1) := by decide +kernel
theorem dM_make_19 : decode cM_make 19 = .ok (.getfield 54, 3) := by decide +kernel
theorem dM_make_22 : decode cM_make 22 = .ok (.iload_n 2, 1) := by decide +kernel
theorem dM_make_23 : decode cM_make 23 = .ok (.iastore, 1) := by decide +kernel
theorem dM_make_24 : decode cM_make 24 = .ok (.aload_n 0, 1) := by decide +kernel
theorem dM_make_25 : decode cM_make 25 = .ok (.getfield 13, 3) := by decide +kernel
theorem dM_make_28 : decode cM_make 28 = .ok (.aload_n 0, 1) := by decide +kernel
theorem dM_make_29 : decode cM_make 29 = .ok (.getfield 54, 3) := by decide +kernel
theorem dM_make_32 : decode cM_make 32 = .ok (.iload_n 3, 1) := by decide +kernel
theorem dM_make_33 : decode cM_make 33 = .ok (.iastore, 1) := by decide +kernel
theorem dM_make_34 : decode cM_make 34 = .ok (.aload_n 0, 1) := by decide +kernel
theorem dM_make_35 : decode cM_make 35 = .ok (.getfield 16, 3) := by decide +kernel
theorem dM_make_38 : decode cM_make 38 = .ok (.aload_n 0, 1) := by decide +kernel
theorem dM_make_39 : decode cM_make 39 = .ok (.getfield 54, 3) := by decide +kernel
theorem dM_make_42 : decode cM_make 42 = .ok (.iload 4, 2) := by decide +kernel
theorem dM_make_44 : decode cM_make 44 = .ok (.iastore, 1) := by decide +kernel
theorem dM_make_45 : decode cM_make 45 = .ok (.aload_n 0, 1) := by decide +kernel
theorem dM_make_46 : decode cM_make 46 = .ok (.dup, 1) := by decide +kernel
theorem dM_make_47 : decode cM_make 47 = .ok (.getfield 54, 3) := by decide +kernel
theorem dM_make_50 : decode cM_make 50 = .ok (.iconst 1, 1) := by decide +kernel
theorem dM_make_51 : decode cM_make 51 = .ok (.iadd, 1) := by decide +kernel
theorem dM_make_52 : decode cM_make 52 = .ok (.putfield 54, 3) := by decide +kernel
theorem dM_make_55 : decode cM_make 55 = .ok (.aload_n 0, 1) := by decide +kernel
theorem dM_make_56 : decode cM_make 56 = .ok (.getfield 54, 3) := by decide +kernel
theorem dM_make_59 : decode cM_make 59 = .ok (.iconst 1, 1) := by decide +kernel
theorem dM_make_60 : decode cM_make 60 = .ok (.isub, 1) := by decide +kernel
theorem dM_make_61 : decode cM_make 61 = .ok (.ireturn, 1) := by decide +kernel
theorem dM_input_0 : decode cM_input 0 = .ok (.aload_n 0, 1) := by decide +kernel
theorem dM_input_1 : decode cM_input 1 = .ok (.iload_n 1, 1) := by decide +kernel
theorem dM_input_2 : decode cM_input 2 = .ok (.ifCond .lt 8, 3) := by decide +kernel
theorem dM_input_5 : decode cM_input 5 = .ok (.iload_n 1, 1) := by decide +kernel
theorem dM_input_6 : decode cM_input 6 = .ok (.iconst 2, 1) := by decide +kernel
theorem dM_input_7 : decode cM_input 7 = .ok (.if_icmp .le 7, 3) := by decide +kernel
theorem dM_input_10 : decode cM_input 10 = .ok (.iconst 1, 1) := by decide +kernel
theorem dM_input_11 : decode cM_input 11 = .ok (.goto 17, 3) := by decide +kernel
theorem dM_input_14 : decode cM_input 14 = .ok (.aload_n 0, 1) := by decide +kernel
theorem dM_input_15 : decode cM_input 15 = .ok (.getfield 54, 3) := by decide +kernel
theorem dM_input_18 : decode cM_input 18 = .ok (.bipush 24, 2) := by decide +kernel
theorem dM_input_20 : decode cM_input 20 = .ok (.if_icmp .ne 7, 3) := by decide +kernel
theorem dM_input_23 : decode cM_input 23 = .ok (.iconst 2, 1) := by decide +kernel
theorem dM_input_24 : decode cM_input 24 = .ok (.goto 4, 3) := by decide +kernel
theorem dM_input_27 : decode cM_input 27 = .ok (.iconst 0, 1) := by decide +kernel
theorem dM_input_28 : decode cM_input 28 = .ok (.bipush 12, 2) := by decide +kernel
theorem dM_input_30 : decode cM_input 30 = .ok (.iload_n 1, 1) := by decide +kernel
theorem dM_input_31 : decode cM_input 31 = .ok (.iconst 0, 1) := by decide +kernel
theorem dM_input_32 : decode cM_input 32 = .ok (.invokevirtual 57, 3) := by decide +kernel
theorem dM_input_35 : decode cM_input 35 = .ok (.ireturn, 1) := by decide +kernel
theorem dM_constant_0 : decode cM_constant 0 = .ok (.aload_n 0, 1) := by decide +kernel
theorem dM_constant_1 : decode cM_constant 1 = .ok (.aload_n 0, 1) := by decide +kernel
theorem dM_constant_2 : decode cM_constant 2 = .ok (.getfield 54, 3) := by decide +kernel
theorem dM_constant_5 : decode cM_constant 5 = .ok (.bipush 24, 2) := by decide +kernel
theorem dM_constant_7 : decode cM_constant 7 = .ok (.if_icmp .ne 7, 3) := by decide +kernel
theorem dM_constant_10 : decode cM_constant 10 = .ok (.iconst 1, 1) := by decide +kernel
theorem dM_constant_11 : decode cM_constant 11 = .ok (.goto 4, 3) := by decide +kernel
theorem dM_constant_14 : decode cM_constant 14 = .ok (.iconst 0, 1) := by decide +kernel
theorem dM_constant_15 : decode cM_constant 15 = .ok (.bipush 13, 2) := by decide +kernel
theorem dM_constant_17 : decode cM_constant 17 = .ok (.iload_n 1, 1) := by decide +kernel
theorem dM_constant_18 : decode cM_constant 18 = .ok (.iconst 0, 1) := by decide +kernel
theorem dM_constant_19 : decode cM_constant 19 = .ok (.invokevirtual 57, 3) := by decide +kernel
theorem dM_constant_22 : decode cM_constant 22 = .ok (.ireturn, 1) := by decide +kernel
theorem dM_binary_0 : decode cM_binary 0 = .ok (.aload_n 0, 1) := by decide +kernel
theorem dM_binary_1 : decode cM_binary 1 = .ok (.iload_n 1, 1) := by decide +kernel
theorem dM_binary_2 : decode cM_binary 2 = .ok (.ifCond .lt 8, 3) := by decide +kernel
theorem dM_binary_5 : decode cM_binary 5 = .ok (.iload_n 1, 1) := by decide +kernel
theorem dM_binary_6 : decode cM_binary 6 = .ok (.iconst 5, 1) := by decide +kernel
theorem dM_binary_7 : decode cM_binary 7 = .ok (.if_icmp .le 7, 3) := by decide +kernel
theorem dM_binary_10 : decode cM_binary 10 = .ok (.iconst 1, 1) := by decide +kernel
theorem dM_binary_11 : decode cM_binary 11 = .ok (.goto 37, 3) := by decide +kernel
theorem dM_binary_14 : decode cM_binary 14 = .ok (.aload_n 0, 1) := by decide +kernel
theorem dM_binary_15 : decode cM_binary 15 = .ok (.iload_n 2, 1) := by decide +kernel
theorem dM_binary_16 : decode cM_binary 16 = .ok (.invokevirtual 61, 3) := by decide +kernel
theorem dM_binary_19 : decode cM_binary 19 = .ok (.ifCond .eq 11, 3) := by decide +kernel
theorem dM_binary_22 : decode cM_binary 22 = .ok (.aload_n 0, 1) := by decide +kernel
theorem dM_binary_23 : decode cM_binary 23 = .ok (.iload_n 3, 1) := by decide +kernel
theorem dM_binary_24 : decode cM_binary 24 = .ok (.invokevirtual 61, 3) := by decide +kernel
theorem dM_binary_27 : decode cM_binary 27 = .ok (.ifCond .ne 7, 3) := by decide +kernel
theorem dM_binary_30 : decode cM_binary 30 = .ok (.iconst 2, 1) := by decide +kernel
theorem dM_binary_31 : decode cM_binary 31 = .ok (.goto 17, 3) := by decide +kernel
theorem dM_binary_34 : decode cM_binary 34 = .ok (.aload_n 0, 1) := by decide +kernel
theorem dM_binary_35 : decode cM_binary 35 = .ok (.getfield 54, 3) := by decide +kernel
theorem dM_binary_38 : decode cM_binary 38 = .ok (.bipush 24, 2) := by decide +kernel
theorem dM_binary_40 : decode cM_binary 40 = .ok (.if_icmp .ne 7, 3) := by decide +kernel
theorem dM_binary_43 : decode cM_binary 43 = .ok (.iconst 3, 1) := by decide +kernel
theorem dM_binary_44 : decode cM_binary 44 = .ok (.goto 4, 3) := by decide +kernel
theorem dM_binary_47 : decode cM_binary 47 = .ok (.iconst 0, 1) := by decide +kernel
theorem dM_binary_48 : decode cM_binary 48 = .ok (.iload_n 1, 1) := by decide +kernel
theorem dM_binary_49 : decode cM_binary 49 = .ok (.iload_n 2, 1) := by decide +kernel
theorem dM_binary_50 : decode cM_binary 50 = .ok (.iload_n 3, 1) := by decide +kernel
theorem dM_binary_51 : decode cM_binary 51 = .ok (.invokevirtual 57, 3) := by decide +kernel
theorem dM_binary_54 : decode cM_binary 54 = .ok (.ireturn, 1) := by decide +kernel
theorem dM_shift_0 : decode cM_shift 0 = .ok (.iload_n 1, 1) := by decide +kernel
theorem dM_shift_1 : decode cM_shift 1 = .ok (.ifCond .lt 22, 3) := by decide +kernel
theorem dM_shift_4 : decode cM_shift 4 = .ok (.iload_n 1, 1) := by decide +kernel
theorem dM_shift_5 : decode cM_shift 5 = .ok (.iconst 2, 1) := by decide +kernel
theorem dM_shift_6 : decode cM_shift 6 = .ok (.if_icmp .gt 17, 3) := by decide +kernel
theorem dM_shift_9 : decode cM_shift 9 = .ok (.iload_n 3, 1) := by decide +kernel
theorem dM_shift_10 : decode cM_shift 10 = .ok (.ifCond .lt 13, 3) := by decide +kernel
theorem dM_shift_13 : decode cM_shift 13 = .ok (.iload_n 3, 1) := by decide +kernel
theorem dM_shift_14 : decode cM_shift 14 = .ok (.bipush 31, 2) := by decide +kernel
theorem dM_shift_16 : decode cM_shift 16 = .ok (.if_icmp .gt 7, 3) := by decide +kernel
theorem dM_shift_19 : decode cM_shift 19 = .ok (.iconst 1, 1) := by decide +kernel
theorem dM_shift_20 : decode cM_shift 20 = .ok (.goto 4, 3) := by decide +kernel
theorem dM_shift_23 : decode cM_shift 23 = .ok (.iconst 0, 1) := by decide +kernel
theorem dM_shift_24 : decode cM_shift 24 = .ok (.istore 4, 2) := by decide +kernel
theorem dM_shift_26 : decode cM_shift 26 = .ok (.aload_n 0, 1) := by decide +kernel
theorem dM_shift_27 : decode cM_shift 27 = .ok (.iload 4, 2) := by decide +kernel
theorem dM_shift_29 : decode cM_shift 29 = .ok (.ifCond .ne 7, 3) := by decide +kernel
theorem dM_shift_32 : decode cM_shift 32 = .ok (.iconst 1, 1) := by decide +kernel
theorem dM_shift_33 : decode cM_shift 33 = .ok (.goto 29, 3) := by decide +kernel
theorem dM_shift_36 : decode cM_shift 36 = .ok (.aload_n 0, 1) := by decide +kernel
theorem dM_shift_37 : decode cM_shift 37 = .ok (.iload_n 2, 1) := by decide +kernel
theorem dM_shift_38 : decode cM_shift 38 = .ok (.invokevirtual 61, 3) := by decide +kernel
theorem dM_shift_41 : decode cM_shift 41 = .ok (.ifCond .ne 7, 3) := by decide +kernel
theorem dM_shift_44 : decode cM_shift 44 = .ok (.iconst 2, 1) := by decide +kernel
theorem dM_shift_45 : decode cM_shift 45 = .ok (.goto 17, 3) := by decide +kernel
theorem dM_shift_48 : decode cM_shift 48 = .ok (.aload_n 0, 1) := by decide +kernel
theorem dM_shift_49 : decode cM_shift 49 = .ok (.getfield 54, 3) := by decide +kernel
theorem dM_shift_52 : decode cM_shift 52 = .ok (.bipush 24, 2) := by decide +kernel
theorem dM_shift_54 : decode cM_shift 54 = .ok (.if_icmp .ne 7, 3) := by decide +kernel
theorem dM_shift_57 : decode cM_shift 57 = .ok (.iconst 3, 1) := by decide +kernel
theorem dM_shift_58 : decode cM_shift 58 = .ok (.goto 4, 3) := by decide +kernel
theorem dM_shift_61 : decode cM_shift 61 = .ok (.iconst 0, 1) := by decide +kernel
theorem dM_shift_62 : decode cM_shift 62 = .ok (.bipush 6, 2) := by decide +kernel
theorem dM_shift_64 : decode cM_shift 64 = .ok (.iload_n 1, 1) := by decide +kernel
theorem dM_shift_65 : decode cM_shift 65 = .ok (.iadd, 1) := by decide +kernel
theorem dM_shift_66 : decode cM_shift 66 = .ok (.iload_n 2, 1) := by decide +kernel
theorem dM_shift_67 : decode cM_shift 67 = .ok (.iload_n 3, 1) := by decide +kernel
theorem dM_shift_68 : decode cM_shift 68 = .ok (.invokevirtual 57, 3) := by decide +kernel
theorem dM_shift_71 : decode cM_shift 71 = .ok (.ireturn, 1) := by decide +kernel
theorem dM_extend_0 : decode cM_extend 0 = .ok (.aload_n 0, 1) := by decide +kernel
theorem dM_extend_1 : decode cM_extend 1 = .ok (.aload_n 0, 1) := by decide +kernel
theorem dM_extend_2 : decode cM_extend 2 = .ok (.iload_n 1, 1) := by decide +kernel
theorem dM_extend_3 : decode cM_extend 3 = .ok (.invokevirtual 61, 3) := by decide +kernel
theorem dM_extend_6 : decode cM_extend 6 = .ok (.ifCond .ne 7, 3) := by decide +kernel
theorem dM_extend_9 : decode cM_extend 9 = .ok (.iconst 1, 1) := by decide +kernel
theorem dM_extend_10 : decode cM_extend 10 = .ok (.goto 17, 3) := by decide +kernel
theorem dM_extend_13 : decode cM_extend 13 = .ok (.aload_n 0, 1) := by decide +kernel
theorem dM_extend_14 : decode cM_extend 14 = .ok (.getfield 54, 3) := by decide +kernel
theorem dM_extend_17 : decode cM_extend 17 = .ok (.bipush 24, 2) := by decide +kernel
theorem dM_extend_19 : decode cM_extend 19 = .ok (.if_icmp .ne 7, 3) := by decide +kernel
theorem dM_extend_22 : decode cM_extend 22 = .ok (.iconst 2, 1) := by decide +kernel
theorem dM_extend_23 : decode cM_extend 23 = .ok (.goto 4, 3) := by decide +kernel
theorem dM_extend_26 : decode cM_extend 26 = .ok (.iconst 0, 1) := by decide +kernel
theorem dM_extend_27 : decode cM_extend 27 = .ok (.iload_n 2, 1) := by decide +kernel
theorem dM_extend_28 : decode cM_extend 28 = .ok (.ifCond .eq 8, 3) := by decide +kernel
theorem dM_extend_31 : decode cM_extend 31 = .ok (.bipush 10, 2) := by decide +kernel
theorem dM_extend_33 : decode cM_extend 33 = .ok (.goto 5, 3) := by decide +kernel
theorem dM_extend_36 : decode cM_extend 36 = .ok (.bipush 9, 2) := by decide +kernel
theorem dM_extend_38 : decode cM_extend 38 = .ok (.iload_n 1, 1) := by decide +kernel
theorem dM_extend_39 : decode cM_extend 39 = .ok (.iconst 0, 1) := by decide +kernel
theorem dM_extend_40 : decode cM_extend 40 = .ok (.invokevirtual 57, 3) := by decide +kernel
theorem dM_extend_43 : decode cM_extend 43 = .ok (.ireturn, 1) := by decide +kernel
theorem dM_loop_0 : decode cM_loop 0 = .ok (.aload_n 0, 1) := by decide +kernel
theorem dM_loop_1 : decode cM_loop 1 = .ok (.aload_n 0, 1) := by decide +kernel
theorem dM_loop_2 : decode cM_loop 2 = .ok (.iload_n 1, 1) := by decide +kernel
theorem dM_loop_3 : decode cM_loop 3 = .ok (.invokevirtual 61, 3) := by decide +kernel
theorem dM_loop_6 : decode cM_loop 6 = .ok (.ifCond .ne 7, 3) := by decide +kernel
theorem dM_loop_9 : decode cM_loop 9 = .ok (.iconst 1, 1) := by decide +kernel
theorem dM_loop_10 : decode cM_loop 10 = .ok (.goto 17, 3) := by decide +kernel
theorem dM_loop_13 : decode cM_loop 13 = .ok (.aload_n 0, 1) := by decide +kernel
theorem dM_loop_14 : decode cM_loop 14 = .ok (.getfield 54, 3) := by decide +kernel
theorem dM_loop_17 : decode cM_loop 17 = .ok (.bipush 24, 2) := by decide +kernel
theorem dM_loop_19 : decode cM_loop 19 = .ok (.if_icmp .ne 7, 3) := by decide +kernel
theorem dM_loop_22 : decode cM_loop 22 = .ok (.iconst 2, 1) := by decide +kernel
theorem dM_loop_23 : decode cM_loop 23 = .ok (.goto 4, 3) := by decide +kernel
theorem dM_loop_26 : decode cM_loop 26 = .ok (.iconst 0, 1) := by decide +kernel
theorem dM_loop_27 : decode cM_loop 27 = .ok (.bipush 11, 2) := by decide +kernel
theorem dM_loop_29 : decode cM_loop 29 = .ok (.iload_n 1, 1) := by decide +kernel
theorem dM_loop_30 : decode cM_loop 30 = .ok (.aload_n 0, 1) := by decide +kernel
theorem dM_loop_31 : decode cM_loop 31 = .ok (.getfield 54, 3) := by decide +kernel
theorem dM_loop_34 : decode cM_loop 34 = .ok (.invokevirtual 57, 3) := by decide +kernel
theorem dM_loop_37 : decode cM_loop 37 = .ok (.ireturn, 1) := by decide +kernel
theorem dM_back_0 : decode cM_back 0 = .ok (.aload_n 0, 1) := by decide +kernel
theorem dM_back_1 : decode cM_back 1 = .ok (.aload_n 0, 1) := by decide +kernel
theorem dM_back_2 : decode cM_back 2 = .ok (.iload_n 1, 1) := by decide +kernel
theorem dM_back_3 : decode cM_back 3 = .ok (.invokevirtual 61, 3) := by decide +kernel
theorem dM_back_6 : decode cM_back 6 = .ok (.ifCond .eq 11, 3) := by decide +kernel
theorem dM_back_9 : decode cM_back 9 = .ok (.aload_n 0, 1) := by decide +kernel
theorem dM_back_10 : decode cM_back 10 = .ok (.iload_n 2, 1) := by decide +kernel
theorem dM_back_11 : decode cM_back 11 = .ok (.invokevirtual 61, 3) := by decide +kernel
theorem dM_back_14 : decode cM_back 14 = .ok (.ifCond .ne 7, 3) := by decide +kernel
theorem dM_back_17 : decode cM_back 17 = .ok (.iconst 1, 1) := by decide +kernel
theorem dM_back_18 : decode cM_back 18 = .ok (.goto 19, 3) := by decide +kernel
theorem dM_back_21 : decode cM_back 21 = .ok (.aload_n 0, 1) := by decide +kernel
theorem dM_back_22 : decode cM_back 22 = .ok (.getfield 7, 3) := by decide +kernel
theorem dM_back_25 : decode cM_back 25 = .ok (.iload_n 1, 1) := by decide +kernel
theorem dM_back_26 : decode cM_back 26 = .ok (.iaload, 1) := by decide +kernel
theorem dM_back_27 : decode cM_back 27 = .ok (.bipush 11, 2) := by decide +kernel
theorem dM_back_29 : decode cM_back 29 = .ok (.if_icmp .eq 7, 3) := by decide +kernel
theorem dM_back_32 : decode cM_back 32 = .ok (.iconst 2, 1) := by decide +kernel
theorem dM_back_33 : decode cM_back 33 = .ok (.goto 4, 3) := by decide +kernel
theorem dM_back_36 : decode cM_back 36 = .ok (.iconst 0, 1) := by decide +kernel
theorem dM_back_37 : decode cM_back 37 = .ok (.putfield 50, 3) := by decide +kernel
theorem dM_back_40 : decode cM_back 40 = .ok (.aload_n 0, 1) := by decide +kernel
theorem dM_back_41 : decode cM_back 41 = .ok (.getfield 50, 3) := by decide +kernel
theorem dM_back_44 : decode cM_back 44 = .ok (.ifCond .ne 10, 3) := by decide +kernel
theorem dM_back_47 : decode cM_back 47 = .ok (.aload_n 0, 1) := by decide +kernel
theorem dM_back_48 : decode cM_back 48 = .ok (.getfield 16, 3) := by decide +kernel
theorem dM_back_51 : decode cM_back 51 = .ok (.iload_n 1, 1) := by decide +kernel
theorem dM_back_52 : decode cM_back 52 = .ok (.iload_n 2, 1) := by decide +kernel
theorem dM_back_53 : decode cM_back 53 = .ok (.iastore, 1) := by decide +kernel
theorem dM_back_54 : decode cM_back 54 = .ok (.return_, 1) := by decide +kernel
theorem dM_result_0 : decode cM_result 0 = .ok (.aload_n 0, 1) := by decide +kernel
theorem dM_result_1 : decode cM_result 1 = .ok (.aload_n 0, 1) := by decide +kernel
theorem dM_result_2 : decode cM_result 2 = .ok (.iload_n 1, 1) := by decide +kernel
theorem dM_result_3 : decode cM_result 3 = .ok (.invokevirtual 61, 3) := by decide +kernel
theorem dM_result_6 : decode cM_result 6 = .ok (.ifCond .ne 7, 3) := by decide +kernel
theorem dM_result_9 : decode cM_result 9 = .ok (.iconst 1, 1) := by decide +kernel
theorem dM_result_10 : decode cM_result 10 = .ok (.goto 16, 3) := by decide +kernel
theorem dM_result_13 : decode cM_result 13 = .ok (.aload_n 0, 1) := by decide +kernel
theorem dM_result_14 : decode cM_result 14 = .ok (.getfield 65, 3) := by decide +kernel
theorem dM_result_17 : decode cM_result 17 = .ok (.iconst 4, 1) := by decide +kernel
theorem dM_result_18 : decode cM_result 18 = .ok (.if_icmp .ne 7, 3) := by decide +kernel
theorem dM_result_21 : decode cM_result 21 = .ok (.iconst 2, 1) := by decide +kernel
theorem dM_result_22 : decode cM_result 22 = .ok (.goto 4, 3) := by decide +kernel
theorem dM_result_25 : decode cM_result 25 = .ok (.iconst 0, 1) := by decide +kernel
theorem dM_result_26 : decode cM_result 26 = .ok (.putfield 50, 3) := by decide +kernel
theorem dM_result_29 : decode cM_result 29 = .ok (.aload_n 0, 1) := by decide +kernel
theorem dM_result_30 : decode cM_result 30 = .ok (.getfield 50, 3) := by decide +kernel
theorem dM_result_33 : decode cM_result 33 = .ok (.ifCond .le 5, 3) := by decide +kernel
theorem dM_result_36 : decode cM_result 36 = .ok (.iconst 0, 1) := by decide +kernel
theorem dM_result_37 : decode cM_result 37 = .ok (.ireturn, 1) := by decide +kernel
theorem dM_result_38 : decode cM_result 38 = .ok (.aload_n 0, 1) := by decide +kernel
theorem dM_result_39 : decode cM_result 39 = .ok (.getfield 19, 3) := by decide +kernel
theorem dM_result_42 : decode cM_result 42 = .ok (.aload_n 0, 1) := by decide +kernel
theorem dM_result_43 : decode cM_result 43 = .ok (.getfield 65, 3) := by decide +kernel
theorem dM_result_46 : decode cM_result 46 = .ok (.iload_n 1, 1) := by decide +kernel
theorem dM_result_47 : decode cM_result 47 = .ok (.iastore, 1) := by decide +kernel
theorem dM_result_48 : decode cM_result 48 = .ok (.aload_n 0, 1) := by decide +kernel
theorem dM_result_49 : decode cM_result 49 = .ok (.getfield 22, 3) := by decide +kernel
theorem dM_result_52 : decode cM_result 52 = .ok (.aload_n 0, 1) := by decide +kernel
theorem dM_result_53 : decode cM_result 53 = .ok (.getfield 65, 3) := by decide +kernel
theorem dM_result_56 : decode cM_result 56 = .ok (.iload_n 2, 1) := by decide +kernel
theorem dM_result_57 : decode cM_result 57 = .ok (.iastore, 1) := by decide +kernel
theorem dM_result_58 : decode cM_result 58 = .ok (.aload_n 0, 1) := by decide +kernel
theorem dM_result_59 : decode cM_result 59 = .ok (.dup, 1) := by decide +kernel
theorem dM_result_60 : decode cM_result 60 = .ok (.getfield 65, 3) := by decide +kernel
theorem dM_result_63 : decode cM_result 63 = .ok (.iconst 1, 1) := by decide +kernel
theorem dM_result_64 : decode cM_result 64 = .ok (.iadd, 1) := by decide +kernel
theorem dM_result_65 : decode cM_result 65 = .ok (.putfield 65, 3) := by decide +kernel
theorem dM_result_68 : decode cM_result 68 = .ok (.aload_n 0, 1) := by decide +kernel
theorem dM_result_69 : decode cM_result 69 = .ok (.getfield 65, 3) := by decide +kernel
theorem dM_result_72 : decode cM_result 72 = .ok (.iconst 1, 1) := by decide +kernel
theorem dM_result_73 : decode cM_result 73 = .ok (.isub, 1) := by decide +kernel
theorem dM_result_74 : decode cM_result 74 = .ok (.ireturn, 1) := by decide +kernel
theorem dM_bit_0 : decode cM_bit 0 = .ok (.iload_n 0, 1) := by decide +kernel
theorem dM_bit_1 : decode cM_bit 1 = .ok (.iload_n 1, 1) := by decide +kernel
theorem dM_bit_2 : decode cM_bit 2 = .ok (.ishr, 1) := by decide +kernel
theorem dM_bit_3 : decode cM_bit 3 = .ok (.iconst 1, 1) := by decide +kernel
theorem dM_bit_4 : decode cM_bit 4 = .ok (.iand, 1) := by decide +kernel
theorem dM_bit_5 : decode cM_bit 5 = .ok (.ireturn, 1) := by decide +kernel
theorem dM_sum_0 : decode cM_sum 0 = .ok (.iload_n 0, 1) := by decide +kernel
theorem dM_sum_1 : decode cM_sum 1 = .ok (.iconst 2, 1) := by decide +kernel
theorem dM_sum_2 : decode cM_sum 2 = .ok (.if_icmp .eq 13, 3) := by decide +kernel
theorem dM_sum_5 : decode cM_sum 5 = .ok (.iload_n 1, 1) := by decide +kernel
theorem dM_sum_6 : decode cM_sum 6 = .ok (.iconst 2, 1) := by decide +kernel
theorem dM_sum_7 : decode cM_sum 7 = .ok (.if_icmp .eq 8, 3) := by decide +kernel
theorem dM_sum_10 : decode cM_sum 10 = .ok (.iload_n 2, 1) := by decide +kernel
theorem dM_sum_11 : decode cM_sum 11 = .ok (.iconst 2, 1) := by decide +kernel
theorem dM_sum_12 : decode cM_sum 12 = .ok (.if_icmp .ne 7, 3) := by decide +kernel
theorem dM_sum_15 : decode cM_sum 15 = .ok (.iconst 2, 1) := by decide +kernel
theorem dM_sum_16 : decode cM_sum 16 = .ok (.goto 10, 3) := by decide +kernel
theorem dM_sum_19 : decode cM_sum 19 = .ok (.iload_n 0, 1) := by decide +kernel
theorem dM_sum_20 : decode cM_sum 20 = .ok (.iload_n 1, 1) := by decide +kernel
theorem dM_sum_21 : decode cM_sum 21 = .ok (.iadd, 1) := by decide +kernel
theorem dM_sum_22 : decode cM_sum 22 = .ok (.iload_n 2, 1) := by decide +kernel
theorem dM_sum_23 : decode cM_sum 23 = .ok (.iadd, 1) := by decide +kernel
theorem dM_sum_24 : decode cM_sum 24 = .ok (.iconst 2, 1) := by decide +kernel
theorem dM_sum_25 : decode cM_sum 25 = .ok (.irem, 1) := by decide +kernel
theorem dM_sum_26 : decode cM_sum 26 = .ok (.ireturn, 1) := by decide +kernel
theorem dM_carry_0 : decode cM_carry 0 = .ok (.iload_n 0, 1) := by decide +kernel
theorem dM_carry_1 : decode cM_carry 1 = .ok (.ifCond .ne 7, 3) := by decide +kernel
theorem dM_carry_4 : decode cM_carry 4 = .ok (.iconst 1, 1) := by decide +kernel
theorem dM_carry_5 : decode cM_carry 5 = .ok (.goto 4, 3) := by decide +kernel
theorem dM_carry_8 : decode cM_carry 8 = .ok (.iconst 0, 1) := by decide +kernel
theorem dM_carry_9 : decode cM_carry 9 = .ok (.iload_n 1, 1) := by decide +kernel
theorem dM_carry_10 : decode cM_carry 10 = .ok (.ifCond .ne 7, 3) := by decide +kernel
theorem dM_carry_13 : decode cM_carry 13 = .ok (.iconst 1, 1) := by decide +kernel
theorem dM_carry_14 : decode cM_carry 14 = .ok (.goto 4, 3) := by decide +kernel
theorem dM_carry_17 : decode cM_carry 17 = .ok (.iconst 0, 1) := by decide +kernel
theorem dM_carry_18 : decode cM_carry 18 = .ok (.iadd, 1) := by decide +kernel
theorem dM_carry_19 : decode cM_carry 19 = .ok (.iload_n 2, 1) := by decide +kernel
theorem dM_carry_20 : decode cM_carry 20 = .ok (.ifCond .ne 7, 3) := by decide +kernel
theorem dM_carry_23 : decode cM_carry 23 = .ok (.iconst 1, 1) := by decide +kernel
theorem dM_carry_24 : decode cM_carry 24 = .ok (.goto 4, 3) := by decide +kernel
theorem dM_carry_27 : decode cM_carry 27 = .ok (.iconst 0, 1) := by decide +kernel
theorem dM_carry_28 : decode cM_carry 28 = .ok (.iadd, 1) := by decide +kernel
theorem dM_carry_29 : decode cM_carry 29 = .ok (.istore_n 3, 1) := by decide +kernel
theorem dM_carry_30 : decode cM_carry 30 = .ok (.iload_n 0, 1) := by decide +kernel
theorem dM_carry_31 : decode cM_carry 31 = .ok (.iconst 1, 1) := by decide +kernel
theorem dM_carry_32 : decode cM_carry 32 = .ok (.if_icmp .ne 7, 3) := by decide +kernel
theorem dM_carry_35 : decode cM_carry 35 = .ok (.iconst 1, 1) := by decide +kernel
theorem dM_carry_36 : decode cM_carry 36 = .ok (.goto 4, 3) := by decide +kernel
theorem dM_carry_39 : decode cM_carry 39 = .ok (.iconst 0, 1) := by decide +kernel
theorem dM_carry_40 : decode cM_carry 40 = .ok (.iload_n 1, 1) := by decide +kernel
theorem dM_carry_41 : decode cM_carry 41 = .ok (.iconst 1, 1) := by decide +kernel
theorem dM_carry_42 : decode cM_carry 42 = .ok (.if_icmp .ne 7, 3) := by decide +kernel
theorem dM_carry_45 : decode cM_carry 45 = .ok (.iconst 1, 1) := by decide +kernel
theorem dM_carry_46 : decode cM_carry 46 = .ok (.goto 4, 3) := by decide +kernel
theorem dM_carry_49 : decode cM_carry 49 = .ok (.iconst 0, 1) := by decide +kernel
theorem dM_carry_50 : decode cM_carry 50 = .ok (.iadd, 1) := by decide +kernel
theorem dM_carry_51 : decode cM_carry 51 = .ok (.iload_n 2, 1) := by decide +kernel
theorem dM_carry_52 : decode cM_carry 52 = .ok (.iconst 1, 1) := by decide +kernel
theorem dM_carry_53 : decode cM_carry 53 = .ok (.if_icmp .ne 7, 3) := by decide +kernel
theorem dM_carry_56 : decode cM_carry 56 = .ok (.iconst 1, 1) := by decide +kernel
theorem dM_carry_57 : decode cM_carry 57 = .ok (.goto 4, 3) := by decide +kernel
theorem dM_carry_60 : decode cM_carry 60 = .ok (.iconst 0, 1) := by decide +kernel
theorem dM_carry_61 : decode cM_carry 61 = .ok (.iadd, 1) := by decide +kernel
theorem dM_carry_62 : decode cM_carry 62 = .ok (.istore 4, 2) := by decide +kernel
theorem dM_carry_64 : decode cM_carry 64 = .ok (.iload_n 3, 1) := by decide +kernel
theorem dM_carry_65 : decode cM_carry 65 = .ok (.iconst 1, 1) := by decide +kernel
theorem dM_carry_66 : decode cM_carry 66 = .ok (.if_icmp .le 7, 3) := by decide +kernel
theorem dM_carry_69 : decode cM_carry 69 = .ok (.iconst 0, 1) := by decide +kernel
theorem dM_carry_70 : decode cM_carry 70 = .ok (.goto 14, 3) := by decide +kernel
theorem dM_carry_73 : decode cM_carry 73 = .ok (.iload 4, 2) := by decide +kernel
theorem dM_carry_75 : decode cM_carry 75 = .ok (.iconst 1, 1) := by decide +kernel
theorem dM_carry_76 : decode cM_carry 76 = .ok (.if_icmp .le 7, 3) := by decide +kernel
theorem dM_carry_79 : decode cM_carry 79 = .ok (.iconst 1, 1) := by decide +kernel
theorem dM_carry_80 : decode cM_carry 80 = .ok (.goto 4, 3) := by decide +kernel
theorem dM_carry_83 : decode cM_carry 83 = .ok (.iconst 2, 1) := by decide +kernel
theorem dM_carry_84 : decode cM_carry 84 = .ok (.ireturn, 1) := by decide +kernel
theorem dM_turned_0 : decode cM_turned 0 = .ok (.iload_n 0, 1) := by decide +kernel
theorem dM_turned_1 : decode cM_turned 1 = .ok (.iconst 2, 1) := by decide +kernel
theorem dM_turned_2 : decode cM_turned 2 = .ok (.if_icmp .ne 7, 3) := by decide +kernel
theorem dM_turned_5 : decode cM_turned 5 = .ok (.iconst 2, 1) := by decide +kernel
theorem dM_turned_6 : decode cM_turned 6 = .ok (.goto 6, 3) := by decide +kernel
theorem dM_turned_9 : decode cM_turned 9 = .ok (.iconst 1, 1) := by decide +kernel
theorem dM_turned_10 : decode cM_turned 10 = .ok (.iload_n 0, 1) := by decide +kernel
theorem dM_turned_11 : decode cM_turned 11 = .ok (.isub, 1) := by decide +kernel
theorem dM_turned_12 : decode cM_turned 12 = .ok (.ireturn, 1) := by decide +kernel
theorem dM_and_0 : decode cM_and 0 = .ok (.iload_n 0, 1) := by decide +kernel
theorem dM_and_1 : decode cM_and 1 = .ok (.ifCond .eq 7, 3) := by decide +kernel
theorem dM_and_4 : decode cM_and 4 = .ok (.iload_n 1, 1) := by decide +kernel
theorem dM_and_5 : decode cM_and 5 = .ok (.ifCond .ne 7, 3) := by decide +kernel
theorem dM_and_8 : decode cM_and 8 = .ok (.iconst 0, 1) := by decide +kernel
theorem dM_and_9 : decode cM_and 9 = .ok (.goto 18, 3) := by decide +kernel
theorem dM_and_12 : decode cM_and 12 = .ok (.iload_n 0, 1) := by decide +kernel
theorem dM_and_13 : decode cM_and 13 = .ok (.iconst 1, 1) := by decide +kernel
theorem dM_and_14 : decode cM_and 14 = .ok (.if_icmp .ne 12, 3) := by decide +kernel
theorem dM_and_17 : decode cM_and 17 = .ok (.iload_n 1, 1) := by decide +kernel
theorem dM_and_18 : decode cM_and 18 = .ok (.iconst 1, 1) := by decide +kernel
theorem dM_and_19 : decode cM_and 19 = .ok (.if_icmp .ne 7, 3) := by decide +kernel
theorem dM_and_22 : decode cM_and 22 = .ok (.iconst 1, 1) := by decide +kernel
theorem dM_and_23 : decode cM_and 23 = .ok (.goto 4, 3) := by decide +kernel
theorem dM_and_26 : decode cM_and 26 = .ok (.iconst 2, 1) := by decide +kernel
theorem dM_and_27 : decode cM_and 27 = .ok (.ireturn, 1) := by decide +kernel
theorem dM_add_0 : decode cM_add 0 = .ok (.iload_n 2, 1) := by decide +kernel
theorem dM_add_1 : decode cM_add 1 = .ok (.ifCond .eq 7, 3) := by decide +kernel
theorem dM_add_4 : decode cM_add 4 = .ok (.iconst 1, 1) := by decide +kernel
theorem dM_add_5 : decode cM_add 5 = .ok (.goto 4, 3) := by decide +kernel
theorem dM_add_8 : decode cM_add 8 = .ok (.iconst 0, 1) := by decide +kernel
theorem dM_add_9 : decode cM_add 9 = .ok (.istore_n 3, 1) := by decide +kernel
theorem dM_add_10 : decode cM_add 10 = .ok (.iconst 0, 1) := by decide +kernel
theorem dM_add_11 : decode cM_add 11 = .ok (.istore 4, 2) := by decide +kernel
theorem dM_add_13 : decode cM_add 13 = .ok (.iload 4, 2) := by decide +kernel
theorem dM_add_15 : decode cM_add 15 = .ok (.bipush 32, 2) := by decide +kernel
theorem dM_add_17 : decode cM_add 17 = .ok (.if_icmp .ge 92, 3) := by decide +kernel
theorem dM_add_20 : decode cM_add 20 = .ok (.aload_n 0, 1) := by decide +kernel
theorem dM_add_21 : decode cM_add 21 = .ok (.getfield 25, 3) := by decide +kernel
theorem dM_add_24 : decode cM_add 24 = .ok (.bipush 32, 2) := by decide +kernel
theorem dM_add_26 : decode cM_add 26 = .ok (.aload_n 0, 1) := by decide +kernel
theorem dM_add_27 : decode cM_add 27 = .ok (.getfield 13, 3) := by decide +kernel
theorem dM_add_30 : decode cM_add 30 = .ok (.iload_n 1, 1) := by decide +kernel
theorem dM_add_31 : decode cM_add 31 = .ok (.iaload, 1) := by decide +kernel
theorem dM_add_32 : decode cM_add 32 = .ok (.imul, 1) := by decide +kernel
theorem dM_add_33 : decode cM_add 33 = .ok (.iload 4, 2) := by decide +kernel
theorem dM_add_35 : decode cM_add 35 = .ok (.iadd, 1) := by decide +kernel
theorem dM_add_36 : decode cM_add 36 = .ok (.iaload, 1) := by decide +kernel
theorem dM_add_37 : decode cM_add 37 = .ok (.istore 5, 2) := by decide +kernel
theorem dM_add_39 : decode cM_add 39 = .ok (.aload_n 0, 1) := by decide +kernel
theorem dM_add_40 : decode cM_add 40 = .ok (.getfield 25, 3) := by decide +kernel
theorem dM_add_43 : decode cM_add 43 = .ok (.bipush 32, 2) := by decide +kernel
theorem dM_add_45 : decode cM_add 45 = .ok (.aload_n 0, 1) := by decide +kernel
theorem dM_add_46 : decode cM_add 46 = .ok (.getfield 16, 3) := by decide +kernel
theorem dM_add_49 : decode cM_add 49 = .ok (.iload_n 1, 1) := by decide +kernel
theorem dM_add_50 : decode cM_add 50 = .ok (.iaload, 1) := by decide +kernel
theorem dM_add_51 : decode cM_add 51 = .ok (.imul, 1) := by decide +kernel
theorem dM_add_52 : decode cM_add 52 = .ok (.iload 4, 2) := by decide +kernel
theorem dM_add_54 : decode cM_add 54 = .ok (.iadd, 1) := by decide +kernel
theorem dM_add_55 : decode cM_add 55 = .ok (.iaload, 1) := by decide +kernel
theorem dM_add_56 : decode cM_add 56 = .ok (.istore 6, 2) := by decide +kernel
theorem dM_add_58 : decode cM_add 58 = .ok (.iload_n 2, 1) := by decide +kernel
theorem dM_add_59 : decode cM_add 59 = .ok (.ifCond .eq 11, 3) := by decide +kernel
theorem dM_add_62 : decode cM_add 62 = .ok (.iload 6, 2) := by decide +kernel
theorem dM_add_64 : decode cM_add 64 = .ok (.invokestatic 68, 3) := by decide +kernel
theorem dM_add_67 : decode cM_add 67 = .ok (.goto 5, 3) := by decide +kernel
theorem dM_add_70 : decode cM_add 70 = .ok (.iload 6, 2) := by decide +kernel
theorem dM_add_72 : decode cM_add 72 = .ok (.istore 6, 2) := by decide +kernel
theorem dM_add_74 : decode cM_add 74 = .ok (.aload_n 0, 1) := by decide +kernel
theorem dM_add_75 : decode cM_add 75 = .ok (.getfield 25, 3) := by decide +kernel
theorem dM_add_78 : decode cM_add 78 = .ok (.bipush 32, 2) := by decide +kernel
theorem dM_add_80 : decode cM_add 80 = .ok (.iload_n 1, 1) := by decide +kernel
theorem dM_add_81 : decode cM_add 81 = .ok (.imul, 1) := by decide +kernel
theorem dM_add_82 : decode cM_add 82 = .ok (.iload 4, 2) := by decide +kernel
theorem dM_add_84 : decode cM_add 84 = .ok (.iadd, 1) := by decide +kernel
theorem dM_add_85 : decode cM_add 85 = .ok (.iload 5, 2) := by decide +kernel
theorem dM_add_87 : decode cM_add 87 = .ok (.iload 6, 2) := by decide +kernel
theorem dM_add_89 : decode cM_add 89 = .ok (.iload_n 3, 1) := by decide +kernel
theorem dM_add_90 : decode cM_add 90 = .ok (.invokestatic 72, 3) := by decide +kernel
theorem dM_add_93 : decode cM_add 93 = .ok (.iastore, 1) := by decide +kernel
theorem dM_add_94 : decode cM_add 94 = .ok (.iload 5, 2) := by decide +kernel
theorem dM_add_96 : decode cM_add 96 = .ok (.iload 6, 2) := by decide +kernel
theorem dM_add_98 : decode cM_add 98 = .ok (.iload_n 3, 1) := by decide +kernel
theorem dM_add_99 : decode cM_add 99 = .ok (.invokestatic 76, 3) := by decide +kernel
theorem dM_add_102 : decode cM_add 102 = .ok (.istore_n 3, 1) := by decide +kernel
theorem dM_add_103 : decode cM_add 103 = .ok (.iinc 4 1, 3) := by decide +kernel
theorem dM_add_106 : decode cM_add 106 = .ok (.goto (-93), 3) := by decide +kernel
theorem dM_add_109 : decode cM_add 109 = .ok (.return_, 1) := by decide +kernel
theorem dM_multiply_0 : decode cM_multiply 0 = .ok (.bipush 32, 2) := by decide +kernel
theorem dM_multiply_2 : decode cM_multiply 2 = .ok (.aload_n 0, 1) := by decide +kernel
theorem dM_multiply_3 : decode cM_multiply 3 = .ok (.getfield 13, 3) := by decide +kernel
theorem dM_multiply_6 : decode cM_multiply 6 = .ok (.iload_n 1, 1) := by decide +kernel
theorem dM_multiply_7 : decode cM_multiply 7 = .ok (.iaload, 1) := by decide +kernel
theorem dM_multiply_8 : decode cM_multiply 8 = .ok (.imul, 1) := by decide +kernel
theorem dM_multiply_9 : decode cM_multiply 9 = .ok (.istore_n 2, 1) := by decide +kernel
theorem dM_multiply_10 : decode cM_multiply 10 = .ok (.bipush 32, 2) := by decide +kernel
theorem dM_multiply_12 : decode cM_multiply 12 = .ok (.aload_n 0, 1) := by decide +kernel
theorem dM_multiply_13 : decode cM_multiply 13 = .ok (.getfield 16, 3) := by decide +kernel
theorem dM_multiply_16 : decode cM_multiply 16 = .ok (.iload_n 1, 1) := by decide +kernel
theorem dM_multiply_17 : decode cM_multiply 17 = .ok (.iaload, 1) := by decide +kernel
theorem dM_multiply_18 : decode cM_multiply 18 = .ok (.imul, 1) := by decide +kernel
theorem dM_multiply_19 : decode cM_multiply 19 = .ok (.istore_n 3, 1) := by decide +kernel
theorem dM_multiply_20 : decode cM_multiply 20 = .ok (.iconst 0, 1) := by decide +kernel
theorem dM_multiply_21 : decode cM_multiply 21 = .ok (.istore 4, 2) := by decide +kernel
theorem dM_multiply_23 : decode cM_multiply 23 = .ok (.iconst 0, 1) := by decide +kernel
theorem dM_multiply_24 : decode cM_multiply 24 = .ok (.istore 5, 2) := by decide +kernel
theorem dM_multiply_26 : decode cM_multiply 26 = .ok (.iload 4, 2) := by decide +kernel
theorem dM_multiply_28 : decode cM_multiply 28 = .ok (.bipush 32, 2) := by decide +kernel
theorem dM_multiply_30 : decode cM_multiply 30 = .ok (.if_icmp .ge 35, 3) := by decide +kernel
theorem dM_multiply_33 : decode cM_multiply 33 = .ok (.aload_n 0, 1) := by decide +kernel
theorem dM_multiply_34 : decode cM_multiply 34 = .ok (.getfield 25, 3) := by decide +kernel
theorem dM_multiply_37 : decode cM_multiply 37 = .ok (.iload_n 2, 1) := by decide +kernel
theorem dM_multiply_38 : decode cM_multiply 38 = .ok (.iload 4, 2) := by decide +kernel
theorem dM_multiply_40 : decode cM_multiply 40 = .ok (.iadd, 1) := by decide +kernel
theorem dM_multiply_41 : decode cM_multiply 41 = .ok (.iaload, 1) := by decide +kernel
theorem dM_multiply_42 : decode cM_multiply 42 = .ok (.iconst 2, 1) := by decide +kernel
theorem dM_multiply_43 : decode cM_multiply 43 = .ok (.if_icmp .eq 22, 3) := by decide +kernel
theorem dM_multiply_46 : decode cM_multiply 46 = .ok (.aload_n 0, 1) := by decide +kernel
theorem dM_multiply_47 : decode cM_multiply 47 = .ok (.getfield 25, 3) := by decide +kernel
theorem dM_multiply_50 : decode cM_multiply 50 = .ok (.iload_n 3, 1) := by decide +kernel
theorem dM_multiply_51 : decode cM_multiply 51 = .ok (.iload 4, 2) := by decide +kernel
theorem dM_multiply_53 : decode cM_multiply 53 = .ok (.iadd, 1) := by decide +kernel
theorem dM_multiply_54 : decode cM_multiply 54 = .ok (.iaload, 1) := by decide +kernel
theorem dM_multiply_55 : decode cM_multiply 55 = .ok (.iconst 2, 1) := by decide +kernel
theorem dM_multiply_56 : decode cM_multiply 56 = .ok (.if_icmp .eq 9, 3) := by decide +kernel
theorem dM_multiply_59 : decode cM_multiply 59 = .ok (.iinc 4 1, 3) := by decide +kernel
theorem dM_multiply_62 : decode cM_multiply 62 = .ok (.goto (-36), 3) := by decide +kernel
theorem dM_multiply_65 : decode cM_multiply 65 = .ok (.iconst 0, 1) := by decide +kernel
theorem dM_multiply_66 : decode cM_multiply 66 = .ok (.istore 6, 2) := by decide +kernel
theorem dM_multiply_68 : decode cM_multiply 68 = .ok (.iload 6, 2) := by decide +kernel
theorem dM_multiply_70 : decode cM_multiply 70 = .ok (.iload 4, 2) := by decide +kernel
theorem dM_multiply_72 : decode cM_multiply 72 = .ok (.if_icmp .ge 73, 3) := by decide +kernel
theorem dM_multiply_75 : decode cM_multiply 75 = .ok (.iconst 0, 1) := by decide +kernel
theorem dM_multiply_76 : decode cM_multiply 76 = .ok (.istore 7, 2) := by decide +kernel
theorem dM_multiply_78 : decode cM_multiply 78 = .ok (.iload 7, 2) := by decide +kernel
theorem dM_multiply_80 : decode cM_multiply 80 = .ok (.iload 4, 2) := by decide +kernel
theorem dM_multiply_82 : decode cM_multiply 82 = .ok (.if_icmp .ge 57, 3) := by decide +kernel
theorem dM_multiply_85 : decode cM_multiply 85 = .ok (.aload_n 0, 1) := by decide +kernel
theorem dM_multiply_86 : decode cM_multiply 86 = .ok (.getfield 25, 3) := by decide +kernel
theorem dM_multiply_89 : decode cM_multiply 89 = .ok (.iload_n 2, 1) := by decide +kernel
theorem dM_multiply_90 : decode cM_multiply 90 = .ok (.iload 6, 2) := by decide +kernel
theorem dM_multiply_92 : decode cM_multiply 92 = .ok (.iadd, 1) := by decide +kernel
theorem dM_multiply_93 : decode cM_multiply 93 = .ok (.iaload, 1) := by decide +kernel
theorem dM_multiply_94 : decode cM_multiply 94 = .ok (.iconst 1, 1) := by decide +kernel
theorem dM_multiply_95 : decode cM_multiply 95 = .ok (.if_icmp .ne 44, 3) := by decide +kernel
theorem dM_multiply_98 : decode cM_multiply 98 = .ok (.iload 6, 2) := by decide +kernel
theorem dM_multiply_100 : decode cM_multiply 100 = .ok (.iload 7, 2) := by decide +kernel
theorem dM_multiply_102 : decode cM_multiply 102 = .ok (.iadd, 1) := by decide +kernel
theorem dM_multiply_103 : decode cM_multiply 103 = .ok (.bipush 32, 2) := by decide +kernel
theorem dM_multiply_105 : decode cM_multiply 105 = .ok (.if_icmp .ge 24, 3) := by decide +kernel
theorem dM_multiply_108 : decode cM_multiply 108 = .ok (.iload 5, 2) := by decide +kernel
theorem dM_multiply_110 : decode cM_multiply 110 = .ok (.aload_n 0, 1) := by decide +kernel
theorem dM_multiply_111 : decode cM_multiply 111 = .ok (.getfield 25, 3) := by decide +kernel
theorem dM_multiply_114 : decode cM_multiply 114 = .ok (.iload_n 3, 1) := by decide +kernel
theorem dM_multiply_115 : decode cM_multiply 115 = .ok (.iload 7, 2) := by decide +kernel
theorem dM_multiply_117 : decode cM_multiply 117 = .ok (.iadd, 1) := by decide +kernel
theorem dM_multiply_118 : decode cM_multiply 118 = .ok (.iaload, 1) := by decide +kernel
theorem dM_multiply_119 : decode cM_multiply 119 = .ok (.iload 6, 2) := by decide +kernel
theorem dM_multiply_121 : decode cM_multiply 121 = .ok (.iload 7, 2) := by decide +kernel
theorem dM_multiply_123 : decode cM_multiply 123 = .ok (.iadd, 1) := by decide +kernel
theorem dM_multiply_124 : decode cM_multiply 124 = .ok (.ishl, 1) := by decide +kernel
theorem dM_multiply_125 : decode cM_multiply 125 = .ok (.iadd, 1) := by decide +kernel
theorem dM_multiply_126 : decode cM_multiply 126 = .ok (.goto 5, 3) := by decide +kernel
theorem dM_multiply_129 : decode cM_multiply 129 = .ok (.iload 5, 2) := by decide +kernel
theorem dM_multiply_131 : decode cM_multiply 131 = .ok (.istore 5, 2) := by decide +kernel
theorem dM_multiply_133 : decode cM_multiply 133 = .ok (.iinc 7 1, 3) := by decide +kernel
theorem dM_multiply_136 : decode cM_multiply 136 = .ok (.goto (-58), 3) := by decide +kernel
theorem dM_multiply_139 : decode cM_multiply 139 = .ok (.iinc 6 1, 3) := by decide +kernel
theorem dM_multiply_142 : decode cM_multiply 142 = .ok (.goto (-74), 3) := by decide +kernel
theorem dM_multiply_145 : decode cM_multiply 145 = .ok (.iconst 0, 1) := by decide +kernel
theorem dM_multiply_146 : decode cM_multiply 146 = .ok (.istore 6, 2) := by decide +kernel
theorem dM_multiply_148 : decode cM_multiply 148 = .ok (.iconst 0, 1) := by decide +kernel
theorem dM_multiply_149 : decode cM_multiply 149 = .ok (.istore 7, 2) := by decide +kernel
theorem dM_multiply_151 : decode cM_multiply 151 = .ok (.iload 6, 2) := by decide +kernel
theorem dM_multiply_153 : decode cM_multiply 153 = .ok (.bipush 32, 2) := by decide +kernel
theorem dM_multiply_155 : decode cM_multiply 155 = .ok (.if_icmp .ge 21, 3) := by decide +kernel
theorem dM_multiply_158 : decode cM_multiply 158 = .ok (.aload_n 0, 1) := by decide +kernel
theorem dM_multiply_159 : decode cM_multiply 159 = .ok (.getfield 25, 3) := by decide +kernel
theorem dM_multiply_162 : decode cM_multiply 162 = .ok (.iload_n 2, 1) := by decide +kernel
theorem dM_multiply_163 : decode cM_multiply 163 = .ok (.iload 6, 2) := by decide +kernel
theorem dM_multiply_165 : decode cM_multiply 165 = .ok (.iadd, 1) := by decide +kernel
theorem dM_multiply_166 : decode cM_multiply 166 = .ok (.iaload, 1) := by decide +kernel
theorem dM_multiply_167 : decode cM_multiply 167 = .ok (.ifCond .ne 9, 3) := by decide +kernel
theorem dM_multiply_170 : decode cM_multiply 170 = .ok (.iinc 6 1, 3) := by decide +kernel
theorem dM_multiply_173 : decode cM_multiply 173 = .ok (.goto (-22), 3) := by decide +kernel
theorem dM_multiply_176 : decode cM_multiply 176 = .ok (.iload 7, 2) := by decide +kernel
theorem dM_multiply_178 : decode cM_multiply 178 = .ok (.bipush 32, 2) := by decide +kernel
theorem dM_multiply_180 : decode cM_multiply 180 = .ok (.if_icmp .ge 21, 3) := by decide +kernel
theorem dM_multiply_183 : decode cM_multiply 183 = .ok (.aload_n 0, 1) := by decide +kernel
theorem dM_multiply_184 : decode cM_multiply 184 = .ok (.getfield 25, 3) := by decide +kernel
theorem dM_multiply_187 : decode cM_multiply 187 = .ok (.iload_n 3, 1) := by decide +kernel
theorem dM_multiply_188 : decode cM_multiply 188 = .ok (.iload 7, 2) := by decide +kernel
theorem dM_multiply_190 : decode cM_multiply 190 = .ok (.iadd, 1) := by decide +kernel
theorem dM_multiply_191 : decode cM_multiply 191 = .ok (.iaload, 1) := by decide +kernel
theorem dM_multiply_192 : decode cM_multiply 192 = .ok (.ifCond .ne 9, 3) := by decide +kernel
theorem dM_multiply_195 : decode cM_multiply 195 = .ok (.iinc 7 1, 3) := by decide +kernel
theorem dM_multiply_198 : decode cM_multiply 198 = .ok (.goto (-22), 3) := by decide +kernel
theorem dM_multiply_201 : decode cM_multiply 201 = .ok (.iconst 0, 1) := by decide +kernel
theorem dM_multiply_202 : decode cM_multiply 202 = .ok (.istore 8, 2) := by decide +kernel
theorem dM_multiply_204 : decode cM_multiply 204 = .ok (.iload 8, 2) := by decide +kernel
theorem dM_multiply_206 : decode cM_multiply 206 = .ok (.bipush 32, 2) := by decide +kernel
theorem dM_multiply_208 : decode cM_multiply 208 = .ok (.if_icmp .ge 53, 3) := by decide +kernel
theorem dM_multiply_211 : decode cM_multiply 211 = .ok (.aload_n 0, 1) := by decide +kernel
theorem dM_multiply_212 : decode cM_multiply 212 = .ok (.getfield 25, 3) := by decide +kernel
theorem dM_multiply_215 : decode cM_multiply 215 = .ok (.bipush 32, 2) := by decide +kernel
theorem dM_multiply_217 : decode cM_multiply 217 = .ok (.iload_n 1, 1) := by decide +kernel
theorem dM_multiply_218 : decode cM_multiply 218 = .ok (.imul, 1) := by decide +kernel
theorem dM_multiply_219 : decode cM_multiply 219 = .ok (.iload 8, 2) := by decide +kernel
theorem dM_multiply_221 : decode cM_multiply 221 = .ok (.iadd, 1) := by decide +kernel
theorem dM_multiply_222 : decode cM_multiply 222 = .ok (.iload 8, 2) := by decide +kernel
theorem dM_multiply_224 : decode cM_multiply 224 = .ok (.iload 4, 2) := by decide +kernel
theorem dM_multiply_226 : decode cM_multiply 226 = .ok (.if_icmp .ge 13, 3) := by decide +kernel
theorem dM_multiply_229 : decode cM_multiply 229 = .ok (.iload 5, 2) := by decide +kernel
theorem dM_multiply_231 : decode cM_multiply 231 = .ok (.iload 8, 2) := by decide +kernel
theorem dM_multiply_233 : decode cM_multiply 233 = .ok (.invokestatic 79, 3) := by decide +kernel
theorem dM_multiply_236 : decode cM_multiply 236 = .ok (.goto 18, 3) := by decide +kernel
theorem dM_multiply_239 : decode cM_multiply 239 = .ok (.iload 8, 2) := by decide +kernel
theorem dM_multiply_241 : decode cM_multiply 241 = .ok (.iload 6, 2) := by decide +kernel
theorem dM_multiply_243 : decode cM_multiply 243 = .ok (.iload 7, 2) := by decide +kernel
theorem dM_multiply_245 : decode cM_multiply 245 = .ok (.iadd, 1) := by decide +kernel
theorem dM_multiply_246 : decode cM_multiply 246 = .ok (.if_icmp .ge 7, 3) := by decide +kernel
theorem dM_multiply_249 : decode cM_multiply 249 = .ok (.iconst 0, 1) := by decide +kernel
theorem dM_multiply_250 : decode cM_multiply 250 = .ok (.goto 4, 3) := by decide +kernel
theorem dM_multiply_253 : decode cM_multiply 253 = .ok (.iconst 2, 1) := by decide +kernel
theorem dM_multiply_254 : decode cM_multiply 254 = .ok (.iastore, 1) := by decide +kernel
theorem dM_multiply_255 : decode cM_multiply 255 = .ok (.iinc 8 1, 3) := by decide +kernel
theorem dM_multiply_258 : decode cM_multiply 258 = .ok (.goto (-54), 3) := by decide +kernel
theorem dM_multiply_261 : decode cM_multiply 261 = .ok (.return_, 1) := by decide +kernel
theorem dM_from_0 : decode cM_from 0 = .ok (.bipush 32, 2) := by decide +kernel
theorem dM_from_2 : decode cM_from 2 = .ok (.aload_n 0, 1) := by decide +kernel
theorem dM_from_3 : decode cM_from 3 = .ok (.getfield 13, 3) := by decide +kernel
theorem dM_from_6 : decode cM_from 6 = .ok (.iload_n 1, 1) := by decide +kernel
theorem dM_from_7 : decode cM_from 7 = .ok (.iaload, 1) := by decide +kernel
theorem dM_from_8 : decode cM_from 8 = .ok (.imul, 1) := by decide +kernel
theorem dM_from_9 : decode cM_from 9 = .ok (.istore_n 3, 1) := by decide +kernel
theorem dM_from_10 : decode cM_from 10 = .ok (.aload_n 0, 1) := by decide +kernel
theorem dM_from_11 : decode cM_from 11 = .ok (.getfield 16, 3) := by decide +kernel
theorem dM_from_14 : decode cM_from 14 = .ok (.iload_n 1, 1) := by decide +kernel
theorem dM_from_15 : decode cM_from 15 = .ok (.iaload, 1) := by decide +kernel
theorem dM_from_16 : decode cM_from 16 = .ok (.istore 4, 2) := by decide +kernel
theorem dM_from_18 : decode cM_from 18 = .ok (.aload_n 0, 1) := by decide +kernel
theorem dM_from_19 : decode cM_from 19 = .ok (.getfield 7, 3) := by decide +kernel
theorem dM_from_22 : decode cM_from 22 = .ok (.iload_n 1, 1) := by decide +kernel
theorem dM_from_23 : decode cM_from 23 = .ok (.iaload, 1) := by decide +kernel
theorem dM_from_24 : decode cM_from 24 = .ok (.tableswitch 125 6 9 #[32, 54, 80, 105], 32) := by decide +kernel
theorem dM_from_56 : decode cM_from 56 = .ok (.iload_n 2, 1) := by decide +kernel
theorem dM_from_57 : decode cM_from 57 = .ok (.iload 4, 2) := by decide +kernel
theorem dM_from_59 : decode cM_from 59 = .ok (.if_icmp .ge 7, 3) := by decide +kernel
theorem dM_from_62 : decode cM_from 62 = .ok (.iconst 0, 1) := by decide +kernel
theorem dM_from_63 : decode cM_from 63 = .ok (.goto 14, 3) := by decide +kernel
theorem dM_from_66 : decode cM_from 66 = .ok (.aload_n 0, 1) := by decide +kernel
theorem dM_from_67 : decode cM_from 67 = .ok (.getfield 25, 3) := by decide +kernel
theorem dM_from_70 : decode cM_from 70 = .ok (.iload_n 3, 1) := by decide +kernel
theorem dM_from_71 : decode cM_from 71 = .ok (.iload_n 2, 1) := by decide +kernel
theorem dM_from_72 : decode cM_from 72 = .ok (.iadd, 1) := by decide +kernel
theorem dM_from_73 : decode cM_from 73 = .ok (.iload 4, 2) := by decide +kernel
theorem dM_from_75 : decode cM_from 75 = .ok (.isub, 1) := by decide +kernel
theorem dM_from_76 : decode cM_from 76 = .ok (.iaload, 1) := by decide +kernel
theorem dM_from_77 : decode cM_from 77 = .ok (.ireturn, 1) := by decide +kernel
theorem dM_from_78 : decode cM_from 78 = .ok (.aload_n 0, 1) := by decide +kernel
theorem dM_from_79 : decode cM_from 79 = .ok (.getfield 25, 3) := by decide +kernel
theorem dM_from_82 : decode cM_from 82 = .ok (.iload_n 3, 1) := by decide +kernel
theorem dM_from_83 : decode cM_from 83 = .ok (.iload_n 2, 1) := by decide +kernel
theorem dM_from_84 : decode cM_from 84 = .ok (.iload 4, 2) := by decide +kernel
theorem dM_from_86 : decode cM_from 86 = .ok (.iadd, 1) := by decide +kernel
theorem dM_from_87 : decode cM_from 87 = .ok (.bipush 31, 2) := by decide +kernel
theorem dM_from_89 : decode cM_from 89 = .ok (.if_icmp .le 8, 3) := by decide +kernel
theorem dM_from_92 : decode cM_from 92 = .ok (.bipush 31, 2) := by decide +kernel
theorem dM_from_94 : decode cM_from 94 = .ok (.goto 7, 3) := by decide +kernel
theorem dM_from_97 : decode cM_from 97 = .ok (.iload_n 2, 1) := by decide +kernel
theorem dM_from_98 : decode cM_from 98 = .ok (.iload 4, 2) := by decide +kernel
theorem dM_from_100 : decode cM_from 100 = .ok (.iadd, 1) := by decide +kernel
theorem dM_from_101 : decode cM_from 101 = .ok (.iadd, 1) := by decide +kernel
theorem dM_from_102 : decode cM_from 102 = .ok (.iaload, 1) := by decide +kernel
theorem dM_from_103 : decode cM_from 103 = .ok (.ireturn, 1) := by decide +kernel
theorem dM_from_104 : decode cM_from 104 = .ok (.iload_n 2, 1) := by decide +kernel
theorem dM_from_105 : decode cM_from 105 = .ok (.iload 4, 2) := by decide +kernel
theorem dM_from_107 : decode cM_from 107 = .ok (.iadd, 1) := by decide +kernel
theorem dM_from_108 : decode cM_from 108 = .ok (.bipush 31, 2) := by decide +kernel
theorem dM_from_110 : decode cM_from 110 = .ok (.if_icmp .le 7, 3) := by decide +kernel
theorem dM_from_113 : decode cM_from 113 = .ok (.iconst 0, 1) := by decide +kernel
theorem dM_from_114 : decode cM_from 114 = .ok (.goto 14, 3) := by decide +kernel
theorem dM_from_117 : decode cM_from 117 = .ok (.aload_n 0, 1) := by decide +kernel
theorem dM_from_118 : decode cM_from 118 = .ok (.getfield 25, 3) := by decide +kernel
theorem dM_from_121 : decode cM_from 121 = .ok (.iload_n 3, 1) := by decide +kernel
theorem dM_from_122 : decode cM_from 122 = .ok (.iload_n 2, 1) := by decide +kernel
theorem dM_from_123 : decode cM_from 123 = .ok (.iadd, 1) := by decide +kernel
theorem dM_from_124 : decode cM_from 124 = .ok (.iload 4, 2) := by decide +kernel
theorem dM_from_126 : decode cM_from 126 = .ok (.iadd, 1) := by decide +kernel
theorem dM_from_127 : decode cM_from 127 = .ok (.iaload, 1) := by decide +kernel
theorem dM_from_128 : decode cM_from 128 = .ok (.ireturn, 1) := by decide +kernel
theorem dM_from_129 : decode cM_from 129 = .ok (.aload_n 0, 1) := by decide +kernel
theorem dM_from_130 : decode cM_from 130 = .ok (.getfield 25, 3) := by decide +kernel
theorem dM_from_133 : decode cM_from 133 = .ok (.iload_n 3, 1) := by decide +kernel
theorem dM_from_134 : decode cM_from 134 = .ok (.iload_n 2, 1) := by decide +kernel
theorem dM_from_135 : decode cM_from 135 = .ok (.bipush 7, 2) := by decide +kernel
theorem dM_from_137 : decode cM_from 137 = .ok (.if_icmp .le 8, 3) := by decide +kernel
theorem dM_from_140 : decode cM_from 140 = .ok (.bipush 7, 2) := by decide +kernel
theorem dM_from_142 : decode cM_from 142 = .ok (.goto 4, 3) := by decide +kernel
theorem dM_from_145 : decode cM_from 145 = .ok (.iload_n 2, 1) := by decide +kernel
theorem dM_from_146 : decode cM_from 146 = .ok (.iadd, 1) := by decide +kernel
theorem dM_from_147 : decode cM_from 147 = .ok (.iaload, 1) := by decide +kernel
