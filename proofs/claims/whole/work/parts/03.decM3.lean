theorem dM_isNarrow_24 : decode cM_isNarrow 24 = .ok (.iload 4, 2) := by decide +kernel
theorem dM_isNarrow_26 : decode cM_isNarrow 26 = .ok (.iadd, 1) := by decide +kernel
theorem dM_isNarrow_27 : decode cM_isNarrow 27 = .ok (.baload, 1) := by decide +kernel
theorem dM_isNarrow_28 : decode cM_isNarrow 28 = .ok (.ifCond .ne 7, 3) := by decide +kernel
theorem dM_isNarrow_31 : decode cM_isNarrow 31 = .ok (.iconst 1, 1) := by decide +kernel
theorem dM_isNarrow_32 : decode cM_isNarrow 32 = .ok (.goto 4, 3) := by decide +kernel
theorem dM_isNarrow_35 : decode cM_isNarrow 35 = .ok (.iconst 0, 1) := by decide +kernel
theorem dM_isNarrow_36 : decode cM_isNarrow 36 = .ok (.istore_n 3, 1) := by decide +kernel
theorem dM_isNarrow_37 : decode cM_isNarrow 37 = .ok (.iinc 4 1, 3) := by decide +kernel
theorem dM_isNarrow_40 : decode cM_isNarrow 40 = .ok (.goto (-35), 3) := by decide +kernel
theorem dM_isNarrow_43 : decode cM_isNarrow 43 = .ok (.iload_n 3, 1) := by decide +kernel
theorem dM_isNarrow_44 : decode cM_isNarrow 44 = .ok (.ireturn, 1) := by decide +kernel
theorem dM_replacement_0 : decode cM_replacement 0 = .ok (.aload_n 0, 1) := by decide +kernel
theorem dM_replacement_1 : decode cM_replacement 1 = .ok (.getfield 7, 3) := by decide +kernel
theorem dM_replacement_4 : decode cM_replacement 4 = .ok (.iload_n 1, 1) := by decide +kernel
theorem dM_replacement_5 : decode cM_replacement 5 = .ok (.iaload, 1) := by decide +kernel
theorem dM_replacement_6 : decode cM_replacement 6 = .ok (.bipush 13, 2) := by decide +kernel
theorem dM_replacement_8 : decode cM_replacement 8 = .ok (.if_icmp .ne 5, 3) := by decide +kernel
theorem dM_replacement_11 : decode cM_replacement 11 = .ok (.iconst (-1), 1) := by decide +kernel
theorem dM_replacement_12 : decode cM_replacement 12 = .ok (.ireturn, 1) := by decide +kernel
theorem dM_replacement_13 : decode cM_replacement 13 = .ok (.aload_n 0, 1) := by decide +kernel
theorem dM_replacement_14 : decode cM_replacement 14 = .ok (.iload_n 1, 1) := by decide +kernel
theorem dM_replacement_15 : decode cM_replacement 15 = .ok (.invokevirtual 117, 3) := by decide +kernel
theorem dM_replacement_18 : decode cM_replacement 18 = .ok (.ifCond .eq 6, 3) := by decide +kernel
theorem dM_replacement_21 : decode cM_replacement 21 = .ok (.bipush (-2), 2) := by decide +kernel
theorem dM_replacement_23 : decode cM_replacement 23 = .ok (.ireturn, 1) := by decide +kernel
theorem dM_replacement_24 : decode cM_replacement 24 = .ok (.iconst 0, 1) := by decide +kernel
theorem dM_replacement_25 : decode cM_replacement 25 = .ok (.istore_n 2, 1) := by decide +kernel
theorem dM_replacement_26 : decode cM_replacement 26 = .ok (.aload_n 0, 1) := by decide +kernel
theorem dM_replacement_27 : decode cM_replacement 27 = .ok (.getfield 7, 3) := by decide +kernel
theorem dM_replacement_30 : decode cM_replacement 30 = .ok (.iload_n 1, 1) := by decide +kernel
theorem dM_replacement_31 : decode cM_replacement 31 = .ok (.iaload, 1) := by decide +kernel
theorem dM_replacement_32 : decode cM_replacement 32 = .ok (.iconst 5, 1) := by decide +kernel
theorem dM_replacement_33 : decode cM_replacement 33 = .ok (.if_icmp .gt 100, 3) := by decide +kernel
theorem dM_replacement_36 : decode cM_replacement 36 = .ok (.aload_n 0, 1) := by decide +kernel
theorem dM_replacement_37 : decode cM_replacement 37 = .ok (.getfield 7, 3) := by decide +kernel
theorem dM_replacement_40 : decode cM_replacement 40 = .ok (.aload_n 0, 1) := by decide +kernel
theorem dM_replacement_41 : decode cM_replacement 41 = .ok (.getfield 16, 3) := by decide +kernel
theorem dM_replacement_44 : decode cM_replacement 44 = .ok (.iload_n 1, 1) := by decide +kernel
theorem dM_replacement_45 : decode cM_replacement 45 = .ok (.iaload, 1) := by decide +kernel
theorem dM_replacement_46 : decode cM_replacement 46 = .ok (.iaload, 1) := by decide +kernel
theorem dM_replacement_47 : decode cM_replacement 47 = .ok (.bipush 13, 2) := by decide +kernel
theorem dM_replacement_49 : decode cM_replacement 49 = .ok (.if_icmp .ne 84, 3) := by decide +kernel
theorem dM_replacement_52 : decode cM_replacement 52 = .ok (.aload_n 0, 1) := by decide +kernel
theorem dM_replacement_53 : decode cM_replacement 53 = .ok (.getfield 13, 3) := by decide +kernel
theorem dM_replacement_56 : decode cM_replacement 56 = .ok (.aload_n 0, 1) := by decide +kernel
theorem dM_replacement_57 : decode cM_replacement 57 = .ok (.getfield 16, 3) := by decide +kernel
theorem dM_replacement_60 : decode cM_replacement 60 = .ok (.iload_n 1, 1) := by decide +kernel
theorem dM_replacement_61 : decode cM_replacement 61 = .ok (.iaload, 1) := by decide +kernel
theorem dM_replacement_62 : decode cM_replacement 62 = .ok (.iaload, 1) := by decide +kernel
theorem dM_replacement_63 : decode cM_replacement 63 = .ok (.istore_n 3, 1) := by decide +kernel
theorem dM_replacement_64 : decode cM_replacement 64 = .ok (.aload_n 0, 1) := by decide +kernel
theorem dM_replacement_65 : decode cM_replacement 65 = .ok (.getfield 7, 3) := by decide +kernel
theorem dM_replacement_68 : decode cM_replacement 68 = .ok (.iload_n 1, 1) := by decide +kernel
theorem dM_replacement_69 : decode cM_replacement 69 = .ok (.iaload, 1) := by decide +kernel
theorem dM_replacement_70 : decode cM_replacement 70 = .ok (.iconst 3, 1) := by decide +kernel
theorem dM_replacement_71 : decode cM_replacement 71 = .ok (.if_icmp .ne 14, 3) := by decide +kernel
theorem dM_replacement_74 : decode cM_replacement 74 = .ok (.aload_n 0, 1) := by decide +kernel
theorem dM_replacement_75 : decode cM_replacement 75 = .ok (.iload_n 1, 1) := by decide +kernel
theorem dM_replacement_76 : decode cM_replacement 76 = .ok (.iload_n 3, 1) := by decide +kernel
theorem dM_replacement_77 : decode cM_replacement 77 = .ok (.iconst 1, 1) := by decide +kernel
theorem dM_replacement_78 : decode cM_replacement 78 = .ok (.iconst 0, 1) := by decide +kernel
theorem dM_replacement_79 : decode cM_replacement 79 = .ok (.invokevirtual 120, 3) := by decide +kernel
theorem dM_replacement_82 : decode cM_replacement 82 = .ok (.goto 50, 3) := by decide +kernel
theorem dM_replacement_85 : decode cM_replacement 85 = .ok (.aload_n 0, 1) := by decide +kernel
theorem dM_replacement_86 : decode cM_replacement 86 = .ok (.getfield 7, 3) := by decide +kernel
theorem dM_replacement_89 : decode cM_replacement 89 = .ok (.iload_n 1, 1) := by decide +kernel
theorem dM_replacement_90 : decode cM_replacement 90 = .ok (.iaload, 1) := by decide +kernel
theorem dM_replacement_91 : decode cM_replacement 91 = .ok (.iconst 4, 1) := by decide +kernel
theorem dM_replacement_92 : decode cM_replacement 92 = .ok (.if_icmp .ne 14, 3) := by decide +kernel
theorem dM_replacement_95 : decode cM_replacement 95 = .ok (.aload_n 0, 1) := by decide +kernel
theorem dM_replacement_96 : decode cM_replacement 96 = .ok (.iload_n 1, 1) := by decide +kernel
theorem dM_replacement_97 : decode cM_replacement 97 = .ok (.iload_n 3, 1) := by decide +kernel
theorem dM_replacement_98 : decode cM_replacement 98 = .ok (.iconst 0, 1) := by decide +kernel
theorem dM_replacement_99 : decode cM_replacement 99 = .ok (.iconst 0, 1) := by decide +kernel
theorem dM_replacement_100 : decode cM_replacement 100 = .ok (.invokevirtual 120, 3) := by decide +kernel
theorem dM_replacement_103 : decode cM_replacement 103 = .ok (.goto 29, 3) := by decide +kernel
theorem dM_replacement_106 : decode cM_replacement 106 = .ok (.aload_n 0, 1) := by decide +kernel
theorem dM_replacement_107 : decode cM_replacement 107 = .ok (.getfield 7, 3) := by decide +kernel
theorem dM_replacement_110 : decode cM_replacement 110 = .ok (.iload_n 1, 1) := by decide +kernel
theorem dM_replacement_111 : decode cM_replacement 111 = .ok (.iaload, 1) := by decide +kernel
theorem dM_replacement_112 : decode cM_replacement 112 = .ok (.iconst 2, 1) := by decide +kernel
theorem dM_replacement_113 : decode cM_replacement 113 = .ok (.if_icmp .eq 18, 3) := by decide +kernel
theorem dM_replacement_116 : decode cM_replacement 116 = .ok (.aload_n 0, 1) := by decide +kernel
theorem dM_replacement_117 : decode cM_replacement 117 = .ok (.iload_n 1, 1) := by decide +kernel
theorem dM_replacement_118 : decode cM_replacement 118 = .ok (.iload_n 3, 1) := by decide +kernel
theorem dM_replacement_119 : decode cM_replacement 119 = .ok (.iconst 0, 1) := by decide +kernel
theorem dM_replacement_120 : decode cM_replacement 120 = .ok (.iconst 1, 1) := by decide +kernel
theorem dM_replacement_121 : decode cM_replacement 121 = .ok (.invokevirtual 120, 3) := by decide +kernel
theorem dM_replacement_124 : decode cM_replacement 124 = .ok (.ifCond .eq 7, 3) := by decide +kernel
theorem dM_replacement_127 : decode cM_replacement 127 = .ok (.iconst 1, 1) := by decide +kernel
theorem dM_replacement_128 : decode cM_replacement 128 = .ok (.goto 4, 3) := by decide +kernel
theorem dM_replacement_131 : decode cM_replacement 131 = .ok (.iconst 0, 1) := by decide +kernel
theorem dM_replacement_132 : decode cM_replacement 132 = .ok (.istore_n 2, 1) := by decide +kernel
theorem dM_replacement_133 : decode cM_replacement 133 = .ok (.iload_n 2, 1) := by decide +kernel
theorem dM_replacement_134 : decode cM_replacement 134 = .ok (.ifCond .ne 45, 3) := by decide +kernel
theorem dM_replacement_137 : decode cM_replacement 137 = .ok (.aload_n 0, 1) := by decide +kernel
theorem dM_replacement_138 : decode cM_replacement 138 = .ok (.getfield 7, 3) := by decide +kernel
theorem dM_replacement_141 : decode cM_replacement 141 = .ok (.iload_n 1, 1) := by decide +kernel
theorem dM_replacement_142 : decode cM_replacement 142 = .ok (.iaload, 1) := by decide +kernel
theorem dM_replacement_143 : decode cM_replacement 143 = .ok (.bipush 9, 2) := by decide +kernel
theorem dM_replacement_145 : decode cM_replacement 145 = .ok (.if_icmp .ne 13, 3) := by decide +kernel
theorem dM_replacement_148 : decode cM_replacement 148 = .ok (.aload_n 0, 1) := by decide +kernel
theorem dM_replacement_149 : decode cM_replacement 149 = .ok (.iload_n 1, 1) := by decide +kernel
theorem dM_replacement_150 : decode cM_replacement 150 = .ok (.bipush 8, 2) := by decide +kernel
theorem dM_replacement_152 : decode cM_replacement 152 = .ok (.invokevirtual 124, 3) := by decide +kernel
theorem dM_replacement_155 : decode cM_replacement 155 = .ok (.ifCond .ne 24, 3) := by decide +kernel
theorem dM_replacement_158 : decode cM_replacement 158 = .ok (.aload_n 0, 1) := by decide +kernel
theorem dM_replacement_159 : decode cM_replacement 159 = .ok (.getfield 7, 3) := by decide +kernel
theorem dM_replacement_162 : decode cM_replacement 162 = .ok (.iload_n 1, 1) := by decide +kernel
theorem dM_replacement_163 : decode cM_replacement 163 = .ok (.iaload, 1) := by decide +kernel
theorem dM_replacement_164 : decode cM_replacement 164 = .ok (.bipush 10, 2) := by decide +kernel
theorem dM_replacement_166 : decode cM_replacement 166 = .ok (.if_icmp .ne 17, 3) := by decide +kernel
theorem dM_replacement_169 : decode cM_replacement 169 = .ok (.aload_n 0, 1) := by decide +kernel
theorem dM_replacement_170 : decode cM_replacement 170 = .ok (.iload_n 1, 1) := by decide +kernel
theorem dM_replacement_171 : decode cM_replacement 171 = .ok (.bipush 16, 2) := by decide +kernel
theorem dM_replacement_173 : decode cM_replacement 173 = .ok (.invokevirtual 124, 3) := by decide +kernel
theorem dM_replacement_176 : decode cM_replacement 176 = .ok (.ifCond .eq 7, 3) := by decide +kernel
theorem dM_replacement_179 : decode cM_replacement 179 = .ok (.iconst 1, 1) := by decide +kernel
theorem dM_replacement_180 : decode cM_replacement 180 = .ok (.goto 4, 3) := by decide +kernel
theorem dM_replacement_183 : decode cM_replacement 183 = .ok (.iconst 0, 1) := by decide +kernel
theorem dM_replacement_184 : decode cM_replacement 184 = .ok (.istore_n 2, 1) := by decide +kernel
theorem dM_replacement_185 : decode cM_replacement 185 = .ok (.iload_n 2, 1) := by decide +kernel
theorem dM_replacement_186 : decode cM_replacement 186 = .ok (.ifCond .eq 12, 3) := by decide +kernel
theorem dM_replacement_189 : decode cM_replacement 189 = .ok (.aload_n 0, 1) := by decide +kernel
theorem dM_replacement_190 : decode cM_replacement 190 = .ok (.getfield 13, 3) := by decide +kernel
theorem dM_replacement_193 : decode cM_replacement 193 = .ok (.iload_n 1, 1) := by decide +kernel
theorem dM_replacement_194 : decode cM_replacement 194 = .ok (.iaload, 1) := by decide +kernel
theorem dM_replacement_195 : decode cM_replacement 195 = .ok (.goto 4, 3) := by decide +kernel
theorem dM_replacement_198 : decode cM_replacement 198 = .ok (.iconst (-1), 1) := by decide +kernel
theorem dM_replacement_199 : decode cM_replacement 199 = .ok (.ireturn, 1) := by decide +kernel
theorem dM_analyse_0 : decode cM_analyse 0 = .ok (.aload_n 0, 1) := by decide +kernel
theorem dM_analyse_1 : decode cM_analyse 1 = .ok (.invokevirtual 128, 3) := by decide +kernel
theorem dM_analyse_4 : decode cM_analyse 4 = .ok (.aload_n 0, 1) := by decide +kernel
theorem dM_analyse_5 : decode cM_analyse 5 = .ok (.aload_n 0, 1) := by decide +kernel
theorem dM_analyse_6 : decode cM_analyse 6 = .ok (.getfield 28, 3) := by decide +kernel
theorem dM_analyse_9 : decode cM_analyse 9 = .ok (.iconst 0, 1) := by decide +kernel
theorem dM_analyse_10 : decode cM_analyse 10 = .ok (.invokevirtual 131, 3) := by decide +kernel
theorem dM_analyse_13 : decode cM_analyse 13 = .ok (.iconst 0, 1) := by decide +kernel
theorem dM_analyse_14 : decode cM_analyse 14 = .ok (.istore_n 1, 1) := by decide +kernel
theorem dM_analyse_15 : decode cM_analyse 15 = .ok (.iload_n 1, 1) := by decide +kernel
theorem dM_analyse_16 : decode cM_analyse 16 = .ok (.aload_n 0, 1) := by decide +kernel
theorem dM_analyse_17 : decode cM_analyse 17 = .ok (.getfield 54, 3) := by decide +kernel
theorem dM_analyse_20 : decode cM_analyse 20 = .ok (.if_icmp .ge 20, 3) := by decide +kernel
theorem dM_analyse_23 : decode cM_analyse 23 = .ok (.aload_n 0, 1) := by decide +kernel
theorem dM_analyse_24 : decode cM_analyse 24 = .ok (.getfield 35, 3) := by decide +kernel
theorem dM_analyse_27 : decode cM_analyse 27 = .ok (.iload_n 1, 1) := by decide +kernel
theorem dM_analyse_28 : decode cM_analyse 28 = .ok (.aload_n 0, 1) := by decide +kernel
theorem dM_analyse_29 : decode cM_analyse 29 = .ok (.iload_n 1, 1) := by decide +kernel
theorem dM_analyse_30 : decode cM_analyse 30 = .ok (.invokevirtual 135, 3) := by decide +kernel
theorem dM_analyse_33 : decode cM_analyse 33 = .ok (.iastore, 1) := by decide +kernel
theorem dM_analyse_34 : decode cM_analyse 34 = .ok (.iinc 1 1, 3) := by decide +kernel
theorem dM_analyse_37 : decode cM_analyse 37 = .ok (.goto (-22), 3) := by decide +kernel
theorem dM_analyse_40 : decode cM_analyse 40 = .ok (.aload_n 0, 1) := by decide +kernel
theorem dM_analyse_41 : decode cM_analyse 41 = .ok (.aload_n 0, 1) := by decide +kernel
theorem dM_analyse_42 : decode cM_analyse 42 = .ok (.getfield 32, 3) := by decide +kernel
theorem dM_analyse_45 : decode cM_analyse 45 = .ok (.iconst 1, 1) := by decide +kernel
theorem dM_analyse_46 : decode cM_analyse 46 = .ok (.invokevirtual 131, 3) := by decide +kernel
theorem dM_analyse_49 : decode cM_analyse 49 = .ok (.return_, 1) := by decide +kernel
theorem dM_word_0 : decode cM_word 0 = .ok (.iconst 0, 1) := by decide +kernel
theorem dM_word_1 : decode cM_word 1 = .ok (.istore_n 3, 1) := by decide +kernel
theorem dM_word_2 : decode cM_word 2 = .ok (.iconst 0, 1) := by decide +kernel
theorem dM_word_3 : decode cM_word 3 = .ok (.istore 4, 2) := by decide +kernel
theorem dM_word_5 : decode cM_word 5 = .ok (.iload 4, 2) := by decide +kernel
theorem dM_word_7 : decode cM_word 7 = .ok (.bipush 32, 2) := by decide +kernel
theorem dM_word_9 : decode cM_word 9 = .ok (.if_icmp .ge 32, 3) := by decide +kernel
theorem dM_word_12 : decode cM_word 12 = .ok (.aload_n 1, 1) := by decide +kernel
theorem dM_word_13 : decode cM_word 13 = .ok (.bipush 32, 2) := by decide +kernel
theorem dM_word_15 : decode cM_word 15 = .ok (.iload_n 2, 1) := by decide +kernel
theorem dM_word_16 : decode cM_word 16 = .ok (.imul, 1) := by decide +kernel
theorem dM_word_17 : decode cM_word 17 = .ok (.iload 4, 2) := by decide +kernel
theorem dM_word_19 : decode cM_word 19 = .ok (.iadd, 1) := by decide +kernel
theorem dM_word_20 : decode cM_word 20 = .ok (.baload, 1) := by decide +kernel
theorem dM_word_21 : decode cM_word 21 = .ok (.ifCond .eq 12, 3) := by decide +kernel
theorem dM_word_24 : decode cM_word 24 = .ok (.iload_n 3, 1) := by decide +kernel
theorem dM_word_25 : decode cM_word 25 = .ok (.iconst 1, 1) := by decide +kernel
theorem dM_word_26 : decode cM_word 26 = .ok (.iload 4, 2) := by decide +kernel
theorem dM_word_28 : decode cM_word 28 = .ok (.ishl, 1) := by decide +kernel
theorem dM_word_29 : decode cM_word 29 = .ok (.ior, 1) := by decide +kernel
theorem dM_word_30 : decode cM_word 30 = .ok (.goto 4, 3) := by decide +kernel
theorem dM_word_33 : decode cM_word 33 = .ok (.iload_n 3, 1) := by decide +kernel
theorem dM_word_34 : decode cM_word 34 = .ok (.istore_n 3, 1) := by decide +kernel
theorem dM_word_35 : decode cM_word 35 = .ok (.iinc 4 1, 3) := by decide +kernel
theorem dM_word_38 : decode cM_word 38 = .ok (.goto (-33), 3) := by decide +kernel
theorem dM_word_41 : decode cM_word 41 = .ok (.iload_n 3, 1) := by decide +kernel
theorem dM_word_42 : decode cM_word 42 = .ok (.ireturn, 1) := by decide +kernel
theorem dM_known_0 : decode cM_known 0 = .ok (.iconst 0, 1) := by decide +kernel
theorem dM_known_1 : decode cM_known 1 = .ok (.istore_n 3, 1) := by decide +kernel
theorem dM_known_2 : decode cM_known 2 = .ok (.iconst 0, 1) := by decide +kernel
theorem dM_known_3 : decode cM_known 3 = .ok (.istore 4, 2) := by decide +kernel
theorem dM_known_5 : decode cM_known 5 = .ok (.iload 4, 2) := by decide +kernel
theorem dM_known_7 : decode cM_known 7 = .ok (.bipush 32, 2) := by decide +kernel
theorem dM_known_9 : decode cM_known 9 = .ok (.if_icmp .ge 36, 3) := by decide +kernel
theorem dM_known_12 : decode cM_known 12 = .ok (.aload_n 0, 1) := by decide +kernel
theorem dM_known_13 : decode cM_known 13 = .ok (.getfield 25, 3) := by decide +kernel
theorem dM_known_16 : decode cM_known 16 = .ok (.bipush 32, 2) := by decide +kernel
theorem dM_known_18 : decode cM_known 18 = .ok (.iload_n 1, 1) := by decide +kernel
theorem dM_known_19 : decode cM_known 19 = .ok (.imul, 1) := by decide +kernel
theorem dM_known_20 : decode cM_known 20 = .ok (.iload 4, 2) := by decide +kernel
theorem dM_known_22 : decode cM_known 22 = .ok (.iadd, 1) := by decide +kernel
theorem dM_known_23 : decode cM_known 23 = .ok (.iaload, 1) := by decide +kernel
theorem dM_known_24 : decode cM_known 24 = .ok (.iload_n 2, 1) := by decide +kernel
theorem dM_known_25 : decode cM_known 25 = .ok (.if_icmp .ne 12, 3) := by decide +kernel
theorem dM_known_28 : decode cM_known 28 = .ok (.iload_n 3, 1) := by decide +kernel
theorem dM_known_29 : decode cM_known 29 = .ok (.iconst 1, 1) := by decide +kernel
theorem dM_known_30 : decode cM_known 30 = .ok (.iload 4, 2) := by decide +kernel
theorem dM_known_32 : decode cM_known 32 = .ok (.ishl, 1) := by decide +kernel
theorem dM_known_33 : decode cM_known 33 = .ok (.ior, 1) := by decide +kernel
theorem dM_known_34 : decode cM_known 34 = .ok (.goto 4, 3) := by decide +kernel
theorem dM_known_37 : decode cM_known 37 = .ok (.iload_n 3, 1) := by decide +kernel
theorem dM_known_38 : decode cM_known 38 = .ok (.istore_n 3, 1) := by decide +kernel
theorem dM_known_39 : decode cM_known 39 = .ok (.iinc 4 1, 3) := by decide +kernel
theorem dM_known_42 : decode cM_known 42 = .ok (.goto (-37), 3) := by decide +kernel
theorem dM_known_45 : decode cM_known 45 = .ok (.iload_n 3, 1) := by decide +kernel
theorem dM_known_46 : decode cM_known 46 = .ok (.ireturn, 1) := by decide +kernel
theorem dM_bits_0 : decode cM_bits 0 = .ok (.aload_n 0, 1) := by decide +kernel
theorem dM_bits_1 : decode cM_bits 1 = .ok (.aload_n 0, 1) := by decide +kernel
theorem dM_bits_2 : decode cM_bits 2 = .ok (.iload_n 1, 1) := by decide +kernel
theorem dM_bits_3 : decode cM_bits 3 = .ok (.invokevirtual 61, 3) := by decide +kernel
theorem dM_bits_6 : decode cM_bits 6 = .ok (.ifCond .ne 7, 3) := by decide +kernel
theorem dM_bits_9 : decode cM_bits 9 = .ok (.iconst 1, 1) := by decide +kernel
theorem dM_bits_10 : decode cM_bits 10 = .ok (.goto 17, 3) := by decide +kernel
theorem dM_bits_13 : decode cM_bits 13 = .ok (.iload_n 2, 1) := by decide +kernel
theorem dM_bits_14 : decode cM_bits 14 = .ok (.ifCond .lt 8, 3) := by decide +kernel
theorem dM_bits_17 : decode cM_bits 17 = .ok (.iload_n 2, 1) := by decide +kernel
theorem dM_bits_18 : decode cM_bits 18 = .ok (.iconst 4, 1) := by decide +kernel
theorem dM_bits_19 : decode cM_bits 19 = .ok (.if_icmp .le 7, 3) := by decide +kernel
theorem dM_bits_22 : decode cM_bits 22 = .ok (.iconst 2, 1) := by decide +kernel
theorem dM_bits_23 : decode cM_bits 23 = .ok (.goto 4, 3) := by decide +kernel
theorem dM_bits_26 : decode cM_bits 26 = .ok (.iconst 0, 1) := by decide +kernel
theorem dM_bits_27 : decode cM_bits 27 = .ok (.putfield 50, 3) := by decide +kernel
theorem dM_bits_30 : decode cM_bits 30 = .ok (.aload_n 0, 1) := by decide +kernel
theorem dM_bits_31 : decode cM_bits 31 = .ok (.getfield 50, 3) := by decide +kernel
theorem dM_bits_34 : decode cM_bits 34 = .ok (.ifCond .le 5, 3) := by decide +kernel
theorem dM_bits_37 : decode cM_bits 37 = .ok (.iconst 0, 1) := by decide +kernel
theorem dM_bits_38 : decode cM_bits 38 = .ok (.ireturn, 1) := by decide +kernel
theorem dM_bits_39 : decode cM_bits 39 = .ok (.aload_n 0, 1) := by decide +kernel
theorem dM_bits_40 : decode cM_bits 40 = .ok (.invokevirtual 138, 3) := by decide +kernel
theorem dM_bits_43 : decode cM_bits 43 = .ok (.iload_n 2, 1) := by decide +kernel
theorem dM_bits_44 : decode cM_bits 44 = .ok (.tableswitch 89 0 3 #[32, 39, 46, 56], 32) := by decide +kernel
theorem dM_bits_76 : decode cM_bits 76 = .ok (.aload_n 0, 1) := by decide +kernel
theorem dM_bits_77 : decode cM_bits 77 = .ok (.iload_n 1, 1) := by decide +kernel
theorem dM_bits_78 : decode cM_bits 78 = .ok (.iconst 0, 1) := by decide +kernel
theorem dM_bits_79 : decode cM_bits 79 = .ok (.invokevirtual 141, 3) := by decide +kernel
theorem dM_bits_82 : decode cM_bits 82 = .ok (.ireturn, 1) := by decide +kernel
theorem dM_bits_83 : decode cM_bits 83 = .ok (.aload_n 0, 1) := by decide +kernel
theorem dM_bits_84 : decode cM_bits 84 = .ok (.iload_n 1, 1) := by decide +kernel
theorem dM_bits_85 : decode cM_bits 85 = .ok (.iconst 1, 1) := by decide +kernel
theorem dM_bits_86 : decode cM_bits 86 = .ok (.invokevirtual 141, 3) := by decide +kernel
theorem dM_bits_89 : decode cM_bits 89 = .ok (.ireturn, 1) := by decide +kernel
theorem dM_bits_90 : decode cM_bits 90 = .ok (.aload_n 0, 1) := by decide +kernel
theorem dM_bits_91 : decode cM_bits 91 = .ok (.aload_n 0, 1) := by decide +kernel
theorem dM_bits_92 : decode cM_bits 92 = .ok (.getfield 28, 3) := by decide +kernel
theorem dM_bits_95 : decode cM_bits 95 = .ok (.iload_n 1, 1) := by decide +kernel
theorem dM_bits_96 : decode cM_bits 96 = .ok (.invokevirtual 144, 3) := by decide +kernel
theorem dM_bits_99 : decode cM_bits 99 = .ok (.ireturn, 1) := by decide +kernel
theorem dM_bits_100 : decode cM_bits 100 = .ok (.aload_n 0, 1) := by decide +kernel
theorem dM_bits_101 : decode cM_bits 101 = .ok (.iload_n 1, 1) := by decide +kernel
theorem dM_bits_102 : decode cM_bits 102 = .ok (.bipush 8, 2) := by decide +kernel
theorem dM_bits_104 : decode cM_bits 104 = .ok (.invokevirtual 124, 3) := by decide +kernel
theorem dM_bits_107 : decode cM_bits 107 = .ok (.ifCond .eq 8, 3) := by decide +kernel
theorem dM_bits_110 : decode cM_bits 110 = .ok (.bipush 8, 2) := by decide +kernel
theorem dM_bits_112 : decode cM_bits 112 = .ok (.goto 20, 3) := by decide +kernel
theorem dM_bits_115 : decode cM_bits 115 = .ok (.aload_n 0, 1) := by decide +kernel
theorem dM_bits_116 : decode cM_bits 116 = .ok (.iload_n 1, 1) := by decide +kernel
theorem dM_bits_117 : decode cM_bits 117 = .ok (.bipush 16, 2) := by decide +kernel
theorem dM_bits_119 : decode cM_bits 119 = .ok (.invokevirtual 124, 3) := by decide +kernel
theorem dM_bits_122 : decode cM_bits 122 = .ok (.ifCond .eq 8, 3) := by decide +kernel
theorem dM_bits_125 : decode cM_bits 125 = .ok (.bipush 16, 2) := by decide +kernel
theorem dM_bits_127 : decode cM_bits 127 = .ok (.goto 5, 3) := by decide +kernel
theorem dM_bits_130 : decode cM_bits 130 = .ok (.bipush 32, 2) := by decide +kernel
theorem dM_bits_132 : decode cM_bits 132 = .ok (.ireturn, 1) := by decide +kernel
theorem dM_bits_133 : decode cM_bits 133 = .ok (.aload_n 0, 1) := by decide +kernel
theorem dM_bits_134 : decode cM_bits 134 = .ok (.aload_n 0, 1) := by decide +kernel
theorem dM_bits_135 : decode cM_bits 135 = .ok (.getfield 32, 3) := by decide +kernel
theorem dM_bits_138 : decode cM_bits 138 = .ok (.iload_n 1, 1) := by decide +kernel
theorem dM_bits_139 : decode cM_bits 139 = .ok (.invokevirtual 144, 3) := by decide +kernel
theorem dM_bits_142 : decode cM_bits 142 = .ok (.ireturn, 1) := by decide +kernel
theorem dM_replaced_0 : decode cM_replaced 0 = .ok (.aload_n 0, 1) := by decide +kernel
theorem dM_replaced_1 : decode cM_replaced 1 = .ok (.aload_n 0, 1) := by decide +kernel
theorem dM_replaced_2 : decode cM_replaced 2 = .ok (.iload_n 1, 1) := by decide +kernel
theorem dM_replaced_3 : decode cM_replaced 3 = .ok (.invokevirtual 61, 3) := by decide +kernel
theorem dM_replaced_6 : decode cM_replaced 6 = .ok (.ifCond .eq 7, 3) := by decide +kernel
theorem dM_replaced_9 : decode cM_replaced 9 = .ok (.iconst 0, 1) := by decide +kernel
theorem dM_replaced_10 : decode cM_replaced 10 = .ok (.goto 4, 3) := by decide +kernel
theorem dM_replaced_13 : decode cM_replaced 13 = .ok (.iconst 1, 1) := by decide +kernel
theorem dM_replaced_14 : decode cM_replaced 14 = .ok (.putfield 50, 3) := by decide +kernel
theorem dM_replaced_17 : decode cM_replaced 17 = .ok (.aload_n 0, 1) := by decide +kernel
theorem dM_replaced_18 : decode cM_replaced 18 = .ok (.getfield 50, 3) := by decide +kernel
theorem dM_replaced_21 : decode cM_replaced 21 = .ok (.ifCond .le 5, 3) := by decide +kernel
theorem dM_replaced_24 : decode cM_replaced 24 = .ok (.iconst 0, 1) := by decide +kernel
theorem dM_replaced_25 : decode cM_replaced 25 = .ok (.ireturn, 1) := by decide +kernel
theorem dM_replaced_26 : decode cM_replaced 26 = .ok (.aload_n 0, 1) := by decide +kernel
theorem dM_replaced_27 : decode cM_replaced 27 = .ok (.invokevirtual 138, 3) := by decide +kernel
theorem dM_replaced_30 : decode cM_replaced 30 = .ok (.aload_n 0, 1) := by decide +kernel
theorem dM_replaced_31 : decode cM_replaced 31 = .ok (.getfield 35, 3) := by decide +kernel
theorem dM_replaced_34 : decode cM_replaced 34 = .ok (.iload_n 1, 1) := by decide +kernel
theorem dM_replaced_35 : decode cM_replaced 35 = .ok (.iaload, 1) := by decide +kernel
theorem dM_replaced_36 : decode cM_replaced 36 = .ok (.ireturn, 1) := by decide +kernel
theorem dM_live_0 : decode cM_live 0 = .ok (.aload_n 0, 1) := by decide +kernel
theorem dM_live_1 : decode cM_live 1 = .ok (.iconst 0, 1) := by decide +kernel
theorem dM_live_2 : decode cM_live 2 = .ok (.putfield 50, 3) := by decide +kernel
theorem dM_live_5 : decode cM_live 5 = .ok (.aload_n 0, 1) := by decide +kernel
theorem dM_live_6 : decode cM_live 6 = .ok (.invokevirtual 138, 3) := by decide +kernel
theorem dM_live_9 : decode cM_live 9 = .ok (.iconst 0, 1) := by decide +kernel
theorem dM_live_10 : decode cM_live 10 = .ok (.istore_n 1, 1) := by decide +kernel
theorem dM_live_11 : decode cM_live 11 = .ok (.iconst 0, 1) := by decide +kernel
theorem dM_live_12 : decode cM_live 12 = .ok (.istore_n 2, 1) := by decide +kernel
theorem dM_live_13 : decode cM_live 13 = .ok (.iload_n 2, 1) := by decide +kernel
theorem dM_live_14 : decode cM_live 14 = .ok (.aload_n 0, 1) := by decide +kernel
theorem dM_live_15 : decode cM_live 15 = .ok (.getfield 54, 3) := by decide +kernel
theorem dM_live_18 : decode cM_live 18 = .ok (.if_icmp .ge 29, 3) := by decide +kernel
theorem dM_live_21 : decode cM_live 21 = .ok (.aload_n 0, 1) := by decide +kernel
theorem dM_live_22 : decode cM_live 22 = .ok (.aload_n 0, 1) := by decide +kernel
theorem dM_live_23 : decode cM_live 23 = .ok (.getfield 32, 3) := by decide +kernel
theorem dM_live_26 : decode cM_live 26 = .ok (.iload_n 2, 1) := by decide +kernel
theorem dM_live_27 : decode cM_live 27 = .ok (.invokevirtual 144, 3) := by decide +kernel
theorem dM_live_30 : decode cM_live 30 = .ok (.ifCond .eq 9, 3) := by decide +kernel
theorem dM_live_33 : decode cM_live 33 = .ok (.iload_n 1, 1) := by decide +kernel
theorem dM_live_34 : decode cM_live 34 = .ok (.iconst 1, 1) := by decide +kernel
theorem dM_live_35 : decode cM_live 35 = .ok (.iadd, 1) := by decide +kernel
theorem dM_live_36 : decode cM_live 36 = .ok (.goto 4, 3) := by decide +kernel
theorem dM_live_39 : decode cM_live 39 = .ok (.iload_n 1, 1) := by decide +kernel
theorem dM_live_40 : decode cM_live 40 = .ok (.istore_n 1, 1) := by decide +kernel
theorem dM_live_41 : decode cM_live 41 = .ok (.iinc 2 1, 3) := by decide +kernel
theorem dM_live_44 : decode cM_live 44 = .ok (.goto (-31), 3) := by decide +kernel
theorem dM_live_47 : decode cM_live 47 = .ok (.iload_n 1, 1) := by decide +kernel
theorem dM_live_48 : decode cM_live 48 = .ok (.ireturn, 1) := by decide +kernel
theorem dM_reckon_0 : decode cM_reckon 0 = .ok (.aload_n 0, 1) := by decide +kernel
theorem dM_reckon_1 : decode cM_reckon 1 = .ok (.getfield 7, 3) := by decide +kernel
theorem dM_reckon_4 : decode cM_reckon 4 = .ok (.iload_n 1, 1) := by decide +kernel
theorem dM_reckon_5 : decode cM_reckon 5 = .ok (.iaload, 1) := by decide +kernel
theorem dM_reckon_6 : decode cM_reckon 6 = .ok (.bipush 13, 2) := by decide +kernel
theorem dM_reckon_8 : decode cM_reckon 8 = .ok (.if_icmp .ge 14, 3) := by decide +kernel
theorem dM_reckon_11 : decode cM_reckon 11 = .ok (.aload_n 2, 1) := by decide +kernel
theorem dM_reckon_12 : decode cM_reckon 12 = .ok (.aload_n 0, 1) := by decide +kernel
theorem dM_reckon_13 : decode cM_reckon 13 = .ok (.getfield 13, 3) := by decide +kernel
theorem dM_reckon_16 : decode cM_reckon 16 = .ok (.iload_n 1, 1) := by decide +kernel
theorem dM_reckon_17 : decode cM_reckon 17 = .ok (.iaload, 1) := by decide +kernel
theorem dM_reckon_18 : decode cM_reckon 18 = .ok (.iaload, 1) := by decide +kernel
theorem dM_reckon_19 : decode cM_reckon 19 = .ok (.goto 9, 3) := by decide +kernel
theorem dM_reckon_22 : decode cM_reckon 22 = .ok (.aload_n 0, 1) := by decide +kernel
theorem dM_reckon_23 : decode cM_reckon 23 = .ok (.getfield 13, 3) := by decide +kernel
theorem dM_reckon_26 : decode cM_reckon 26 = .ok (.iload_n 1, 1) := by decide +kernel
theorem dM_reckon_27 : decode cM_reckon 27 = .ok (.iaload, 1) := by decide +kernel
theorem dM_reckon_28 : decode cM_reckon 28 = .ok (.istore_n 3, 1) := by decide +kernel
theorem dM_reckon_29 : decode cM_reckon 29 = .ok (.aload_n 0, 1) := by decide +kernel
theorem dM_reckon_30 : decode cM_reckon 30 = .ok (.getfield 7, 3) := by decide +kernel
theorem dM_reckon_33 : decode cM_reckon 33 = .ok (.iload_n 1, 1) := by decide +kernel
theorem dM_reckon_34 : decode cM_reckon 34 = .ok (.iaload, 1) := by decide +kernel
theorem dM_reckon_35 : decode cM_reckon 35 = .ok (.iconst 5, 1) := by decide +kernel
theorem dM_reckon_36 : decode cM_reckon 36 = .ok (.if_icmp .gt 14, 3) := by decide +kernel
theorem dM_reckon_39 : decode cM_reckon 39 = .ok (.aload_n 2, 1) := by decide +kernel
theorem dM_reckon_40 : decode cM_reckon 40 = .ok (.aload_n 0, 1) := by decide +kernel
theorem dM_reckon_41 : decode cM_reckon 41 = .ok (.getfield 16, 3) := by decide +kernel
theorem dM_reckon_44 : decode cM_reckon 44 = .ok (.iload_n 1, 1) := by decide +kernel
theorem dM_reckon_45 : decode cM_reckon 45 = .ok (.iaload, 1) := by decide +kernel
theorem dM_reckon_46 : decode cM_reckon 46 = .ok (.iaload, 1) := by decide +kernel
theorem dM_reckon_47 : decode cM_reckon 47 = .ok (.goto 9, 3) := by decide +kernel
theorem dM_reckon_50 : decode cM_reckon 50 = .ok (.aload_n 0, 1) := by decide +kernel
theorem dM_reckon_51 : decode cM_reckon 51 = .ok (.getfield 16, 3) := by decide +kernel
theorem dM_reckon_54 : decode cM_reckon 54 = .ok (.iload_n 1, 1) := by decide +kernel
theorem dM_reckon_55 : decode cM_reckon 55 = .ok (.iaload, 1) := by decide +kernel
theorem dM_reckon_56 : decode cM_reckon 56 = .ok (.istore 4, 2) := by decide +kernel
theorem dM_reckon_58 : decode cM_reckon 58 = .ok (.aload_n 0, 1) := by decide +kernel
theorem dM_reckon_59 : decode cM_reckon 59 = .ok (.getfield 7, 3) := by decide +kernel
theorem dM_reckon_62 : decode cM_reckon 62 = .ok (.iload_n 1, 1) := by decide +kernel
theorem dM_reckon_63 : decode cM_reckon 63 = .ok (.iaload, 1) := by decide +kernel
theorem dM_reckon_64 : decode cM_reckon 64 = .ok (.tableswitch 121 0 10 #[60, 65, 70, 75, 80, 85, 90, 95, 100, 105, 113], 60) := by decide +kernel
theorem dM_reckon_124 : decode cM_reckon 124 = .ok (.iload_n 3, 1) := by decide +kernel
theorem dM_reckon_125 : decode cM_reckon 125 = .ok (.iload 4, 2) := by decide +kernel
theorem dM_reckon_127 : decode cM_reckon 127 = .ok (.iadd, 1) := by decide +kernel
theorem dM_reckon_128 : decode cM_reckon 128 = .ok (.ireturn, 1) := by decide +kernel
theorem dM_reckon_129 : decode cM_reckon 129 = .ok (.iload_n 3, 1) := by decide +kernel
theorem dM_reckon_130 : decode cM_reckon 130 = .ok (.iload 4, 2) := by decide +kernel
theorem dM_reckon_132 : decode cM_reckon 132 = .ok (.isub, 1) := by decide +kernel
theorem dM_reckon_133 : decode cM_reckon 133 = .ok (.ireturn, 1) := by decide +kernel
theorem dM_reckon_134 : decode cM_reckon 134 = .ok (.iload_n 3, 1) := by decide +kernel
theorem dM_reckon_135 : decode cM_reckon 135 = .ok (.iload 4, 2) := by decide +kernel
theorem dM_reckon_137 : decode cM_reckon 137 = .ok (.imul, 1) := by decide +kernel
theorem dM_reckon_138 : decode cM_reckon 138 = .ok (.ireturn, 1) := by decide +kernel
theorem dM_reckon_139 : decode cM_reckon 139 = .ok (.iload_n 3, 1) := by decide +kernel
theorem dM_reckon_140 : decode cM_reckon 140 = .ok (.iload 4, 2) := by decide +kernel
theorem dM_reckon_142 : decode cM_reckon 142 = .ok (.iand, 1) := by decide +kernel
theorem dM_reckon_143 : decode cM_reckon 143 = .ok (.ireturn, 1) := by decide +kernel
theorem dM_reckon_144 : decode cM_reckon 144 = .ok (.iload_n 3, 1) := by decide +kernel
theorem dM_reckon_145 : decode cM_reckon 145 = .ok (.iload 4, 2) := by decide +kernel
theorem dM_reckon_147 : decode cM_reckon 147 = .ok (.ior, 1) := by decide +kernel
theorem dM_reckon_148 : decode cM_reckon 148 = .ok (.ireturn, 1) := by decide +kernel
theorem dM_reckon_149 : decode cM_reckon 149 = .ok (.iload_n 3, 1) := by decide +kernel
theorem dM_reckon_150 : decode cM_reckon 150 = .ok (.iload 4, 2) := by decide +kernel
theorem dM_reckon_152 : decode cM_reckon 152 = .ok (.ixor, 1) := by decide +kernel
theorem dM_reckon_153 : decode cM_reckon 153 = .ok (.ireturn, 1) := by decide +kernel
theorem dM_reckon_154 : decode cM_reckon 154 = .ok (.iload_n 3, 1) := by decide +kernel
theorem dM_reckon_155 : decode cM_reckon 155 = .ok (.iload 4, 2) := by decide +kernel
theorem dM_reckon_157 : decode cM_reckon 157 = .ok (.ishl, 1) := by decide +kernel
theorem dM_reckon_158 : decode cM_reckon 158 = .ok (.ireturn, 1) := by decide +kernel
theorem dM_reckon_159 : decode cM_reckon 159 = .ok (.iload_n 3, 1) := by decide +kernel
theorem dM_reckon_160 : decode cM_reckon 160 = .ok (.iload 4, 2) := by decide +kernel
theorem dM_reckon_162 : decode cM_reckon 162 = .ok (.ishr, 1) := by decide +kernel
theorem dM_reckon_163 : decode cM_reckon 163 = .ok (.ireturn, 1) := by decide +kernel
theorem dM_reckon_164 : decode cM_reckon 164 = .ok (.iload_n 3, 1) := by decide +kernel
theorem dM_reckon_165 : decode cM_reckon 165 = .ok (.iload 4, 2) := by decide +kernel
theorem dM_reckon_167 : decode cM_reckon 167 = .ok (.iushr, 1) := by decide +kernel
theorem dM_reckon_168 : decode cM_reckon 168 = .ok (.ireturn, 1) := by decide +kernel
theorem dM_reckon_169 : decode cM_reckon 169 = .ok (.iload_n 3, 1) := by decide +kernel
theorem dM_reckon_170 : decode cM_reckon 170 = .ok (.bipush 24, 2) := by decide +kernel
theorem dM_reckon_172 : decode cM_reckon 172 = .ok (.ishl, 1) := by decide +kernel
theorem dM_reckon_173 : decode cM_reckon 173 = .ok (.bipush 24, 2) := by decide +kernel
theorem dM_reckon_175 : decode cM_reckon 175 = .ok (.ishr, 1) := by decide +kernel
theorem dM_reckon_176 : decode cM_reckon 176 = .ok (.ireturn, 1) := by decide +kernel
theorem dM_reckon_177 : decode cM_reckon 177 = .ok (.iload_n 3, 1) := by decide +kernel
theorem dM_reckon_178 : decode cM_reckon 178 = .ok (.bipush 16, 2) := by decide +kernel
theorem dM_reckon_180 : decode cM_reckon 180 = .ok (.ishl, 1) := by decide +kernel
theorem dM_reckon_181 : decode cM_reckon 181 = .ok (.bipush 16, 2) := by decide +kernel
theorem dM_reckon_183 : decode cM_reckon 183 = .ok (.ishr, 1) := by decide +kernel
theorem dM_reckon_184 : decode cM_reckon 184 = .ok (.ireturn, 1) := by decide +kernel
theorem dM_reckon_185 : decode cM_reckon 185 = .ok (.iload_n 3, 1) := by decide +kernel
theorem dM_reckon_186 : decode cM_reckon 186 = .ok (.ireturn, 1) := by decide +kernel
theorem dM_runOne_0 : decode cM_runOne 0 = .ok (.iconst 0, 1) := by decide +kernel
theorem dM_runOne_1 : decode cM_runOne 1 = .ok (.istore 7, 2) := by decide +kernel
theorem dM_runOne_3 : decode cM_runOne 3 = .ok (.iload 7, 2) := by decide +kernel
theorem dM_runOne_5 : decode cM_runOne 5 = .ok (.iload_n 3, 1) := by decide +kernel
theorem dM_runOne_6 : decode cM_runOne 6 = .ok (.if_icmp .ge 220, 3) := by decide +kernel
theorem dM_runOne_9 : decode cM_runOne 9 = .ok (.iconst 0, 1) := by decide +kernel
theorem dM_runOne_10 : decode cM_runOne 10 = .ok (.istore 8, 2) := by decide +kernel
theorem dM_runOne_12 : decode cM_runOne 12 = .ok (.iload 8, 2) := by decide +kernel
theorem dM_runOne_14 : decode cM_runOne 14 = .ok (.aload_n 0, 1) := by decide +kernel
theorem dM_runOne_15 : decode cM_runOne 15 = .ok (.getfield 54, 3) := by decide +kernel
theorem dM_runOne_18 : decode cM_runOne 18 = .ok (.if_icmp .ge 20, 3) := by decide +kernel
theorem dM_runOne_21 : decode cM_runOne 21 = .ok (.aload_n 0, 1) := by decide +kernel
theorem dM_runOne_22 : decode cM_runOne 22 = .ok (.getfield 47, 3) := by decide +kernel
theorem dM_runOne_25 : decode cM_runOne 25 = .ok (.iload 8, 2) := by decide +kernel
theorem dM_runOne_27 : decode cM_runOne 27 = .ok (.aload_n 1, 1) := by decide +kernel
theorem dM_runOne_28 : decode cM_runOne 28 = .ok (.iload 8, 2) := by decide +kernel
theorem dM_runOne_30 : decode cM_runOne 30 = .ok (.iaload, 1) := by decide +kernel
theorem dM_runOne_31 : decode cM_runOne 31 = .ok (.iastore, 1) := by decide +kernel
theorem dM_runOne_32 : decode cM_runOne 32 = .ok (.iinc 8 1, 3) := by decide +kernel
theorem dM_runOne_35 : decode cM_runOne 35 = .ok (.goto (-23), 3) := by decide +kernel
theorem dM_runOne_38 : decode cM_runOne 38 = .ok (.iconst 0, 1) := by decide +kernel
theorem dM_runOne_39 : decode cM_runOne 39 = .ok (.istore 8, 2) := by decide +kernel
theorem dM_runOne_41 : decode cM_runOne 41 = .ok (.iload 8, 2) := by decide +kernel
theorem dM_runOne_43 : decode cM_runOne 43 = .ok (.aload_n 0, 1) := by decide +kernel
theorem dM_runOne_44 : decode cM_runOne 44 = .ok (.getfield 54, 3) := by decide +kernel
theorem dM_runOne_47 : decode cM_runOne 47 = .ok (.if_icmp .ge 173, 3) := by decide +kernel
theorem dM_runOne_50 : decode cM_runOne 50 = .ok (.iload_n 2, 1) := by decide +kernel
theorem dM_runOne_51 : decode cM_runOne 51 = .ok (.ifCond .eq 52, 3) := by decide +kernel
theorem dM_runOne_54 : decode cM_runOne 54 = .ok (.aload_n 0, 1) := by decide +kernel
theorem dM_runOne_55 : decode cM_runOne 55 = .ok (.getfield 35, 3) := by decide +kernel
theorem dM_runOne_58 : decode cM_runOne 58 = .ok (.iload 8, 2) := by decide +kernel
theorem dM_runOne_60 : decode cM_runOne 60 = .ok (.iaload, 1) := by decide +kernel
theorem dM_runOne_61 : decode cM_runOne 61 = .ok (.iconst (-1), 1) := by decide +kernel
theorem dM_runOne_62 : decode cM_runOne 62 = .ok (.if_icmp .eq 41, 3) := by decide +kernel
theorem dM_runOne_65 : decode cM_runOne 65 = .ok (.aload_n 1, 1) := by decide +kernel
theorem dM_runOne_66 : decode cM_runOne 66 = .ok (.iload 8, 2) := by decide +kernel
theorem dM_runOne_68 : decode cM_runOne 68 = .ok (.aload_n 0, 1) := by decide +kernel
theorem dM_runOne_69 : decode cM_runOne 69 = .ok (.getfield 35, 3) := by decide +kernel
theorem dM_runOne_72 : decode cM_runOne 72 = .ok (.iload 8, 2) := by decide +kernel
theorem dM_runOne_74 : decode cM_runOne 74 = .ok (.iaload, 1) := by decide +kernel
theorem dM_runOne_75 : decode cM_runOne 75 = .ok (.bipush (-2), 2) := by decide +kernel
theorem dM_runOne_77 : decode cM_runOne 77 = .ok (.if_icmp .ne 13, 3) := by decide +kernel
theorem dM_runOne_80 : decode cM_runOne 80 = .ok (.aload_n 0, 1) := by decide +kernel
theorem dM_runOne_81 : decode cM_runOne 81 = .ok (.iload 8, 2) := by decide +kernel
theorem dM_runOne_83 : decode cM_runOne 83 = .ok (.iconst 1, 1) := by decide +kernel
theorem dM_runOne_84 : decode cM_runOne 84 = .ok (.invokevirtual 141, 3) := by decide +kernel
theorem dM_runOne_87 : decode cM_runOne 87 = .ok (.goto 12, 3) := by decide +kernel
theorem dM_runOne_90 : decode cM_runOne 90 = .ok (.aload_n 1, 1) := by decide +kernel
theorem dM_runOne_91 : decode cM_runOne 91 = .ok (.aload_n 0, 1) := by decide +kernel
theorem dM_runOne_92 : decode cM_runOne 92 = .ok (.getfield 35, 3) := by decide +kernel
theorem dM_runOne_95 : decode cM_runOne 95 = .ok (.iload 8, 2) := by decide +kernel
theorem dM_runOne_97 : decode cM_runOne 97 = .ok (.iaload, 1) := by decide +kernel
theorem dM_runOne_98 : decode cM_runOne 98 = .ok (.iaload, 1) := by decide +kernel
theorem dM_runOne_99 : decode cM_runOne 99 = .ok (.iastore, 1) := by decide +kernel
theorem dM_runOne_100 : decode cM_runOne 100 = .ok (.goto 114, 3) := by decide +kernel
theorem dM_runOne_103 : decode cM_runOne 103 = .ok (.aload_n 0, 1) := by decide +kernel
theorem dM_runOne_104 : decode cM_runOne 104 = .ok (.getfield 7, 3) := by decide +kernel
theorem dM_runOne_107 : decode cM_runOne 107 = .ok (.iload 8, 2) := by decide +kernel
theorem dM_runOne_109 : decode cM_runOne 109 = .ok (.iaload, 1) := by decide +kernel
theorem dM_runOne_110 : decode cM_runOne 110 = .ok (.bipush 11, 2) := by decide +kernel
theorem dM_runOne_112 : decode cM_runOne 112 = .ok (.if_icmp .ne 39, 3) := by decide +kernel
theorem dM_runOne_115 : decode cM_runOne 115 = .ok (.aload_n 1, 1) := by decide +kernel
theorem dM_runOne_116 : decode cM_runOne 116 = .ok (.iload 8, 2) := by decide +kernel
theorem dM_runOne_118 : decode cM_runOne 118 = .ok (.iload 7, 2) := by decide +kernel
theorem dM_runOne_120 : decode cM_runOne 120 = .ok (.ifCond .ne 15, 3) := by decide +kernel
theorem dM_runOne_123 : decode cM_runOne 123 = .ok (.aload_n 1, 1) := by decide +kernel
theorem dM_runOne_124 : decode cM_runOne 124 = .ok (.aload_n 0, 1) := by decide +kernel
theorem dM_runOne_125 : decode cM_runOne 125 = .ok (.getfield 13, 3) := by decide +kernel
theorem dM_runOne_128 : decode cM_runOne 128 = .ok (.iload 8, 2) := by decide +kernel
theorem dM_runOne_130 : decode cM_runOne 130 = .ok (.iaload, 1) := by decide +kernel
theorem dM_runOne_131 : decode cM_runOne 131 = .ok (.iaload, 1) := by decide +kernel
theorem dM_runOne_132 : decode cM_runOne 132 = .ok (.goto 15, 3) := by decide +kernel
theorem dM_runOne_135 : decode cM_runOne 135 = .ok (.aload_n 0, 1) := by decide +kernel
theorem dM_runOne_136 : decode cM_runOne 136 = .ok (.getfield 47, 3) := by decide +kernel
theorem dM_runOne_139 : decode cM_runOne 139 = .ok (.aload_n 0, 1) := by decide +kernel
theorem dM_runOne_140 : decode cM_runOne 140 = .ok (.getfield 16, 3) := by decide +kernel
theorem dM_runOne_143 : decode cM_runOne 143 = .ok (.iload 8, 2) := by decide +kernel
theorem dM_runOne_145 : decode cM_runOne 145 = .ok (.iaload, 1) := by decide +kernel
theorem dM_runOne_146 : decode cM_runOne 146 = .ok (.iaload, 1) := by decide +kernel
theorem dM_runOne_147 : decode cM_runOne 147 = .ok (.iastore, 1) := by decide +kernel
theorem dM_runOne_148 : decode cM_runOne 148 = .ok (.goto 66, 3) := by decide +kernel
theorem dM_runOne_151 : decode cM_runOne 151 = .ok (.aload_n 0, 1) := by decide +kernel
theorem dM_runOne_152 : decode cM_runOne 152 = .ok (.getfield 7, 3) := by decide +kernel
theorem dM_runOne_155 : decode cM_runOne 155 = .ok (.iload 8, 2) := by decide +kernel
theorem dM_runOne_157 : decode cM_runOne 157 = .ok (.iaload, 1) := by decide +kernel
theorem dM_runOne_158 : decode cM_runOne 158 = .ok (.bipush 12, 2) := by decide +kernel
theorem dM_runOne_160 : decode cM_runOne 160 = .ok (.if_icmp .ne 43, 3) := by decide +kernel
theorem dM_runOne_163 : decode cM_runOne 163 = .ok (.aload_n 1, 1) := by decide +kernel
theorem dM_runOne_164 : decode cM_runOne 164 = .ok (.iload 8, 2) := by decide +kernel
theorem dM_runOne_166 : decode cM_runOne 166 = .ok (.aload_n 0, 1) := by decide +kernel
theorem dM_runOne_167 : decode cM_runOne 167 = .ok (.getfield 13, 3) := by decide +kernel
theorem dM_runOne_170 : decode cM_runOne 170 = .ok (.iload 8, 2) := by decide +kernel
theorem dM_runOne_172 : decode cM_runOne 172 = .ok (.iaload, 1) := by decide +kernel
theorem dM_runOne_173 : decode cM_runOne 173 = .ok (.ifCond .ne 8, 3) := by decide +kernel
theorem dM_runOne_176 : decode cM_runOne 176 = .ok (.iload 4, 2) := by decide +kernel
theorem dM_runOne_178 : decode cM_runOne 178 = .ok (.goto 21, 3) := by decide +kernel
theorem dM_runOne_181 : decode cM_runOne 181 = .ok (.aload_n 0, 1) := by decide +kernel
theorem dM_runOne_182 : decode cM_runOne 182 = .ok (.getfield 13, 3) := by decide +kernel
theorem dM_runOne_185 : decode cM_runOne 185 = .ok (.iload 8, 2) := by decide +kernel
theorem dM_runOne_187 : decode cM_runOne 187 = .ok (.iaload, 1) := by decide +kernel
theorem dM_runOne_188 : decode cM_runOne 188 = .ok (.iconst 1, 1) := by decide +kernel
theorem dM_runOne_189 : decode cM_runOne 189 = .ok (.if_icmp .ne 8, 3) := by decide +kernel
theorem dM_runOne_192 : decode cM_runOne 192 = .ok (.iload 5, 2) := by decide +kernel
theorem dM_runOne_194 : decode cM_runOne 194 = .ok (.goto 5, 3) := by decide +kernel
theorem dM_runOne_197 : decode cM_runOne 197 = .ok (.iload 6, 2) := by decide +kernel
theorem dM_runOne_199 : decode cM_runOne 199 = .ok (.iastore, 1) := by decide +kernel
theorem dM_runOne_200 : decode cM_runOne 200 = .ok (.goto 14, 3) := by decide +kernel
theorem dM_runOne_203 : decode cM_runOne 203 = .ok (.aload_n 1, 1) := by decide +kernel
theorem dM_runOne_204 : decode cM_runOne 204 = .ok (.iload 8, 2) := by decide +kernel
theorem dM_runOne_206 : decode cM_runOne 206 = .ok (.aload_n 0, 1) := by decide +kernel
theorem dM_runOne_207 : decode cM_runOne 207 = .ok (.iload 8, 2) := by decide +kernel
theorem dM_runOne_209 : decode cM_runOne 209 = .ok (.aload_n 1, 1) := by decide +kernel
theorem dM_runOne_210 : decode cM_runOne 210 = .ok (.invokevirtual 148, 3) := by decide +kernel
theorem dM_runOne_213 : decode cM_runOne 213 = .ok (.iastore, 1) := by decide +kernel
theorem dM_runOne_214 : decode cM_runOne 214 = .ok (.iinc 8 1, 3) := by decide +kernel
theorem dM_runOne_217 : decode cM_runOne 217 = .ok (.goto (-176), 3) := by decide +kernel
theorem dM_runOne_220 : decode cM_runOne 220 = .ok (.iinc 7 1, 3) := by decide +kernel
theorem dM_runOne_223 : decode cM_runOne 223 = .ok (.goto (-220), 3) := by decide +kernel
theorem dM_runOne_226 : decode cM_runOne 226 = .ok (.return_, 1) := by decide +kernel
theorem dM_run_0 : decode cM_run 0 = .ok (.aload_n 0, 1) := by decide +kernel
theorem dM_run_1 : decode cM_run 1 = .ok (.iload_n 1, 1) := by decide +kernel
theorem dM_run_2 : decode cM_run 2 = .ok (.iconst 1, 1) := by decide +kernel
theorem dM_run_3 : decode cM_run 3 = .ok (.if_icmp .lt 9, 3) := by decide +kernel
theorem dM_run_6 : decode cM_run 6 = .ok (.iload_n 1, 1) := by decide +kernel
theorem dM_run_7 : decode cM_run 7 = .ok (.bipush 50, 2) := by decide +kernel
theorem dM_run_9 : decode cM_run 9 = .ok (.if_icmp .le 7, 3) := by decide +kernel
theorem dM_run_12 : decode cM_run 12 = .ok (.iconst 1, 1) := by decide +kernel
theorem dM_run_13 : decode cM_run 13 = .ok (.goto 4, 3) := by decide +kernel
theorem dM_run_16 : decode cM_run 16 = .ok (.iconst 0, 1) := by decide +kernel
theorem dM_run_17 : decode cM_run 17 = .ok (.putfield 50, 3) := by decide +kernel
theorem dM_run_20 : decode cM_run 20 = .ok (.aload_n 0, 1) := by decide +kernel
theorem dM_run_21 : decode cM_run 21 = .ok (.getfield 50, 3) := by decide +kernel
theorem dM_run_24 : decode cM_run 24 = .ok (.ifCond .le 5, 3) := by decide +kernel
theorem dM_run_27 : decode cM_run 27 = .ok (.iconst 0, 1) := by decide +kernel
theorem dM_run_28 : decode cM_run 28 = .ok (.ireturn, 1) := by decide +kernel
theorem dM_run_29 : decode cM_run 29 = .ok (.aload_n 0, 1) := by decide +kernel
theorem dM_run_30 : decode cM_run 30 = .ok (.invokevirtual 138, 3) := by decide +kernel
theorem dM_run_33 : decode cM_run 33 = .ok (.aload_n 0, 1) := by decide +kernel
theorem dM_run_34 : decode cM_run 34 = .ok (.aload_n 0, 1) := by decide +kernel
theorem dM_run_35 : decode cM_run 35 = .ok (.getfield 41, 3) := by decide +kernel
theorem dM_run_38 : decode cM_run 38 = .ok (.iconst 0, 1) := by decide +kernel
theorem dM_run_39 : decode cM_run 39 = .ok (.iload_n 1, 1) := by decide +kernel
theorem dM_run_40 : decode cM_run 40 = .ok (.iload_n 2, 1) := by decide +kernel
theorem dM_run_41 : decode cM_run 41 = .ok (.iload_n 3, 1) := by decide +kernel
theorem dM_run_42 : decode cM_run 42 = .ok (.iload 4, 2) := by decide +kernel
theorem dM_run_44 : decode cM_run 44 = .ok (.invokevirtual 152, 3) := by decide +kernel
theorem dM_run_47 : decode cM_run 47 = .ok (.aload_n 0, 1) := by decide +kernel
theorem dM_run_48 : decode cM_run 48 = .ok (.aload_n 0, 1) := by decide +kernel
theorem dM_run_49 : decode cM_run 49 = .ok (.getfield 44, 3) := by decide +kernel
theorem dM_run_52 : decode cM_run 52 = .ok (.iconst 1, 1) := by decide +kernel
theorem dM_run_53 : decode cM_run 53 = .ok (.iload_n 1, 1) := by decide +kernel
theorem dM_run_54 : decode cM_run 54 = .ok (.iload_n 2, 1) := by decide +kernel
theorem dM_run_55 : decode cM_run 55 = .ok (.iload_n 3, 1) := by decide +kernel
theorem dM_run_56 : decode cM_run 56 = .ok (.iload 4, 2) := by decide +kernel
theorem dM_run_58 : decode cM_run 58 = .ok (.invokevirtual 152, 3) := by decide +kernel
theorem dM_run_61 : decode cM_run 61 = .ok (.aload_n 0, 1) := by decide +kernel
theorem dM_run_62 : decode cM_run 62 = .ok (.aload_n 0, 1) := by decide +kernel
theorem dM_run_63 : decode cM_run 63 = .ok (.getfield 54, 3) := by decide +kernel
theorem dM_run_66 : decode cM_run 66 = .ok (.putfield 156, 3) := by decide +kernel
theorem dM_run_69 : decode cM_run 69 = .ok (.aload_n 0, 1) := by decide +kernel
theorem dM_run_70 : decode cM_run 70 = .ok (.aload_n 0, 1) := by decide +kernel
theorem dM_run_71 : decode cM_run 71 = .ok (.getfield 65, 3) := by decide +kernel
theorem dM_run_74 : decode cM_run 74 = .ok (.putfield 159, 3) := by decide +kernel
theorem dM_run_77 : decode cM_run 77 = .ok (.iconst 0, 1) := by decide +kernel
theorem dM_run_78 : decode cM_run 78 = .ok (.istore 5, 2) := by decide +kernel
theorem dM_run_80 : decode cM_run 80 = .ok (.iconst 0, 1) := by decide +kernel
theorem dM_run_81 : decode cM_run 81 = .ok (.istore 6, 2) := by decide +kernel
theorem dM_run_83 : decode cM_run 83 = .ok (.iload 6, 2) := by decide +kernel
theorem dM_run_85 : decode cM_run 85 = .ok (.aload_n 0, 1) := by decide +kernel
theorem dM_run_86 : decode cM_run 86 = .ok (.getfield 54, 3) := by decide +kernel
theorem dM_run_89 : decode cM_run 89 = .ok (.if_icmp .ge 37, 3) := by decide +kernel
theorem dM_run_92 : decode cM_run 92 = .ok (.aload_n 0, 1) := by decide +kernel
theorem dM_run_93 : decode cM_run 93 = .ok (.getfield 41, 3) := by decide +kernel
theorem dM_run_96 : decode cM_run 96 = .ok (.iload 6, 2) := by decide +kernel
theorem dM_run_98 : decode cM_run 98 = .ok (.iaload, 1) := by decide +kernel
theorem dM_run_99 : decode cM_run 99 = .ok (.aload_n 0, 1) := by decide +kernel
theorem dM_run_100 : decode cM_run 100 = .ok (.getfield 44, 3) := by decide +kernel
theorem dM_run_103 : decode cM_run 103 = .ok (.iload 6, 2) := by decide +kernel
theorem dM_run_105 : decode cM_run 105 = .ok (.iaload, 1) := by decide +kernel
theorem dM_run_106 : decode cM_run 106 = .ok (.if_icmp .eq 10, 3) := by decide +kernel
theorem dM_run_109 : decode cM_run 109 = .ok (.iload 5, 2) := by decide +kernel
theorem dM_run_111 : decode cM_run 111 = .ok (.iconst 1, 1) := by decide +kernel
theorem dM_run_112 : decode cM_run 112 = .ok (.iadd, 1) := by decide +kernel
theorem dM_run_113 : decode cM_run 113 = .ok (.goto 5, 3) := by decide +kernel
theorem dM_run_116 : decode cM_run 116 = .ok (.iload 5, 2) := by decide +kernel
theorem dM_run_118 : decode cM_run 118 = .ok (.istore 5, 2) := by decide +kernel
theorem dM_run_120 : decode cM_run 120 = .ok (.iinc 6 1, 3) := by decide +kernel
theorem dM_run_123 : decode cM_run 123 = .ok (.goto (-40), 3) := by decide +kernel
theorem dM_run_126 : decode cM_run 126 = .ok (.iload 5, 2) := by decide +kernel
theorem dM_run_128 : decode cM_run 128 = .ok (.ireturn, 1) := by decide +kernel
theorem dM_observed_0 : decode cM_observed 0 = .ok (.aload_n 0, 1) := by decide +kernel
theorem dM_observed_1 : decode cM_observed 1 = .ok (.iload_n 1, 1) := by decide +kernel
theorem dM_observed_2 : decode cM_observed 2 = .ok (.ifCond .lt 15, 3) := by decide +kernel
theorem dM_observed_5 : decode cM_observed 5 = .ok (.iload_n 1, 1) := by decide +kernel
theorem dM_observed_6 : decode cM_observed 6 = .ok (.aload_n 0, 1) := by decide +kernel
theorem dM_observed_7 : decode cM_observed 7 = .ok (.getfield 65, 3) := by decide +kernel
theorem dM_observed_10 : decode cM_observed 10 = .ok (.if_icmp .ge 7, 3) := by decide +kernel
theorem dM_observed_13 : decode cM_observed 13 = .ok (.iconst 0, 1) := by decide +kernel
theorem dM_observed_14 : decode cM_observed 14 = .ok (.goto 4, 3) := by decide +kernel
theorem dM_observed_17 : decode cM_observed 17 = .ok (.iconst 1, 1) := by decide +kernel
theorem dM_observed_18 : decode cM_observed 18 = .ok (.putfield 50, 3) := by decide +kernel
theorem dM_observed_21 : decode cM_observed 21 = .ok (.aload_n 0, 1) := by decide +kernel
theorem dM_observed_22 : decode cM_observed 22 = .ok (.getfield 50, 3) := by decide +kernel
theorem dM_observed_25 : decode cM_observed 25 = .ok (.ifCond .gt 11, 3) := by decide +kernel
theorem dM_observed_28 : decode cM_observed 28 = .ok (.iload_n 1, 1) := by decide +kernel
theorem dM_observed_29 : decode cM_observed 29 = .ok (.aload_n 0, 1) := by decide +kernel
theorem dM_observed_30 : decode cM_observed 30 = .ok (.getfield 159, 3) := by decide +kernel
theorem dM_observed_33 : decode cM_observed 33 = .ok (.if_icmp .lt 5, 3) := by decide +kernel
theorem dM_observed_36 : decode cM_observed 36 = .ok (.iconst 0, 1) := by decide +kernel
theorem dM_observed_37 : decode cM_observed 37 = .ok (.ireturn, 1) := by decide +kernel
theorem dM_observed_38 : decode cM_observed 38 = .ok (.iload_n 2, 1) := by decide +kernel
theorem dM_observed_39 : decode cM_observed 39 = .ok (.ifCond .eq 17, 3) := by decide +kernel
theorem dM_observed_42 : decode cM_observed 42 = .ok (.aload_n 0, 1) := by decide +kernel
theorem dM_observed_43 : decode cM_observed 43 = .ok (.getfield 44, 3) := by decide +kernel
theorem dM_observed_46 : decode cM_observed 46 = .ok (.aload_n 0, 1) := by decide +kernel
theorem dM_observed_47 : decode cM_observed 47 = .ok (.getfield 19, 3) := by decide +kernel
theorem dM_observed_50 : decode cM_observed 50 = .ok (.iload_n 1, 1) := by decide +kernel
theorem dM_observed_51 : decode cM_observed 51 = .ok (.iaload, 1) := by decide +kernel
theorem dM_observed_52 : decode cM_observed 52 = .ok (.iaload, 1) := by decide +kernel
theorem dM_observed_53 : decode cM_observed 53 = .ok (.goto 14, 3) := by decide +kernel
theorem dM_observed_56 : decode cM_observed 56 = .ok (.aload_n 0, 1) := by decide +kernel
theorem dM_observed_57 : decode cM_observed 57 = .ok (.getfield 41, 3) := by decide +kernel
theorem dM_observed_60 : decode cM_observed 60 = .ok (.aload_n 0, 1) := by decide +kernel
theorem dM_observed_61 : decode cM_observed 61 = .ok (.getfield 19, 3) := by decide +kernel
theorem dM_observed_64 : decode cM_observed 64 = .ok (.iload_n 1, 1) := by decide +kernel
theorem dM_observed_65 : decode cM_observed 65 = .ok (.iaload, 1) := by decide +kernel
theorem dM_observed_66 : decode cM_observed 66 = .ok (.iaload, 1) := by decide +kernel
theorem dM_observed_67 : decode cM_observed 67 = .ok (.aload_n 0, 1) := by decide +kernel
theorem dM_observed_68 : decode cM_observed 68 = .ok (.getfield 22, 3) := by decide +kernel
theorem dM_observed_71 : decode cM_observed 71 = .ok (.iload_n 1, 1) := by decide +kernel
theorem dM_observed_72 : decode cM_observed 72 = .ok (.iaload, 1) := by decide +kernel
theorem dM_observed_73 : decode cM_observed 73 = .ok (.iand, 1) := by decide +kernel
theorem dM_observed_74 : decode cM_observed 74 = .ok (.ireturn, 1) := by decide +kernel
theorem dM_value_0 : decode cM_value 0 = .ok (.aload_n 0, 1) := by decide +kernel
theorem dM_value_1 : decode cM_value 1 = .ok (.aload_n 0, 1) := by decide +kernel
theorem dM_value_2 : decode cM_value 2 = .ok (.iload_n 1, 1) := by decide +kernel
theorem dM_value_3 : decode cM_value 3 = .ok (.invokevirtual 61, 3) := by decide +kernel
theorem dM_value_6 : decode cM_value 6 = .ok (.ifCond .eq 7, 3) := by decide +kernel
theorem dM_value_9 : decode cM_value 9 = .ok (.iconst 0, 1) := by decide +kernel
theorem dM_value_10 : decode cM_value 10 = .ok (.goto 4, 3) := by decide +kernel
theorem dM_value_13 : decode cM_value 13 = .ok (.iconst 1, 1) := by decide +kernel
theorem dM_value_14 : decode cM_value 14 = .ok (.putfield 50, 3) := by decide +kernel
theorem dM_value_17 : decode cM_value 17 = .ok (.aload_n 0, 1) := by decide +kernel
theorem dM_value_18 : decode cM_value 18 = .ok (.getfield 50, 3) := by decide +kernel
theorem dM_value_21 : decode cM_value 21 = .ok (.ifCond .gt 11, 3) := by decide +kernel
theorem dM_value_24 : decode cM_value 24 = .ok (.iload_n 1, 1) := by decide +kernel
theorem dM_value_25 : decode cM_value 25 = .ok (.aload_n 0, 1) := by decide +kernel
theorem dM_value_26 : decode cM_value 26 = .ok (.getfield 156, 3) := by decide +kernel
theorem dM_value_29 : decode cM_value 29 = .ok (.if_icmp .lt 5, 3) := by decide +kernel
theorem dM_value_32 : decode cM_value 32 = .ok (.iconst 0, 1) := by decide +kernel
theorem dM_value_33 : decode cM_value 33 = .ok (.ireturn, 1) := by decide +kernel
theorem dM_value_34 : decode cM_value 34 = .ok (.iload_n 2, 1) := by decide +kernel
theorem dM_value_35 : decode cM_value 35 = .ok (.ifCond .eq 12, 3) := by decide +kernel
theorem dM_value_38 : decode cM_value 38 = .ok (.aload_n 0, 1) := by decide +kernel
theorem dM_value_39 : decode cM_value 39 = .ok (.getfield 44, 3) := by decide +kernel
theorem dM_value_42 : decode cM_value 42 = .ok (.iload_n 1, 1) := by decide +kernel
theorem dM_value_43 : decode cM_value 43 = .ok (.iaload, 1) := by decide +kernel
theorem dM_value_44 : decode cM_value 44 = .ok (.goto 9, 3) := by decide +kernel
theorem dM_value_47 : decode cM_value 47 = .ok (.aload_n 0, 1) := by decide +kernel
theorem dM_value_48 : decode cM_value 48 = .ok (.getfield 41, 3) := by decide +kernel
theorem dM_value_51 : decode cM_value 51 = .ok (.iload_n 1, 1) := by decide +kernel
theorem dM_value_52 : decode cM_value 52 = .ok (.iaload, 1) := by decide +kernel
theorem dM_value_53 : decode cM_value 53 = .ok (.ireturn, 1) := by decide +kernel
