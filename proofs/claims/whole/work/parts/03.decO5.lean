theorem dC_follow_77 : decode cC_follow 77 = .ok (.getfield 9, 3) := by decide +kernel
theorem dC_follow_80 : decode cC_follow 80 = .ok (.aload_n 2, 1) := by decide +kernel
theorem dC_follow_81 : decode cC_follow 81 = .ok (.iload 7, 2) := by decide +kernel
theorem dC_follow_83 : decode cC_follow 83 = .ok (.iaload, 1) := by decide +kernel
theorem dC_follow_84 : decode cC_follow 84 = .ok (.iaload, 1) := by decide +kernel
theorem dC_follow_85 : decode cC_follow 85 = .ok (.iastore, 1) := by decide +kernel
theorem dC_follow_86 : decode cC_follow 86 = .ok (.goto 107, 3) := by decide +kernel
theorem dC_follow_89 : decode cC_follow 89 = .ok (.aload_n 1, 1) := by decide +kernel
theorem dC_follow_90 : decode cC_follow 90 = .ok (.getfield 33, 3) := by decide +kernel
theorem dC_follow_93 : decode cC_follow 93 = .ok (.iload 7, 2) := by decide +kernel
theorem dC_follow_95 : decode cC_follow 95 = .ok (.iaload, 1) := by decide +kernel
theorem dC_follow_96 : decode cC_follow 96 = .ok (.bipush 13, 2) := by decide +kernel
theorem dC_follow_98 : decode cC_follow 98 = .ok (.if_icmp .ne 45, 3) := by decide +kernel
theorem dC_follow_101 : decode cC_follow 101 = .ok (.aload_n 0, 1) := by decide +kernel
theorem dC_follow_102 : decode cC_follow 102 = .ok (.getfield 9, 3) := by decide +kernel
theorem dC_follow_105 : decode cC_follow 105 = .ok (.iload 7, 2) := by decide +kernel
theorem dC_follow_107 : decode cC_follow 107 = .ok (.iload 6, 2) := by decide +kernel
theorem dC_follow_109 : decode cC_follow 109 = .ok (.ifCond .ne 18, 3) := by decide +kernel
theorem dC_follow_112 : decode cC_follow 112 = .ok (.aload_n 0, 1) := by decide +kernel
theorem dC_follow_113 : decode cC_follow 113 = .ok (.getfield 9, 3) := by decide +kernel
theorem dC_follow_116 : decode cC_follow 116 = .ok (.aload_n 1, 1) := by decide +kernel
theorem dC_follow_117 : decode cC_follow 117 = .ok (.getfield 36, 3) := by decide +kernel
theorem dC_follow_120 : decode cC_follow 120 = .ok (.iload 7, 2) := by decide +kernel
theorem dC_follow_122 : decode cC_follow 122 = .ok (.iaload, 1) := by decide +kernel
theorem dC_follow_123 : decode cC_follow 123 = .ok (.iaload, 1) := by decide +kernel
theorem dC_follow_124 : decode cC_follow 124 = .ok (.goto 15, 3) := by decide +kernel
theorem dC_follow_127 : decode cC_follow 127 = .ok (.aload_n 0, 1) := by decide +kernel
theorem dC_follow_128 : decode cC_follow 128 = .ok (.getfield 18, 3) := by decide +kernel
theorem dC_follow_131 : decode cC_follow 131 = .ok (.aload_n 1, 1) := by decide +kernel
theorem dC_follow_132 : decode cC_follow 132 = .ok (.getfield 39, 3) := by decide +kernel
theorem dC_follow_135 : decode cC_follow 135 = .ok (.iload 7, 2) := by decide +kernel
theorem dC_follow_137 : decode cC_follow 137 = .ok (.iaload, 1) := by decide +kernel
theorem dC_follow_138 : decode cC_follow 138 = .ok (.iaload, 1) := by decide +kernel
theorem dC_follow_139 : decode cC_follow 139 = .ok (.iastore, 1) := by decide +kernel
theorem dC_follow_140 : decode cC_follow 140 = .ok (.goto 53, 3) := by decide +kernel
theorem dC_follow_143 : decode cC_follow 143 = .ok (.aload_n 0, 1) := by decide +kernel
theorem dC_follow_144 : decode cC_follow 144 = .ok (.getfield 9, 3) := by decide +kernel
theorem dC_follow_147 : decode cC_follow 147 = .ok (.iload 7, 2) := by decide +kernel
theorem dC_follow_149 : decode cC_follow 149 = .ok (.aload_n 1, 1) := by decide +kernel
theorem dC_follow_150 : decode cC_follow 150 = .ok (.getfield 33, 3) := by decide +kernel
theorem dC_follow_153 : decode cC_follow 153 = .ok (.iload 7, 2) := by decide +kernel
theorem dC_follow_155 : decode cC_follow 155 = .ok (.iaload, 1) := by decide +kernel
theorem dC_follow_156 : decode cC_follow 156 = .ok (.aload_n 0, 1) := by decide +kernel
theorem dC_follow_157 : decode cC_follow 157 = .ok (.getfield 9, 3) := by decide +kernel
theorem dC_follow_160 : decode cC_follow 160 = .ok (.aload_n 1, 1) := by decide +kernel
theorem dC_follow_161 : decode cC_follow 161 = .ok (.getfield 36, 3) := by decide +kernel
theorem dC_follow_164 : decode cC_follow 164 = .ok (.iload 7, 2) := by decide +kernel
theorem dC_follow_166 : decode cC_follow 166 = .ok (.iaload, 1) := by decide +kernel
theorem dC_follow_167 : decode cC_follow 167 = .ok (.iaload, 1) := by decide +kernel
theorem dC_follow_168 : decode cC_follow 168 = .ok (.aload_n 0, 1) := by decide +kernel
theorem dC_follow_169 : decode cC_follow 169 = .ok (.getfield 9, 3) := by decide +kernel
theorem dC_follow_172 : decode cC_follow 172 = .ok (.aload_n 1, 1) := by decide +kernel
theorem dC_follow_173 : decode cC_follow 173 = .ok (.getfield 39, 3) := by decide +kernel
theorem dC_follow_176 : decode cC_follow 176 = .ok (.iload 7, 2) := by decide +kernel
theorem dC_follow_178 : decode cC_follow 178 = .ok (.iaload, 1) := by decide +kernel
theorem dC_follow_179 : decode cC_follow 179 = .ok (.iaload, 1) := by decide +kernel
theorem dC_follow_180 : decode cC_follow 180 = .ok (.aload_n 1, 1) := by decide +kernel
theorem dC_follow_181 : decode cC_follow 181 = .ok (.getfield 42, 3) := by decide +kernel
theorem dC_follow_184 : decode cC_follow 184 = .ok (.iload 7, 2) := by decide +kernel
theorem dC_follow_186 : decode cC_follow 186 = .ok (.iaload, 1) := by decide +kernel
theorem dC_follow_187 : decode cC_follow 187 = .ok (.aload 4, 2) := by decide +kernel
theorem dC_follow_189 : decode cC_follow 189 = .ok (.invokestatic 45, 3) := by decide +kernel
theorem dC_follow_192 : decode cC_follow 192 = .ok (.iastore, 1) := by decide +kernel
theorem dC_follow_193 : decode cC_follow 193 = .ok (.iinc 7 1, 3) := by decide +kernel
theorem dC_follow_196 : decode cC_follow 196 = .ok (.goto (-166), 3) := by decide +kernel
theorem dC_follow_199 : decode cC_follow 199 = .ok (.iinc 6 1, 3) := by decide +kernel
theorem dC_follow_202 : decode cC_follow 202 = .ok (.goto (-199), 3) := by decide +kernel
theorem dC_follow_205 : decode cC_follow 205 = .ok (.iconst 0, 1) := by decide +kernel
theorem dC_follow_206 : decode cC_follow 206 = .ok (.istore 6, 2) := by decide +kernel
theorem dC_follow_208 : decode cC_follow 208 = .ok (.iload 6, 2) := by decide +kernel
theorem dC_follow_210 : decode cC_follow 210 = .ok (.aload_n 1, 1) := by decide +kernel
theorem dC_follow_211 : decode cC_follow 211 = .ok (.getfield 49, 3) := by decide +kernel
theorem dC_follow_214 : decode cC_follow 214 = .ok (.if_icmp .ge 36, 3) := by decide +kernel
theorem dC_follow_217 : decode cC_follow 217 = .ok (.aload_n 0, 1) := by decide +kernel
theorem dC_follow_218 : decode cC_follow 218 = .ok (.getfield 15, 3) := by decide +kernel
theorem dC_follow_221 : decode cC_follow 221 = .ok (.iload 6, 2) := by decide +kernel
theorem dC_follow_223 : decode cC_follow 223 = .ok (.aload_n 0, 1) := by decide +kernel
theorem dC_follow_224 : decode cC_follow 224 = .ok (.getfield 9, 3) := by decide +kernel
theorem dC_follow_227 : decode cC_follow 227 = .ok (.aload_n 1, 1) := by decide +kernel
theorem dC_follow_228 : decode cC_follow 228 = .ok (.getfield 52, 3) := by decide +kernel
theorem dC_follow_231 : decode cC_follow 231 = .ok (.iload 6, 2) := by decide +kernel
theorem dC_follow_233 : decode cC_follow 233 = .ok (.iaload, 1) := by decide +kernel
theorem dC_follow_234 : decode cC_follow 234 = .ok (.iaload, 1) := by decide +kernel
theorem dC_follow_235 : decode cC_follow 235 = .ok (.aload_n 1, 1) := by decide +kernel
theorem dC_follow_236 : decode cC_follow 236 = .ok (.getfield 55, 3) := by decide +kernel
theorem dC_follow_239 : decode cC_follow 239 = .ok (.iload 6, 2) := by decide +kernel
theorem dC_follow_241 : decode cC_follow 241 = .ok (.iaload, 1) := by decide +kernel
theorem dC_follow_242 : decode cC_follow 242 = .ok (.iand, 1) := by decide +kernel
theorem dC_follow_243 : decode cC_follow 243 = .ok (.iastore, 1) := by decide +kernel
theorem dC_follow_244 : decode cC_follow 244 = .ok (.iinc 6 1, 3) := by decide +kernel
theorem dC_follow_247 : decode cC_follow 247 = .ok (.goto (-39), 3) := by decide +kernel
theorem dC_follow_250 : decode cC_follow 250 = .ok (.return_, 1) := by decide +kernel
theorem dC_workOut_0 : decode cC_workOut 0 = .ok (.iload_n 0, 1) := by decide +kernel
theorem dC_workOut_1 : decode cC_workOut 1 = .ok (.tableswitch 114 0 12 #[67, 71, 75, 79, 83, 87, 91, 95, 99, 109, 114, 103, 106], 67) := by decide +kernel
theorem dC_workOut_68 : decode cC_workOut 68 = .ok (.iload_n 1, 1) := by decide +kernel
theorem dC_workOut_69 : decode cC_workOut 69 = .ok (.iload_n 2, 1) := by decide +kernel
theorem dC_workOut_70 : decode cC_workOut 70 = .ok (.iadd, 1) := by decide +kernel
theorem dC_workOut_71 : decode cC_workOut 71 = .ok (.ireturn, 1) := by decide +kernel
theorem dC_workOut_72 : decode cC_workOut 72 = .ok (.iload_n 1, 1) := by decide +kernel
theorem dC_workOut_73 : decode cC_workOut 73 = .ok (.iload_n 2, 1) := by decide +kernel
theorem dC_workOut_74 : decode cC_workOut 74 = .ok (.isub, 1) := by decide +kernel
theorem dC_workOut_75 : decode cC_workOut 75 = .ok (.ireturn, 1) := by decide +kernel
theorem dC_workOut_76 : decode cC_workOut 76 = .ok (.iload_n 1, 1) := by decide +kernel
theorem dC_workOut_77 : decode cC_workOut 77 = .ok (.iload_n 2, 1) := by decide +kernel
theorem dC_workOut_78 : decode cC_workOut 78 = .ok (.imul, 1) := by decide +kernel
theorem dC_workOut_79 : decode cC_workOut 79 = .ok (.ireturn, 1) := by decide +kernel
theorem dC_workOut_80 : decode cC_workOut 80 = .ok (.iload_n 1, 1) := by decide +kernel
theorem dC_workOut_81 : decode cC_workOut 81 = .ok (.iload_n 2, 1) := by decide +kernel
theorem dC_workOut_82 : decode cC_workOut 82 = .ok (.iand, 1) := by decide +kernel
theorem dC_workOut_83 : decode cC_workOut 83 = .ok (.ireturn, 1) := by decide +kernel
theorem dC_workOut_84 : decode cC_workOut 84 = .ok (.iload_n 1, 1) := by decide +kernel
theorem dC_workOut_85 : decode cC_workOut 85 = .ok (.iload_n 2, 1) := by decide +kernel
theorem dC_workOut_86 : decode cC_workOut 86 = .ok (.ior, 1) := by decide +kernel
theorem dC_workOut_87 : decode cC_workOut 87 = .ok (.ireturn, 1) := by decide +kernel
theorem dC_workOut_88 : decode cC_workOut 88 = .ok (.iload_n 1, 1) := by decide +kernel
theorem dC_workOut_89 : decode cC_workOut 89 = .ok (.iload_n 2, 1) := by decide +kernel
theorem dC_workOut_90 : decode cC_workOut 90 = .ok (.ixor, 1) := by decide +kernel
theorem dC_workOut_91 : decode cC_workOut 91 = .ok (.ireturn, 1) := by decide +kernel
theorem dC_workOut_92 : decode cC_workOut 92 = .ok (.iload_n 1, 1) := by decide +kernel
theorem dC_workOut_93 : decode cC_workOut 93 = .ok (.iload_n 3, 1) := by decide +kernel
theorem dC_workOut_94 : decode cC_workOut 94 = .ok (.ishl, 1) := by decide +kernel
theorem dC_workOut_95 : decode cC_workOut 95 = .ok (.ireturn, 1) := by decide +kernel
theorem dC_workOut_96 : decode cC_workOut 96 = .ok (.iload_n 1, 1) := by decide +kernel
theorem dC_workOut_97 : decode cC_workOut 97 = .ok (.iload_n 3, 1) := by decide +kernel
theorem dC_workOut_98 : decode cC_workOut 98 = .ok (.ishr, 1) := by decide +kernel
theorem dC_workOut_99 : decode cC_workOut 99 = .ok (.ireturn, 1) := by decide +kernel
theorem dC_workOut_100 : decode cC_workOut 100 = .ok (.iload_n 1, 1) := by decide +kernel
theorem dC_workOut_101 : decode cC_workOut 101 = .ok (.iload_n 3, 1) := by decide +kernel
theorem dC_workOut_102 : decode cC_workOut 102 = .ok (.iushr, 1) := by decide +kernel
theorem dC_workOut_103 : decode cC_workOut 103 = .ok (.ireturn, 1) := by decide +kernel
theorem dC_workOut_104 : decode cC_workOut 104 = .ok (.iload_n 1, 1) := by decide +kernel
theorem dC_workOut_105 : decode cC_workOut 105 = .ok (.i2b, 1) := by decide +kernel
theorem dC_workOut_106 : decode cC_workOut 106 = .ok (.ireturn, 1) := by decide +kernel
theorem dC_workOut_107 : decode cC_workOut 107 = .ok (.iload_n 1, 1) := by decide +kernel
theorem dC_workOut_108 : decode cC_workOut 108 = .ok (.i2s, 1) := by decide +kernel
theorem dC_workOut_109 : decode cC_workOut 109 = .ok (.ireturn, 1) := by decide +kernel
theorem dC_workOut_110 : decode cC_workOut 110 = .ok (.aload 4, 2) := by decide +kernel
theorem dC_workOut_112 : decode cC_workOut 112 = .ok (.iload_n 3, 1) := by decide +kernel
theorem dC_workOut_113 : decode cC_workOut 113 = .ok (.iaload, 1) := by decide +kernel
theorem dC_workOut_114 : decode cC_workOut 114 = .ok (.ireturn, 1) := by decide +kernel
theorem dC_workOut_115 : decode cC_workOut 115 = .ok (.iload_n 3, 1) := by decide +kernel
theorem dC_workOut_116 : decode cC_workOut 116 = .ok (.ireturn, 1) := by decide +kernel
theorem dE_init_0 : decode cE_init 0 = .ok (.aload_n 0, 1) := by decide +kernel
theorem dE_init_1 : decode cE_init 1 = .ok (.invokespecial 3, 3) := by decide +kernel
theorem dE_init_4 : decode cE_init 4 = .ok (.aload_n 0, 1) := by decide +kernel
theorem dE_init_5 : decode cE_init 5 = .ok (.bipush 24, 2) := by decide +kernel
theorem dE_init_7 : decode cE_init 7 = .ok (.newarray .int, 2) := by decide +kernel
theorem dE_init_9 : decode cE_init 9 = .ok (.putfield 9, 3) := by decide +kernel
theorem dE_init_12 : decode cE_init 12 = .ok (.return_, 1) := by decide +kernel
theorem dE_find_0 : decode cE_find 0 = .ok (.aload_n 0, 1) := by decide +kernel
theorem dE_find_1 : decode cE_find 1 = .ok (.getfield 9, 3) := by decide +kernel
theorem dE_find_4 : decode cE_find 4 = .ok (.iconst 0, 1) := by decide +kernel
theorem dE_find_5 : decode cE_find 5 = .ok (.invokestatic 15, 3) := by decide +kernel
theorem dE_find_8 : decode cE_find 8 = .ok (.iconst 0, 1) := by decide +kernel
theorem dE_find_9 : decode cE_find 9 = .ok (.istore 4, 2) := by decide +kernel
theorem dE_find_11 : decode cE_find 11 = .ok (.iload 4, 2) := by decide +kernel
theorem dE_find_13 : decode cE_find 13 = .ok (.aload_n 1, 1) := by decide +kernel
theorem dE_find_14 : decode cE_find 14 = .ok (.getfield 21, 3) := by decide +kernel
theorem dE_find_17 : decode cE_find 17 = .ok (.if_icmp .ge 27, 3) := by decide +kernel
theorem dE_find_20 : decode cE_find 20 = .ok (.aload_n 0, 1) := by decide +kernel
theorem dE_find_21 : decode cE_find 21 = .ok (.aload_n 1, 1) := by decide +kernel
theorem dE_find_22 : decode cE_find 22 = .ok (.getfield 27, 3) := by decide +kernel
theorem dE_find_25 : decode cE_find 25 = .ok (.iload 4, 2) := by decide +kernel
theorem dE_find_27 : decode cE_find 27 = .ok (.iaload, 1) := by decide +kernel
theorem dE_find_28 : decode cE_find 28 = .ok (.aload_n 1, 1) := by decide +kernel
theorem dE_find_29 : decode cE_find 29 = .ok (.getfield 30, 3) := by decide +kernel
theorem dE_find_32 : decode cE_find 32 = .ok (.iload 4, 2) := by decide +kernel
theorem dE_find_34 : decode cE_find 34 = .ok (.iaload, 1) := by decide +kernel
theorem dE_find_35 : decode cE_find 35 = .ok (.invokevirtual 33, 3) := by decide +kernel
theorem dE_find_38 : decode cE_find 38 = .ok (.iinc 4 1, 3) := by decide +kernel
theorem dE_find_41 : decode cE_find 41 = .ok (.goto (-30), 3) := by decide +kernel
theorem dE_find_44 : decode cE_find 44 = .ok (.aload_n 0, 1) := by decide +kernel
theorem dE_find_45 : decode cE_find 45 = .ok (.iconst 1, 1) := by decide +kernel
theorem dE_find_46 : decode cE_find 46 = .ok (.putfield 37, 3) := by decide +kernel
theorem dE_find_49 : decode cE_find 49 = .ok (.iconst 0, 1) := by decide +kernel
theorem dE_find_50 : decode cE_find 50 = .ok (.istore 4, 2) := by decide +kernel
theorem dE_find_52 : decode cE_find 52 = .ok (.aload_n 0, 1) := by decide +kernel
theorem dE_find_53 : decode cE_find 53 = .ok (.getfield 37, 3) := by decide +kernel
theorem dE_find_56 : decode cE_find 56 = .ok (.ifCond .eq 53, 3) := by decide +kernel
theorem dE_find_59 : decode cE_find 59 = .ok (.iload 4, 2) := by decide +kernel
theorem dE_find_61 : decode cE_find 61 = .ok (.sipush 769, 3) := by decide +kernel
theorem dE_find_64 : decode cE_find 64 = .ok (.if_icmp .ge 45, 3) := by decide +kernel
theorem dE_find_67 : decode cE_find 67 = .ok (.aload_n 0, 1) := by decide +kernel
theorem dE_find_68 : decode cE_find 68 = .ok (.iconst 0, 1) := by decide +kernel
theorem dE_find_69 : decode cE_find 69 = .ok (.putfield 37, 3) := by decide +kernel
theorem dE_find_72 : decode cE_find 72 = .ok (.aload_n 1, 1) := by decide +kernel
theorem dE_find_73 : decode cE_find 73 = .ok (.getfield 41, 3) := by decide +kernel
theorem dE_find_76 : decode cE_find 76 = .ok (.iconst 1, 1) := by decide +kernel
theorem dE_find_77 : decode cE_find 77 = .ok (.isub, 1) := by decide +kernel
theorem dE_find_78 : decode cE_find 78 = .ok (.istore 5, 2) := by decide +kernel
theorem dE_find_80 : decode cE_find 80 = .ok (.iload 5, 2) := by decide +kernel
theorem dE_find_82 : decode cE_find 82 = .ok (.ifCond .lt 21, 3) := by decide +kernel
theorem dE_find_85 : decode cE_find 85 = .ok (.aload_n 0, 1) := by decide +kernel
theorem dE_find_86 : decode cE_find 86 = .ok (.aload_n 1, 1) := by decide +kernel
theorem dE_find_87 : decode cE_find 87 = .ok (.aload_n 2, 1) := by decide +kernel
theorem dE_find_88 : decode cE_find 88 = .ok (.aload_n 3, 1) := by decide +kernel
theorem dE_find_89 : decode cE_find 89 = .ok (.iload 5, 2) := by decide +kernel
theorem dE_find_91 : decode cE_find 91 = .ok (.iaload, 1) := by decide +kernel
theorem dE_find_92 : decode cE_find 92 = .ok (.iload 5, 2) := by decide +kernel
theorem dE_find_94 : decode cE_find 94 = .ok (.invokevirtual 44, 3) := by decide +kernel
theorem dE_find_97 : decode cE_find 97 = .ok (.iinc 5 (-1), 3) := by decide +kernel
theorem dE_find_100 : decode cE_find 100 = .ok (.goto (-20), 3) := by decide +kernel
theorem dE_find_103 : decode cE_find 103 = .ok (.iinc 4 1, 3) := by decide +kernel
theorem dE_find_106 : decode cE_find 106 = .ok (.goto (-54), 3) := by decide +kernel
theorem dE_find_109 : decode cE_find 109 = .ok (.return_, 1) := by decide +kernel
theorem dE_demand_0 : decode cE_demand 0 = .ok (.aload_n 0, 1) := by decide +kernel
theorem dE_demand_1 : decode cE_demand 1 = .ok (.getfield 9, 3) := by decide +kernel
theorem dE_demand_4 : decode cE_demand 4 = .ok (.iload_n 1, 1) := by decide +kernel
theorem dE_demand_5 : decode cE_demand 5 = .ok (.iaload, 1) := by decide +kernel
theorem dE_demand_6 : decode cE_demand 6 = .ok (.iload_n 2, 1) := by decide +kernel
theorem dE_demand_7 : decode cE_demand 7 = .ok (.ior, 1) := by decide +kernel
theorem dE_demand_8 : decode cE_demand 8 = .ok (.istore_n 3, 1) := by decide +kernel
theorem dE_demand_9 : decode cE_demand 9 = .ok (.iload_n 3, 1) := by decide +kernel
theorem dE_demand_10 : decode cE_demand 10 = .ok (.aload_n 0, 1) := by decide +kernel
theorem dE_demand_11 : decode cE_demand 11 = .ok (.getfield 9, 3) := by decide +kernel
theorem dE_demand_14 : decode cE_demand 14 = .ok (.iload_n 1, 1) := by decide +kernel
theorem dE_demand_15 : decode cE_demand 15 = .ok (.iaload, 1) := by decide +kernel
theorem dE_demand_16 : decode cE_demand 16 = .ok (.if_icmp .eq 15, 3) := by decide +kernel
theorem dE_demand_19 : decode cE_demand 19 = .ok (.aload_n 0, 1) := by decide +kernel
theorem dE_demand_20 : decode cE_demand 20 = .ok (.getfield 9, 3) := by decide +kernel
theorem dE_demand_23 : decode cE_demand 23 = .ok (.iload_n 1, 1) := by decide +kernel
theorem dE_demand_24 : decode cE_demand 24 = .ok (.iload_n 3, 1) := by decide +kernel
theorem dE_demand_25 : decode cE_demand 25 = .ok (.iastore, 1) := by decide +kernel
theorem dE_demand_26 : decode cE_demand 26 = .ok (.aload_n 0, 1) := by decide +kernel
theorem dE_demand_27 : decode cE_demand 27 = .ok (.iconst 1, 1) := by decide +kernel
theorem dE_demand_28 : decode cE_demand 28 = .ok (.putfield 37, 3) := by decide +kernel
theorem dE_demand_31 : decode cE_demand 31 = .ok (.return_, 1) := by decide +kernel
theorem dE_ask_0 : decode cE_ask 0 = .ok (.aload_n 0, 1) := by decide +kernel
theorem dE_ask_1 : decode cE_ask 1 = .ok (.getfield 9, 3) := by decide +kernel
theorem dE_ask_4 : decode cE_ask 4 = .ok (.iload 4, 2) := by decide +kernel
theorem dE_ask_6 : decode cE_ask 6 = .ok (.iaload, 1) := by decide +kernel
theorem dE_ask_7 : decode cE_ask 7 = .ok (.istore 5, 2) := by decide +kernel
theorem dE_ask_9 : decode cE_ask 9 = .ok (.iload_n 3, 1) := by decide +kernel
theorem dE_ask_10 : decode cE_ask 10 = .ok (.bipush (-2), 2) := by decide +kernel
theorem dE_ask_12 : decode cE_ask 12 = .ok (.if_icmp .ne 4, 3) := by decide +kernel
theorem dE_ask_15 : decode cE_ask 15 = .ok (.return_, 1) := by decide +kernel
theorem dE_ask_16 : decode cE_ask 16 = .ok (.iload_n 3, 1) := by decide +kernel
theorem dE_ask_17 : decode cE_ask 17 = .ok (.iconst (-1), 1) := by decide +kernel
theorem dE_ask_18 : decode cE_ask 18 = .ok (.if_icmp .eq 11, 3) := by decide +kernel
theorem dE_ask_21 : decode cE_ask 21 = .ok (.aload_n 0, 1) := by decide +kernel
theorem dE_ask_22 : decode cE_ask 22 = .ok (.iload_n 3, 1) := by decide +kernel
theorem dE_ask_23 : decode cE_ask 23 = .ok (.iload 5, 2) := by decide +kernel
theorem dE_ask_25 : decode cE_ask 25 = .ok (.invokevirtual 33, 3) := by decide +kernel
theorem dE_ask_28 : decode cE_ask 28 = .ok (.return_, 1) := by decide +kernel
theorem dE_ask_29 : decode cE_ask 29 = .ok (.aload_n 0, 1) := by decide +kernel
theorem dE_ask_30 : decode cE_ask 30 = .ok (.aload_n 1, 1) := by decide +kernel
theorem dE_ask_31 : decode cE_ask 31 = .ok (.getfield 48, 3) := by decide +kernel
theorem dE_ask_34 : decode cE_ask 34 = .ok (.iload 4, 2) := by decide +kernel
theorem dE_ask_36 : decode cE_ask 36 = .ok (.iaload, 1) := by decide +kernel
theorem dE_ask_37 : decode cE_ask 37 = .ok (.aload_n 1, 1) := by decide +kernel
theorem dE_ask_38 : decode cE_ask 38 = .ok (.aload_n 2, 1) := by decide +kernel
theorem dE_ask_39 : decode cE_ask 39 = .ok (.iload 4, 2) := by decide +kernel
theorem dE_ask_41 : decode cE_ask 41 = .ok (.iload 5, 2) := by decide +kernel
theorem dE_ask_43 : decode cE_ask 43 = .ok (.invokestatic 51, 3) := by decide +kernel
theorem dE_ask_46 : decode cE_ask 46 = .ok (.invokevirtual 33, 3) := by decide +kernel
theorem dE_ask_49 : decode cE_ask 49 = .ok (.aload_n 0, 1) := by decide +kernel
theorem dE_ask_50 : decode cE_ask 50 = .ok (.aload_n 1, 1) := by decide +kernel
theorem dE_ask_51 : decode cE_ask 51 = .ok (.getfield 55, 3) := by decide +kernel
theorem dE_ask_54 : decode cE_ask 54 = .ok (.iload 4, 2) := by decide +kernel
theorem dE_ask_56 : decode cE_ask 56 = .ok (.iaload, 1) := by decide +kernel
theorem dE_ask_57 : decode cE_ask 57 = .ok (.aload_n 1, 1) := by decide +kernel
theorem dE_ask_58 : decode cE_ask 58 = .ok (.aload_n 2, 1) := by decide +kernel
theorem dE_ask_59 : decode cE_ask 59 = .ok (.iload 4, 2) := by decide +kernel
theorem dE_ask_61 : decode cE_ask 61 = .ok (.iload 5, 2) := by decide +kernel
theorem dE_ask_63 : decode cE_ask 63 = .ok (.invokestatic 58, 3) := by decide +kernel
theorem dE_ask_66 : decode cE_ask 66 = .ok (.invokevirtual 33, 3) := by decide +kernel
theorem dE_ask_69 : decode cE_ask 69 = .ok (.return_, 1) := by decide +kernel
theorem dE_askedOfX_0 : decode cE_askedOfX 0 = .ok (.aload_n 0, 1) := by decide +kernel
theorem dE_askedOfX_1 : decode cE_askedOfX 1 = .ok (.getfield 55, 3) := by decide +kernel
theorem dE_askedOfX_4 : decode cE_askedOfX 4 = .ok (.iload_n 2, 1) := by decide +kernel
theorem dE_askedOfX_5 : decode cE_askedOfX 5 = .ok (.iaload, 1) := by decide +kernel
theorem dE_askedOfX_6 : decode cE_askedOfX 6 = .ok (.istore 4, 2) := by decide +kernel
theorem dE_askedOfX_8 : decode cE_askedOfX 8 = .ok (.aload_n 0, 1) := by decide +kernel
theorem dE_askedOfX_9 : decode cE_askedOfX 9 = .ok (.getfield 61, 3) := by decide +kernel
theorem dE_askedOfX_12 : decode cE_askedOfX 12 = .ok (.iload_n 2, 1) := by decide +kernel
theorem dE_askedOfX_13 : decode cE_askedOfX 13 = .ok (.iaload, 1) := by decide +kernel
theorem dE_askedOfX_14 : decode cE_askedOfX 14 = .ok (.istore 5, 2) := by decide +kernel
theorem dE_askedOfX_16 : decode cE_askedOfX 16 = .ok (.aload_n 0, 1) := by decide +kernel
theorem dE_askedOfX_17 : decode cE_askedOfX 17 = .ok (.getfield 64, 3) := by decide +kernel
theorem dE_askedOfX_20 : decode cE_askedOfX 20 = .ok (.iload_n 2, 1) := by decide +kernel
theorem dE_askedOfX_21 : decode cE_askedOfX 21 = .ok (.iaload, 1) := by decide +kernel
theorem dE_askedOfX_22 : decode cE_askedOfX 22 = .ok (.tableswitch 175 0 13 #[70, 70, 70, 75, 87, 99, 101, 106, 124, 175, 175, 129, 152, 99], 70) := by decide +kernel
theorem dE_askedOfX_92 : decode cE_askedOfX 92 = .ok (.iload_n 3, 1) := by decide +kernel
theorem dE_askedOfX_93 : decode cE_askedOfX 93 = .ok (.invokestatic 67, 3) := by decide +kernel
theorem dE_askedOfX_96 : decode cE_askedOfX 96 = .ok (.ireturn, 1) := by decide +kernel
theorem dE_askedOfX_97 : decode cE_askedOfX 97 = .ok (.iload_n 3, 1) := by decide +kernel
theorem dE_askedOfX_98 : decode cE_askedOfX 98 = .ok (.aload_n 1, 1) := by decide +kernel
theorem dE_askedOfX_99 : decode cE_askedOfX 99 = .ok (.getfield 71, 3) := by decide +kernel
theorem dE_askedOfX_102 : decode cE_askedOfX 102 = .ok (.iload 4, 2) := by decide +kernel
theorem dE_askedOfX_104 : decode cE_askedOfX 104 = .ok (.iaload, 1) := by decide +kernel
theorem dE_askedOfX_105 : decode cE_askedOfX 105 = .ok (.iconst (-1), 1) := by decide +kernel
theorem dE_askedOfX_106 : decode cE_askedOfX 106 = .ok (.ixor, 1) := by decide +kernel
theorem dE_askedOfX_107 : decode cE_askedOfX 107 = .ok (.iand, 1) := by decide +kernel
theorem dE_askedOfX_108 : decode cE_askedOfX 108 = .ok (.ireturn, 1) := by decide +kernel
theorem dE_askedOfX_109 : decode cE_askedOfX 109 = .ok (.iload_n 3, 1) := by decide +kernel
theorem dE_askedOfX_110 : decode cE_askedOfX 110 = .ok (.aload_n 1, 1) := by decide +kernel
theorem dE_askedOfX_111 : decode cE_askedOfX 111 = .ok (.getfield 76, 3) := by decide +kernel
theorem dE_askedOfX_114 : decode cE_askedOfX 114 = .ok (.iload 4, 2) := by decide +kernel
theorem dE_askedOfX_116 : decode cE_askedOfX 116 = .ok (.iaload, 1) := by decide +kernel
theorem dE_askedOfX_117 : decode cE_askedOfX 117 = .ok (.iconst (-1), 1) := by decide +kernel
theorem dE_askedOfX_118 : decode cE_askedOfX 118 = .ok (.ixor, 1) := by decide +kernel
theorem dE_askedOfX_119 : decode cE_askedOfX 119 = .ok (.iand, 1) := by decide +kernel
theorem dE_askedOfX_120 : decode cE_askedOfX 120 = .ok (.ireturn, 1) := by decide +kernel
theorem dE_askedOfX_121 : decode cE_askedOfX 121 = .ok (.iload_n 3, 1) := by decide +kernel
theorem dE_askedOfX_122 : decode cE_askedOfX 122 = .ok (.ireturn, 1) := by decide +kernel
theorem dE_askedOfX_123 : decode cE_askedOfX 123 = .ok (.iload_n 3, 1) := by decide +kernel
theorem dE_askedOfX_124 : decode cE_askedOfX 124 = .ok (.iload 5, 2) := by decide +kernel
theorem dE_askedOfX_126 : decode cE_askedOfX 126 = .ok (.iushr, 1) := by decide +kernel
theorem dE_askedOfX_127 : decode cE_askedOfX 127 = .ok (.ireturn, 1) := by decide +kernel
theorem dE_askedOfX_128 : decode cE_askedOfX 128 = .ok (.iload_n 3, 1) := by decide +kernel
theorem dE_askedOfX_129 : decode cE_askedOfX 129 = .ok (.iload 5, 2) := by decide +kernel
theorem dE_askedOfX_131 : decode cE_askedOfX 131 = .ok (.ishl, 1) := by decide +kernel
theorem dE_askedOfX_132 : decode cE_askedOfX 132 = .ok (.iload_n 3, 1) := by decide +kernel
theorem dE_askedOfX_133 : decode cE_askedOfX 133 = .ok (.ldc 79, 2) := by decide +kernel
theorem dE_askedOfX_135 : decode cE_askedOfX 135 = .ok (.iload 5, 2) := by decide +kernel
theorem dE_askedOfX_137 : decode cE_askedOfX 137 = .ok (.ishr, 1) := by decide +kernel
theorem dE_askedOfX_138 : decode cE_askedOfX 138 = .ok (.iand, 1) := by decide +kernel
theorem dE_askedOfX_139 : decode cE_askedOfX 139 = .ok (.bipush 31, 2) := by decide +kernel
theorem dE_askedOfX_141 : decode cE_askedOfX 141 = .ok (.invokestatic 80, 3) := by decide +kernel
theorem dE_askedOfX_144 : decode cE_askedOfX 144 = .ok (.ior, 1) := by decide +kernel
theorem dE_askedOfX_145 : decode cE_askedOfX 145 = .ok (.ireturn, 1) := by decide +kernel
theorem dE_askedOfX_146 : decode cE_askedOfX 146 = .ok (.iload_n 3, 1) := by decide +kernel
theorem dE_askedOfX_147 : decode cE_askedOfX 147 = .ok (.iload 5, 2) := by decide +kernel
theorem dE_askedOfX_149 : decode cE_askedOfX 149 = .ok (.ishl, 1) := by decide +kernel
theorem dE_askedOfX_150 : decode cE_askedOfX 150 = .ok (.ireturn, 1) := by decide +kernel
theorem dE_askedOfX_151 : decode cE_askedOfX 151 = .ok (.iload_n 3, 1) := by decide +kernel
theorem dE_askedOfX_152 : decode cE_askedOfX 152 = .ok (.bipush 7, 2) := by decide +kernel
theorem dE_askedOfX_154 : decode cE_askedOfX 154 = .ok (.invokestatic 84, 3) := by decide +kernel
theorem dE_askedOfX_157 : decode cE_askedOfX 157 = .ok (.iand, 1) := by decide +kernel
theorem dE_askedOfX_158 : decode cE_askedOfX 158 = .ok (.iload_n 3, 1) := by decide +kernel
theorem dE_askedOfX_159 : decode cE_askedOfX 159 = .ok (.bipush 7, 2) := by decide +kernel
theorem dE_askedOfX_161 : decode cE_askedOfX 161 = .ok (.invokestatic 84, 3) := by decide +kernel
theorem dE_askedOfX_164 : decode cE_askedOfX 164 = .ok (.iconst (-1), 1) := by decide +kernel
theorem dE_askedOfX_165 : decode cE_askedOfX 165 = .ok (.ixor, 1) := by decide +kernel
theorem dE_askedOfX_166 : decode cE_askedOfX 166 = .ok (.iand, 1) := by decide +kernel
theorem dE_askedOfX_167 : decode cE_askedOfX 167 = .ok (.bipush 7, 2) := by decide +kernel
theorem dE_askedOfX_169 : decode cE_askedOfX 169 = .ok (.invokestatic 80, 3) := by decide +kernel
theorem dE_askedOfX_172 : decode cE_askedOfX 172 = .ok (.ior, 1) := by decide +kernel
theorem dE_askedOfX_173 : decode cE_askedOfX 173 = .ok (.ireturn, 1) := by decide +kernel
theorem dE_askedOfX_174 : decode cE_askedOfX 174 = .ok (.iload_n 3, 1) := by decide +kernel
theorem dE_askedOfX_175 : decode cE_askedOfX 175 = .ok (.bipush 15, 2) := by decide +kernel
theorem dE_askedOfX_177 : decode cE_askedOfX 177 = .ok (.invokestatic 84, 3) := by decide +kernel
theorem dE_askedOfX_180 : decode cE_askedOfX 180 = .ok (.iand, 1) := by decide +kernel
theorem dE_askedOfX_181 : decode cE_askedOfX 181 = .ok (.iload_n 3, 1) := by decide +kernel
theorem dE_askedOfX_182 : decode cE_askedOfX 182 = .ok (.bipush 15, 2) := by decide +kernel
theorem dE_askedOfX_184 : decode cE_askedOfX 184 = .ok (.invokestatic 84, 3) := by decide +kernel
theorem dE_askedOfX_187 : decode cE_askedOfX 187 = .ok (.iconst (-1), 1) := by decide +kernel
theorem dE_askedOfX_188 : decode cE_askedOfX 188 = .ok (.ixor, 1) := by decide +kernel
theorem dE_askedOfX_189 : decode cE_askedOfX 189 = .ok (.iand, 1) := by decide +kernel
theorem dE_askedOfX_190 : decode cE_askedOfX 190 = .ok (.bipush 15, 2) := by decide +kernel
theorem dE_askedOfX_192 : decode cE_askedOfX 192 = .ok (.invokestatic 80, 3) := by decide +kernel
theorem dE_askedOfX_195 : decode cE_askedOfX 195 = .ok (.ior, 1) := by decide +kernel
theorem dE_askedOfX_196 : decode cE_askedOfX 196 = .ok (.ireturn, 1) := by decide +kernel
theorem dE_askedOfX_197 : decode cE_askedOfX 197 = .ok (.iconst 0, 1) := by decide +kernel
theorem dE_askedOfX_198 : decode cE_askedOfX 198 = .ok (.ireturn, 1) := by decide +kernel
theorem dE_askedOfY_0 : decode cE_askedOfY 0 = .ok (.aload_n 0, 1) := by decide +kernel
theorem dE_askedOfY_1 : decode cE_askedOfY 1 = .ok (.getfield 48, 3) := by decide +kernel
theorem dE_askedOfY_4 : decode cE_askedOfY 4 = .ok (.iload_n 2, 1) := by decide +kernel
theorem dE_askedOfY_5 : decode cE_askedOfY 5 = .ok (.iaload, 1) := by decide +kernel
theorem dE_askedOfY_6 : decode cE_askedOfY 6 = .ok (.istore 4, 2) := by decide +kernel
theorem dE_askedOfY_8 : decode cE_askedOfY 8 = .ok (.aload_n 0, 1) := by decide +kernel
theorem dE_askedOfY_9 : decode cE_askedOfY 9 = .ok (.getfield 55, 3) := by decide +kernel
theorem dE_askedOfY_12 : decode cE_askedOfY 12 = .ok (.iload_n 2, 1) := by decide +kernel
theorem dE_askedOfY_13 : decode cE_askedOfY 13 = .ok (.iaload, 1) := by decide +kernel
theorem dE_askedOfY_14 : decode cE_askedOfY 14 = .ok (.istore 5, 2) := by decide +kernel
theorem dE_askedOfY_16 : decode cE_askedOfY 16 = .ok (.aload_n 0, 1) := by decide +kernel
theorem dE_askedOfY_17 : decode cE_askedOfY 17 = .ok (.getfield 64, 3) := by decide +kernel
theorem dE_askedOfY_20 : decode cE_askedOfY 20 = .ok (.iload_n 2, 1) := by decide +kernel
theorem dE_askedOfY_21 : decode cE_askedOfY 21 = .ok (.iaload, 1) := by decide +kernel
theorem dE_askedOfY_22 : decode cE_askedOfY 22 = .ok (.tableswitch 121 0 13 #[70, 70, 70, 75, 97, 119, 121, 121, 121, 121, 121, 121, 121, 119], 70) := by decide +kernel
theorem dE_askedOfY_92 : decode cE_askedOfY 92 = .ok (.iload_n 3, 1) := by decide +kernel
theorem dE_askedOfY_93 : decode cE_askedOfY 93 = .ok (.invokestatic 67, 3) := by decide +kernel
theorem dE_askedOfY_96 : decode cE_askedOfY 96 = .ok (.ireturn, 1) := by decide +kernel
theorem dE_askedOfY_97 : decode cE_askedOfY 97 = .ok (.iload_n 3, 1) := by decide +kernel
theorem dE_askedOfY_98 : decode cE_askedOfY 98 = .ok (.aload_n 1, 1) := by decide +kernel
theorem dE_askedOfY_99 : decode cE_askedOfY 99 = .ok (.getfield 71, 3) := by decide +kernel
theorem dE_askedOfY_102 : decode cE_askedOfY 102 = .ok (.iload 4, 2) := by decide +kernel
theorem dE_askedOfY_104 : decode cE_askedOfY 104 = .ok (.iaload, 1) := by decide +kernel
theorem dE_askedOfY_105 : decode cE_askedOfY 105 = .ok (.aload_n 1, 1) := by decide +kernel
theorem dE_askedOfY_106 : decode cE_askedOfY 106 = .ok (.getfield 71, 3) := by decide +kernel
theorem dE_askedOfY_109 : decode cE_askedOfY 109 = .ok (.iload 5, 2) := by decide +kernel
theorem dE_askedOfY_111 : decode cE_askedOfY 111 = .ok (.iaload, 1) := by decide +kernel
theorem dE_askedOfY_112 : decode cE_askedOfY 112 = .ok (.iconst (-1), 1) := by decide +kernel
theorem dE_askedOfY_113 : decode cE_askedOfY 113 = .ok (.ixor, 1) := by decide +kernel
theorem dE_askedOfY_114 : decode cE_askedOfY 114 = .ok (.iand, 1) := by decide +kernel
theorem dE_askedOfY_115 : decode cE_askedOfY 115 = .ok (.iconst (-1), 1) := by decide +kernel
theorem dE_askedOfY_116 : decode cE_askedOfY 116 = .ok (.ixor, 1) := by decide +kernel
theorem dE_askedOfY_117 : decode cE_askedOfY 117 = .ok (.iand, 1) := by decide +kernel
theorem dE_askedOfY_118 : decode cE_askedOfY 118 = .ok (.ireturn, 1) := by decide +kernel
theorem dE_askedOfY_119 : decode cE_askedOfY 119 = .ok (.iload_n 3, 1) := by decide +kernel
theorem dE_askedOfY_120 : decode cE_askedOfY 120 = .ok (.aload_n 1, 1) := by decide +kernel
theorem dE_askedOfY_121 : decode cE_askedOfY 121 = .ok (.getfield 76, 3) := by decide +kernel
theorem dE_askedOfY_124 : decode cE_askedOfY 124 = .ok (.iload 4, 2) := by decide +kernel
theorem dE_askedOfY_126 : decode cE_askedOfY 126 = .ok (.iaload, 1) := by decide +kernel
theorem dE_askedOfY_127 : decode cE_askedOfY 127 = .ok (.aload_n 1, 1) := by decide +kernel
theorem dE_askedOfY_128 : decode cE_askedOfY 128 = .ok (.getfield 76, 3) := by decide +kernel
theorem dE_askedOfY_131 : decode cE_askedOfY 131 = .ok (.iload 5, 2) := by decide +kernel
theorem dE_askedOfY_133 : decode cE_askedOfY 133 = .ok (.iaload, 1) := by decide +kernel
theorem dE_askedOfY_134 : decode cE_askedOfY 134 = .ok (.iconst (-1), 1) := by decide +kernel
theorem dE_askedOfY_135 : decode cE_askedOfY 135 = .ok (.ixor, 1) := by decide +kernel
theorem dE_askedOfY_136 : decode cE_askedOfY 136 = .ok (.iand, 1) := by decide +kernel
theorem dE_askedOfY_137 : decode cE_askedOfY 137 = .ok (.iconst (-1), 1) := by decide +kernel
theorem dE_askedOfY_138 : decode cE_askedOfY 138 = .ok (.ixor, 1) := by decide +kernel
theorem dE_askedOfY_139 : decode cE_askedOfY 139 = .ok (.iand, 1) := by decide +kernel
theorem dE_askedOfY_140 : decode cE_askedOfY 140 = .ok (.ireturn, 1) := by decide +kernel
theorem dE_askedOfY_141 : decode cE_askedOfY 141 = .ok (.iload_n 3, 1) := by decide +kernel
theorem dE_askedOfY_142 : decode cE_askedOfY 142 = .ok (.ireturn, 1) := by decide +kernel
theorem dE_askedOfY_143 : decode cE_askedOfY 143 = .ok (.iconst 0, 1) := by decide +kernel
theorem dE_askedOfY_144 : decode cE_askedOfY 144 = .ok (.ireturn, 1) := by decide +kernel
theorem dE_signIf_0 : decode cE_signIf 0 = .ok (.iload_n 0, 1) := by decide +kernel
theorem dE_signIf_1 : decode cE_signIf 1 = .ok (.ifCond .ne 7, 3) := by decide +kernel
theorem dE_signIf_4 : decode cE_signIf 4 = .ok (.iconst 0, 1) := by decide +kernel
theorem dE_signIf_5 : decode cE_signIf 5 = .ok (.goto 6, 3) := by decide +kernel
theorem dE_signIf_8 : decode cE_signIf 8 = .ok (.iconst 1, 1) := by decide +kernel
theorem dE_signIf_9 : decode cE_signIf 9 = .ok (.iload_n 1, 1) := by decide +kernel
theorem dE_signIf_10 : decode cE_signIf 10 = .ok (.ishl, 1) := by decide +kernel
theorem dE_signIf_11 : decode cE_signIf 11 = .ok (.ireturn, 1) := by decide +kernel
theorem dF_init_0 : decode cF_init 0 = .ok (.aload_n 0, 1) := by decide +kernel
theorem dF_init_1 : decode cF_init 1 = .ok (.invokespecial 3, 3) := by decide +kernel
theorem dF_init_4 : decode cF_init 4 = .ok (.aload_n 0, 1) := by decide +kernel
theorem dF_init_5 : decode cF_init 5 = .ok (.bipush 24, 2) := by decide +kernel
theorem dF_init_7 : decode cF_init 7 = .ok (.newarray .int, 2) := by decide +kernel
theorem dF_init_9 : decode cF_init 9 = .ok (.putfield 9, 3) := by decide +kernel
theorem dF_init_12 : decode cF_init 12 = .ok (.aload_n 0, 1) := by decide +kernel
theorem dF_init_13 : decode cF_init 13 = .ok (.bipush 24, 2) := by decide +kernel
theorem dF_init_15 : decode cF_init 15 = .ok (.newarray .int, 2) := by decide +kernel
theorem dF_init_17 : decode cF_init 17 = .ok (.putfield 15, 3) := by decide +kernel
theorem dF_init_20 : decode cF_init 20 = .ok (.return_, 1) := by decide +kernel
theorem dF_known_0 : decode cF_known 0 = .ok (.aload_n 0, 1) := by decide +kernel
theorem dF_known_1 : decode cF_known 1 = .ok (.getfield 9, 3) := by decide +kernel
theorem dF_known_4 : decode cF_known 4 = .ok (.iload_n 1, 1) := by decide +kernel
theorem dF_known_5 : decode cF_known 5 = .ok (.iaload, 1) := by decide +kernel
theorem dF_known_6 : decode cF_known 6 = .ok (.aload_n 0, 1) := by decide +kernel
theorem dF_known_7 : decode cF_known 7 = .ok (.getfield 15, 3) := by decide +kernel
theorem dF_known_10 : decode cF_known 10 = .ok (.iload_n 1, 1) := by decide +kernel
theorem dF_known_11 : decode cF_known 11 = .ok (.iaload, 1) := by decide +kernel
theorem dF_known_12 : decode cF_known 12 = .ok (.ior, 1) := by decide +kernel
theorem dF_known_13 : decode cF_known 13 = .ok (.ireturn, 1) := by decide +kernel
theorem dF_find_0 : decode cF_find 0 = .ok (.iconst 0, 1) := by decide +kernel
theorem dF_find_1 : decode cF_find 1 = .ok (.istore_n 2, 1) := by decide +kernel
theorem dF_find_2 : decode cF_find 2 = .ok (.iload_n 2, 1) := by decide +kernel
theorem dF_find_3 : decode cF_find 3 = .ok (.aload_n 1, 1) := by decide +kernel
theorem dF_find_4 : decode cF_find 4 = .ok (.getfield 18, 3) := by decide +kernel
theorem dF_find_7 : decode cF_find 7 = .ok (.if_icmp .ge 56, 3) := by decide +kernel
theorem dF_find_10 : decode cF_find 10 = .ok (.aload_n 1, 1) := by decide +kernel
theorem dF_find_11 : decode cF_find 11 = .ok (.getfield 24, 3) := by decide +kernel
theorem dF_find_14 : decode cF_find 14 = .ok (.iload_n 2, 1) := by decide +kernel
theorem dF_find_15 : decode cF_find 15 = .ok (.iaload, 1) := by decide +kernel
theorem dF_find_16 : decode cF_find 16 = .ok (.bipush 13, 2) := by decide +kernel
theorem dF_find_18 : decode cF_find 18 = .ok (.if_icmp .ne 33, 3) := by decide +kernel
theorem dF_find_21 : decode cF_find 21 = .ok (.aload_n 0, 1) := by decide +kernel
theorem dF_find_22 : decode cF_find 22 = .ok (.iload_n 2, 1) := by decide +kernel
theorem dF_find_23 : decode cF_find 23 = .ok (.aload_n 0, 1) := by decide +kernel
theorem dF_find_24 : decode cF_find 24 = .ok (.getfield 9, 3) := by decide +kernel
theorem dF_find_27 : decode cF_find 27 = .ok (.aload_n 1, 1) := by decide +kernel
theorem dF_find_28 : decode cF_find 28 = .ok (.getfield 27, 3) := by decide +kernel
theorem dF_find_31 : decode cF_find 31 = .ok (.iload_n 2, 1) := by decide +kernel
theorem dF_find_32 : decode cF_find 32 = .ok (.iaload, 1) := by decide +kernel
theorem dF_find_33 : decode cF_find 33 = .ok (.iaload, 1) := by decide +kernel
theorem dF_find_34 : decode cF_find 34 = .ok (.aload_n 0, 1) := by decide +kernel
theorem dF_find_35 : decode cF_find 35 = .ok (.getfield 15, 3) := by decide +kernel
theorem dF_find_38 : decode cF_find 38 = .ok (.aload_n 1, 1) := by decide +kernel
theorem dF_find_39 : decode cF_find 39 = .ok (.getfield 27, 3) := by decide +kernel
theorem dF_find_42 : decode cF_find 42 = .ok (.iload_n 2, 1) := by decide +kernel
theorem dF_find_43 : decode cF_find 43 = .ok (.iaload, 1) := by decide +kernel
theorem dF_find_44 : decode cF_find 44 = .ok (.iaload, 1) := by decide +kernel
theorem dF_find_45 : decode cF_find 45 = .ok (.invokevirtual 30, 3) := by decide +kernel
theorem dF_find_48 : decode cF_find 48 = .ok (.goto 9, 3) := by decide +kernel
theorem dF_find_51 : decode cF_find 51 = .ok (.aload_n 0, 1) := by decide +kernel
theorem dF_find_52 : decode cF_find 52 = .ok (.aload_n 1, 1) := by decide +kernel
theorem dF_find_53 : decode cF_find 53 = .ok (.iload_n 2, 1) := by decide +kernel
theorem dF_find_54 : decode cF_find 54 = .ok (.invokevirtual 34, 3) := by decide +kernel
theorem dF_find_57 : decode cF_find 57 = .ok (.iinc 2 1, 3) := by decide +kernel
theorem dF_find_60 : decode cF_find 60 = .ok (.goto (-58), 3) := by decide +kernel
theorem dF_find_63 : decode cF_find 63 = .ok (.aload_n 0, 1) := by decide +kernel
theorem dF_find_64 : decode cF_find 64 = .ok (.iconst 1, 1) := by decide +kernel
theorem dF_find_65 : decode cF_find 65 = .ok (.putfield 38, 3) := by decide +kernel
theorem dF_find_68 : decode cF_find 68 = .ok (.iconst 0, 1) := by decide +kernel
theorem dF_find_69 : decode cF_find 69 = .ok (.istore_n 2, 1) := by decide +kernel
theorem dF_find_70 : decode cF_find 70 = .ok (.aload_n 0, 1) := by decide +kernel
theorem dF_find_71 : decode cF_find 71 = .ok (.getfield 38, 3) := by decide +kernel
theorem dF_find_74 : decode cF_find 74 = .ok (.ifCond .eq 43, 3) := by decide +kernel
theorem dF_find_77 : decode cF_find 77 = .ok (.iload_n 2, 1) := by decide +kernel
theorem dF_find_78 : decode cF_find 78 = .ok (.sipush 769, 3) := by decide +kernel
theorem dF_find_81 : decode cF_find 81 = .ok (.if_icmp .ge 36, 3) := by decide +kernel
theorem dF_find_84 : decode cF_find 84 = .ok (.aload_n 0, 1) := by decide +kernel
theorem dF_find_85 : decode cF_find 85 = .ok (.iconst 0, 1) := by decide +kernel
theorem dF_find_86 : decode cF_find 86 = .ok (.putfield 38, 3) := by decide +kernel
theorem dF_find_89 : decode cF_find 89 = .ok (.iconst 0, 1) := by decide +kernel
theorem dF_find_90 : decode cF_find 90 = .ok (.istore_n 3, 1) := by decide +kernel
theorem dF_find_91 : decode cF_find 91 = .ok (.iload_n 3, 1) := by decide +kernel
theorem dF_find_92 : decode cF_find 92 = .ok (.aload_n 1, 1) := by decide +kernel
theorem dF_find_93 : decode cF_find 93 = .ok (.getfield 18, 3) := by decide +kernel
theorem dF_find_96 : decode cF_find 96 = .ok (.if_icmp .ge 15, 3) := by decide +kernel
theorem dF_find_99 : decode cF_find 99 = .ok (.aload_n 0, 1) := by decide +kernel
theorem dF_find_100 : decode cF_find 100 = .ok (.aload_n 1, 1) := by decide +kernel
theorem dF_find_101 : decode cF_find 101 = .ok (.iload_n 3, 1) := by decide +kernel
theorem dF_find_102 : decode cF_find 102 = .ok (.invokevirtual 34, 3) := by decide +kernel
theorem dF_find_105 : decode cF_find 105 = .ok (.iinc 3 1, 3) := by decide +kernel
theorem dF_find_108 : decode cF_find 108 = .ok (.goto (-17), 3) := by decide +kernel
theorem dF_find_111 : decode cF_find 111 = .ok (.iinc 2 1, 3) := by decide +kernel
theorem dF_find_114 : decode cF_find 114 = .ok (.goto (-44), 3) := by decide +kernel
theorem dF_find_117 : decode cF_find 117 = .ok (.return_, 1) := by decide +kernel
theorem dF_learn_0 : decode cF_learn 0 = .ok (.aload_n 0, 1) := by decide +kernel
theorem dF_learn_1 : decode cF_learn 1 = .ok (.getfield 9, 3) := by decide +kernel
theorem dF_learn_4 : decode cF_learn 4 = .ok (.iload_n 1, 1) := by decide +kernel
theorem dF_learn_5 : decode cF_learn 5 = .ok (.iaload, 1) := by decide +kernel
theorem dF_learn_6 : decode cF_learn 6 = .ok (.iload_n 2, 1) := by decide +kernel
theorem dF_learn_7 : decode cF_learn 7 = .ok (.if_icmp .ne 13, 3) := by decide +kernel
theorem dF_learn_10 : decode cF_learn 10 = .ok (.aload_n 0, 1) := by decide +kernel
theorem dF_learn_11 : decode cF_learn 11 = .ok (.getfield 15, 3) := by decide +kernel
theorem dF_learn_14 : decode cF_learn 14 = .ok (.iload_n 1, 1) := by decide +kernel
theorem dF_learn_15 : decode cF_learn 15 = .ok (.iaload, 1) := by decide +kernel
theorem dF_learn_16 : decode cF_learn 16 = .ok (.iload_n 3, 1) := by decide +kernel
theorem dF_learn_17 : decode cF_learn 17 = .ok (.if_icmp .eq 8, 3) := by decide +kernel
theorem dF_learn_20 : decode cF_learn 20 = .ok (.aload_n 0, 1) := by decide +kernel
theorem dF_learn_21 : decode cF_learn 21 = .ok (.iconst 1, 1) := by decide +kernel
theorem dF_learn_22 : decode cF_learn 22 = .ok (.putfield 38, 3) := by decide +kernel
theorem dF_learn_25 : decode cF_learn 25 = .ok (.aload_n 0, 1) := by decide +kernel
theorem dF_learn_26 : decode cF_learn 26 = .ok (.getfield 9, 3) := by decide +kernel
theorem dF_learn_29 : decode cF_learn 29 = .ok (.iload_n 1, 1) := by decide +kernel
theorem dF_learn_30 : decode cF_learn 30 = .ok (.iload_n 2, 1) := by decide +kernel
theorem dF_learn_31 : decode cF_learn 31 = .ok (.iastore, 1) := by decide +kernel
theorem dF_learn_32 : decode cF_learn 32 = .ok (.aload_n 0, 1) := by decide +kernel
theorem dF_learn_33 : decode cF_learn 33 = .ok (.getfield 15, 3) := by decide +kernel
theorem dF_learn_36 : decode cF_learn 36 = .ok (.iload_n 1, 1) := by decide +kernel
theorem dF_learn_37 : decode cF_learn 37 = .ok (.iload_n 3, 1) := by decide +kernel
theorem dF_learn_38 : decode cF_learn 38 = .ok (.iastore, 1) := by decide +kernel
theorem dF_learn_39 : decode cF_learn 39 = .ok (.return_, 1) := by decide +kernel
theorem dF_workOut_0 : decode cF_workOut 0 = .ok (.aload_n 1, 1) := by decide +kernel
theorem dF_workOut_1 : decode cF_workOut 1 = .ok (.getfield 27, 3) := by decide +kernel
theorem dF_workOut_4 : decode cF_workOut 4 = .ok (.iload_n 2, 1) := by decide +kernel
theorem dF_workOut_5 : decode cF_workOut 5 = .ok (.iaload, 1) := by decide +kernel
theorem dF_workOut_6 : decode cF_workOut 6 = .ok (.istore_n 3, 1) := by decide +kernel
theorem dF_workOut_7 : decode cF_workOut 7 = .ok (.aload_n 1, 1) := by decide +kernel
theorem dF_workOut_8 : decode cF_workOut 8 = .ok (.getfield 42, 3) := by decide +kernel
theorem dF_workOut_11 : decode cF_workOut 11 = .ok (.iload_n 2, 1) := by decide +kernel
theorem dF_workOut_12 : decode cF_workOut 12 = .ok (.iaload, 1) := by decide +kernel
theorem dF_workOut_13 : decode cF_workOut 13 = .ok (.istore 4, 2) := by decide +kernel
theorem dF_workOut_15 : decode cF_workOut 15 = .ok (.aload_n 1, 1) := by decide +kernel
theorem dF_workOut_16 : decode cF_workOut 16 = .ok (.getfield 45, 3) := by decide +kernel
theorem dF_workOut_19 : decode cF_workOut 19 = .ok (.iload_n 2, 1) := by decide +kernel
theorem dF_workOut_20 : decode cF_workOut 20 = .ok (.iaload, 1) := by decide +kernel
theorem dF_workOut_21 : decode cF_workOut 21 = .ok (.istore 5, 2) := by decide +kernel
theorem dF_workOut_23 : decode cF_workOut 23 = .ok (.aload_n 1, 1) := by decide +kernel
theorem dF_workOut_24 : decode cF_workOut 24 = .ok (.getfield 24, 3) := by decide +kernel
theorem dF_workOut_27 : decode cF_workOut 27 = .ok (.iload_n 2, 1) := by decide +kernel
theorem dF_workOut_28 : decode cF_workOut 28 = .ok (.iaload, 1) := by decide +kernel
theorem dF_workOut_29 : decode cF_workOut 29 = .ok (.tableswitch 332 0 13 #[85, 109, 133, 144, 180, 216, 332, 332, 332, 332, 71, 332, 332, 282], 71) := by decide +kernel
theorem dF_workOut_100 : decode cF_workOut 100 = .ok (.aload_n 0, 1) := by decide +kernel
theorem dF_workOut_101 : decode cF_workOut 101 = .ok (.iload_n 2, 1) := by decide +kernel
theorem dF_workOut_102 : decode cF_workOut 102 = .ok (.iload 5, 2) := by decide +kernel
theorem dF_workOut_104 : decode cF_workOut 104 = .ok (.iconst (-1), 1) := by decide +kernel
theorem dF_workOut_105 : decode cF_workOut 105 = .ok (.ixor, 1) := by decide +kernel
theorem dF_workOut_106 : decode cF_workOut 106 = .ok (.iload 5, 2) := by decide +kernel
theorem dF_workOut_108 : decode cF_workOut 108 = .ok (.invokevirtual 30, 3) := by decide +kernel
theorem dF_workOut_111 : decode cF_workOut 111 = .ok (.goto 264, 3) := by decide +kernel
theorem dF_workOut_114 : decode cF_workOut 114 = .ok (.aload_n 0, 1) := by decide +kernel
theorem dF_workOut_115 : decode cF_workOut 115 = .ok (.iload_n 2, 1) := by decide +kernel
theorem dF_workOut_116 : decode cF_workOut 116 = .ok (.iload_n 3, 1) := by decide +kernel
theorem dF_workOut_117 : decode cF_workOut 117 = .ok (.aload_n 0, 1) := by decide +kernel
theorem dF_workOut_118 : decode cF_workOut 118 = .ok (.getfield 9, 3) := by decide +kernel
theorem dF_workOut_121 : decode cF_workOut 121 = .ok (.iload 4, 2) := by decide +kernel
theorem dF_workOut_123 : decode cF_workOut 123 = .ok (.iaload, 1) := by decide +kernel
theorem dF_workOut_124 : decode cF_workOut 124 = .ok (.aload_n 0, 1) := by decide +kernel
theorem dF_workOut_125 : decode cF_workOut 125 = .ok (.getfield 15, 3) := by decide +kernel
theorem dF_workOut_128 : decode cF_workOut 128 = .ok (.iload 4, 2) := by decide +kernel
theorem dF_workOut_130 : decode cF_workOut 130 = .ok (.iaload, 1) := by decide +kernel
theorem dF_workOut_131 : decode cF_workOut 131 = .ok (.iconst 0, 1) := by decide +kernel
theorem dF_workOut_132 : decode cF_workOut 132 = .ok (.invokevirtual 48, 3) := by decide +kernel
theorem dF_workOut_135 : decode cF_workOut 135 = .ok (.goto 240, 3) := by decide +kernel
theorem dF_workOut_138 : decode cF_workOut 138 = .ok (.aload_n 0, 1) := by decide +kernel
theorem dF_workOut_139 : decode cF_workOut 139 = .ok (.iload_n 2, 1) := by decide +kernel
theorem dF_workOut_140 : decode cF_workOut 140 = .ok (.iload_n 3, 1) := by decide +kernel
theorem dF_workOut_141 : decode cF_workOut 141 = .ok (.aload_n 0, 1) := by decide +kernel
theorem dF_workOut_142 : decode cF_workOut 142 = .ok (.getfield 15, 3) := by decide +kernel
theorem dF_workOut_145 : decode cF_workOut 145 = .ok (.iload 4, 2) := by decide +kernel
theorem dF_workOut_147 : decode cF_workOut 147 = .ok (.iaload, 1) := by decide +kernel
theorem dF_workOut_148 : decode cF_workOut 148 = .ok (.aload_n 0, 1) := by decide +kernel
theorem dF_workOut_149 : decode cF_workOut 149 = .ok (.getfield 9, 3) := by decide +kernel
theorem dF_workOut_152 : decode cF_workOut 152 = .ok (.iload 4, 2) := by decide +kernel
theorem dF_workOut_154 : decode cF_workOut 154 = .ok (.iaload, 1) := by decide +kernel
theorem dF_workOut_155 : decode cF_workOut 155 = .ok (.iconst 1, 1) := by decide +kernel
theorem dF_workOut_156 : decode cF_workOut 156 = .ok (.invokevirtual 48, 3) := by decide +kernel
theorem dF_workOut_159 : decode cF_workOut 159 = .ok (.goto 216, 3) := by decide +kernel
theorem dF_workOut_162 : decode cF_workOut 162 = .ok (.aload_n 0, 1) := by decide +kernel
theorem dF_workOut_163 : decode cF_workOut 163 = .ok (.iload_n 2, 1) := by decide +kernel
theorem dF_workOut_164 : decode cF_workOut 164 = .ok (.iload_n 3, 1) := by decide +kernel
theorem dF_workOut_165 : decode cF_workOut 165 = .ok (.iload 4, 2) := by decide +kernel
theorem dF_workOut_167 : decode cF_workOut 167 = .ok (.invokevirtual 52, 3) := by decide +kernel
theorem dF_workOut_170 : decode cF_workOut 170 = .ok (.goto 205, 3) := by decide +kernel
theorem dF_workOut_173 : decode cF_workOut 173 = .ok (.aload_n 0, 1) := by decide +kernel
theorem dF_workOut_174 : decode cF_workOut 174 = .ok (.iload_n 2, 1) := by decide +kernel
theorem dF_workOut_175 : decode cF_workOut 175 = .ok (.aload_n 0, 1) := by decide +kernel
theorem dF_workOut_176 : decode cF_workOut 176 = .ok (.getfield 9, 3) := by decide +kernel
theorem dF_workOut_179 : decode cF_workOut 179 = .ok (.iload_n 3, 1) := by decide +kernel
theorem dF_workOut_180 : decode cF_workOut 180 = .ok (.iaload, 1) := by decide +kernel
theorem dF_workOut_181 : decode cF_workOut 181 = .ok (.aload_n 0, 1) := by decide +kernel
theorem dF_workOut_182 : decode cF_workOut 182 = .ok (.getfield 9, 3) := by decide +kernel
theorem dF_workOut_185 : decode cF_workOut 185 = .ok (.iload 4, 2) := by decide +kernel
theorem dF_workOut_187 : decode cF_workOut 187 = .ok (.iaload, 1) := by decide +kernel
theorem dF_workOut_188 : decode cF_workOut 188 = .ok (.ior, 1) := by decide +kernel
theorem dF_workOut_189 : decode cF_workOut 189 = .ok (.aload_n 0, 1) := by decide +kernel
theorem dF_workOut_190 : decode cF_workOut 190 = .ok (.getfield 15, 3) := by decide +kernel
theorem dF_workOut_193 : decode cF_workOut 193 = .ok (.iload_n 3, 1) := by decide +kernel
theorem dF_workOut_194 : decode cF_workOut 194 = .ok (.iaload, 1) := by decide +kernel
theorem dF_workOut_195 : decode cF_workOut 195 = .ok (.aload_n 0, 1) := by decide +kernel
theorem dF_workOut_196 : decode cF_workOut 196 = .ok (.getfield 15, 3) := by decide +kernel
theorem dF_workOut_199 : decode cF_workOut 199 = .ok (.iload 4, 2) := by decide +kernel
theorem dF_workOut_201 : decode cF_workOut 201 = .ok (.iaload, 1) := by decide +kernel
theorem dF_workOut_202 : decode cF_workOut 202 = .ok (.iand, 1) := by decide +kernel
theorem dF_workOut_203 : decode cF_workOut 203 = .ok (.invokevirtual 30, 3) := by decide +kernel
theorem dF_workOut_206 : decode cF_workOut 206 = .ok (.goto 169, 3) := by decide +kernel
theorem dF_workOut_209 : decode cF_workOut 209 = .ok (.aload_n 0, 1) := by decide +kernel
theorem dF_workOut_210 : decode cF_workOut 210 = .ok (.iload_n 2, 1) := by decide +kernel
theorem dF_workOut_211 : decode cF_workOut 211 = .ok (.aload_n 0, 1) := by decide +kernel
theorem dF_workOut_212 : decode cF_workOut 212 = .ok (.getfield 9, 3) := by decide +kernel
theorem dF_workOut_215 : decode cF_workOut 215 = .ok (.iload_n 3, 1) := by decide +kernel
theorem dF_workOut_216 : decode cF_workOut 216 = .ok (.iaload, 1) := by decide +kernel
theorem dF_workOut_217 : decode cF_workOut 217 = .ok (.aload_n 0, 1) := by decide +kernel
theorem dF_workOut_218 : decode cF_workOut 218 = .ok (.getfield 9, 3) := by decide +kernel
theorem dF_workOut_221 : decode cF_workOut 221 = .ok (.iload 4, 2) := by decide +kernel
theorem dF_workOut_223 : decode cF_workOut 223 = .ok (.iaload, 1) := by decide +kernel
theorem dF_workOut_224 : decode cF_workOut 224 = .ok (.iand, 1) := by decide +kernel
theorem dF_workOut_225 : decode cF_workOut 225 = .ok (.aload_n 0, 1) := by decide +kernel
theorem dF_workOut_226 : decode cF_workOut 226 = .ok (.getfield 15, 3) := by decide +kernel
theorem dF_workOut_229 : decode cF_workOut 229 = .ok (.iload_n 3, 1) := by decide +kernel
theorem dF_workOut_230 : decode cF_workOut 230 = .ok (.iaload, 1) := by decide +kernel
theorem dF_workOut_231 : decode cF_workOut 231 = .ok (.aload_n 0, 1) := by decide +kernel
theorem dF_workOut_232 : decode cF_workOut 232 = .ok (.getfield 15, 3) := by decide +kernel
theorem dF_workOut_235 : decode cF_workOut 235 = .ok (.iload 4, 2) := by decide +kernel
theorem dF_workOut_237 : decode cF_workOut 237 = .ok (.iaload, 1) := by decide +kernel
theorem dF_workOut_238 : decode cF_workOut 238 = .ok (.ior, 1) := by decide +kernel
theorem dF_workOut_239 : decode cF_workOut 239 = .ok (.invokevirtual 30, 3) := by decide +kernel
theorem dF_workOut_242 : decode cF_workOut 242 = .ok (.goto 133, 3) := by decide +kernel
theorem dF_workOut_245 : decode cF_workOut 245 = .ok (.aload_n 0, 1) := by decide +kernel
theorem dF_workOut_246 : decode cF_workOut 246 = .ok (.iload_n 2, 1) := by decide +kernel
theorem dF_workOut_247 : decode cF_workOut 247 = .ok (.aload_n 0, 1) := by decide +kernel
theorem dF_workOut_248 : decode cF_workOut 248 = .ok (.getfield 9, 3) := by decide +kernel
theorem dF_workOut_251 : decode cF_workOut 251 = .ok (.iload_n 3, 1) := by decide +kernel
theorem dF_workOut_252 : decode cF_workOut 252 = .ok (.iaload, 1) := by decide +kernel
theorem dF_workOut_253 : decode cF_workOut 253 = .ok (.aload_n 0, 1) := by decide +kernel
theorem dF_workOut_254 : decode cF_workOut 254 = .ok (.getfield 9, 3) := by decide +kernel
theorem dF_workOut_257 : decode cF_workOut 257 = .ok (.iload 4, 2) := by decide +kernel
theorem dF_workOut_259 : decode cF_workOut 259 = .ok (.iaload, 1) := by decide +kernel
theorem dF_workOut_260 : decode cF_workOut 260 = .ok (.iand, 1) := by decide +kernel
theorem dF_workOut_261 : decode cF_workOut 261 = .ok (.aload_n 0, 1) := by decide +kernel
theorem dF_workOut_262 : decode cF_workOut 262 = .ok (.getfield 15, 3) := by decide +kernel
theorem dF_workOut_265 : decode cF_workOut 265 = .ok (.iload_n 3, 1) := by decide +kernel
theorem dF_workOut_266 : decode cF_workOut 266 = .ok (.iaload, 1) := by decide +kernel
theorem dF_workOut_267 : decode cF_workOut 267 = .ok (.aload_n 0, 1) := by decide +kernel
theorem dF_workOut_268 : decode cF_workOut 268 = .ok (.getfield 15, 3) := by decide +kernel
theorem dF_workOut_271 : decode cF_workOut 271 = .ok (.iload 4, 2) := by decide +kernel
theorem dF_workOut_273 : decode cF_workOut 273 = .ok (.iaload, 1) := by decide +kernel
theorem dF_workOut_274 : decode cF_workOut 274 = .ok (.iand, 1) := by decide +kernel
theorem dF_workOut_275 : decode cF_workOut 275 = .ok (.ior, 1) := by decide +kernel
theorem dF_workOut_276 : decode cF_workOut 276 = .ok (.aload_n 0, 1) := by decide +kernel
theorem dF_workOut_277 : decode cF_workOut 277 = .ok (.getfield 9, 3) := by decide +kernel
theorem dF_workOut_280 : decode cF_workOut 280 = .ok (.iload_n 3, 1) := by decide +kernel
theorem dF_workOut_281 : decode cF_workOut 281 = .ok (.iaload, 1) := by decide +kernel
theorem dF_workOut_282 : decode cF_workOut 282 = .ok (.aload_n 0, 1) := by decide +kernel
theorem dF_workOut_283 : decode cF_workOut 283 = .ok (.getfield 15, 3) := by decide +kernel
theorem dF_workOut_286 : decode cF_workOut 286 = .ok (.iload 4, 2) := by decide +kernel
theorem dF_workOut_288 : decode cF_workOut 288 = .ok (.iaload, 1) := by decide +kernel
theorem dF_workOut_289 : decode cF_workOut 289 = .ok (.iand, 1) := by decide +kernel
theorem dF_workOut_290 : decode cF_workOut 290 = .ok (.aload_n 0, 1) := by decide +kernel
theorem dF_workOut_291 : decode cF_workOut 291 = .ok (.getfield 15, 3) := by decide +kernel
theorem dF_workOut_294 : decode cF_workOut 294 = .ok (.iload_n 3, 1) := by decide +kernel
theorem dF_workOut_295 : decode cF_workOut 295 = .ok (.iaload, 1) := by decide +kernel
theorem dF_workOut_296 : decode cF_workOut 296 = .ok (.aload_n 0, 1) := by decide +kernel
theorem dF_workOut_297 : decode cF_workOut 297 = .ok (.getfield 9, 3) := by decide +kernel
theorem dF_workOut_300 : decode cF_workOut 300 = .ok (.iload 4, 2) := by decide +kernel
theorem dF_workOut_302 : decode cF_workOut 302 = .ok (.iaload, 1) := by decide +kernel
theorem dF_workOut_303 : decode cF_workOut 303 = .ok (.iand, 1) := by decide +kernel
theorem dF_workOut_304 : decode cF_workOut 304 = .ok (.ior, 1) := by decide +kernel
theorem dF_workOut_305 : decode cF_workOut 305 = .ok (.invokevirtual 30, 3) := by decide +kernel
theorem dF_workOut_308 : decode cF_workOut 308 = .ok (.goto 67, 3) := by decide +kernel
theorem dF_workOut_311 : decode cF_workOut 311 = .ok (.aload_n 0, 1) := by decide +kernel
theorem dF_workOut_312 : decode cF_workOut 312 = .ok (.iload_n 2, 1) := by decide +kernel
theorem dF_workOut_313 : decode cF_workOut 313 = .ok (.aload_n 0, 1) := by decide +kernel
theorem dF_workOut_314 : decode cF_workOut 314 = .ok (.getfield 9, 3) := by decide +kernel
theorem dF_workOut_317 : decode cF_workOut 317 = .ok (.iload_n 2, 1) := by decide +kernel
theorem dF_workOut_318 : decode cF_workOut 318 = .ok (.iaload, 1) := by decide +kernel
theorem dF_workOut_319 : decode cF_workOut 319 = .ok (.aload_n 0, 1) := by decide +kernel
theorem dF_workOut_320 : decode cF_workOut 320 = .ok (.getfield 9, 3) := by decide +kernel
theorem dF_workOut_323 : decode cF_workOut 323 = .ok (.iload_n 3, 1) := by decide +kernel
theorem dF_workOut_324 : decode cF_workOut 324 = .ok (.iaload, 1) := by decide +kernel
theorem dF_workOut_325 : decode cF_workOut 325 = .ok (.iand, 1) := by decide +kernel
theorem dF_workOut_326 : decode cF_workOut 326 = .ok (.aload_n 0, 1) := by decide +kernel
theorem dF_workOut_327 : decode cF_workOut 327 = .ok (.getfield 9, 3) := by decide +kernel
theorem dF_workOut_330 : decode cF_workOut 330 = .ok (.iload 4, 2) := by decide +kernel
theorem dF_workOut_332 : decode cF_workOut 332 = .ok (.iaload, 1) := by decide +kernel
theorem dF_workOut_333 : decode cF_workOut 333 = .ok (.iand, 1) := by decide +kernel
theorem dF_workOut_334 : decode cF_workOut 334 = .ok (.aload_n 0, 1) := by decide +kernel
theorem dF_workOut_335 : decode cF_workOut 335 = .ok (.getfield 15, 3) := by decide +kernel
theorem dF_workOut_338 : decode cF_workOut 338 = .ok (.iload_n 2, 1) := by decide +kernel
theorem dF_workOut_339 : decode cF_workOut 339 = .ok (.iaload, 1) := by decide +kernel
theorem dF_workOut_340 : decode cF_workOut 340 = .ok (.aload_n 0, 1) := by decide +kernel
theorem dF_workOut_341 : decode cF_workOut 341 = .ok (.getfield 15, 3) := by decide +kernel
theorem dF_workOut_344 : decode cF_workOut 344 = .ok (.iload_n 3, 1) := by decide +kernel
