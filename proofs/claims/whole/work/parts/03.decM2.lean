theorem dM_from_148 : decode cM_from 148 = .ok (.ireturn, 1) := by decide +kernel
theorem dM_from_149 : decode cM_from 149 = .ok (.aload_n 0, 1) := by decide +kernel
theorem dM_from_150 : decode cM_from 150 = .ok (.getfield 25, 3) := by decide +kernel
theorem dM_from_153 : decode cM_from 153 = .ok (.iload_n 3, 1) := by decide +kernel
theorem dM_from_154 : decode cM_from 154 = .ok (.iload_n 2, 1) := by decide +kernel
theorem dM_from_155 : decode cM_from 155 = .ok (.bipush 15, 2) := by decide +kernel
theorem dM_from_157 : decode cM_from 157 = .ok (.if_icmp .le 8, 3) := by decide +kernel
theorem dM_from_160 : decode cM_from 160 = .ok (.bipush 15, 2) := by decide +kernel
theorem dM_from_162 : decode cM_from 162 = .ok (.goto 4, 3) := by decide +kernel
theorem dM_from_165 : decode cM_from 165 = .ok (.iload_n 2, 1) := by decide +kernel
theorem dM_from_166 : decode cM_from 166 = .ok (.iadd, 1) := by decide +kernel
theorem dM_from_167 : decode cM_from 167 = .ok (.iaload, 1) := by decide +kernel
theorem dM_from_168 : decode cM_from 168 = .ok (.ireturn, 1) := by decide +kernel
theorem dM_learn_0 : decode cM_learn 0 = .ok (.aload_n 0, 1) := by decide +kernel
theorem dM_learn_1 : decode cM_learn 1 = .ok (.getfield 7, 3) := by decide +kernel
theorem dM_learn_4 : decode cM_learn 4 = .ok (.iload_n 1, 1) := by decide +kernel
theorem dM_learn_5 : decode cM_learn 5 = .ok (.iaload, 1) := by decide +kernel
theorem dM_learn_6 : decode cM_learn 6 = .ok (.ifCond .eq 13, 3) := by decide +kernel
theorem dM_learn_9 : decode cM_learn 9 = .ok (.aload_n 0, 1) := by decide +kernel
theorem dM_learn_10 : decode cM_learn 10 = .ok (.getfield 7, 3) := by decide +kernel
theorem dM_learn_13 : decode cM_learn 13 = .ok (.iload_n 1, 1) := by decide +kernel
theorem dM_learn_14 : decode cM_learn 14 = .ok (.iaload, 1) := by decide +kernel
theorem dM_learn_15 : decode cM_learn 15 = .ok (.iconst 1, 1) := by decide +kernel
theorem dM_learn_16 : decode cM_learn 16 = .ok (.if_icmp .ne 26, 3) := by decide +kernel
theorem dM_learn_19 : decode cM_learn 19 = .ok (.aload_n 0, 1) := by decide +kernel
theorem dM_learn_20 : decode cM_learn 20 = .ok (.iload_n 1, 1) := by decide +kernel
theorem dM_learn_21 : decode cM_learn 21 = .ok (.aload_n 0, 1) := by decide +kernel
theorem dM_learn_22 : decode cM_learn 22 = .ok (.getfield 7, 3) := by decide +kernel
theorem dM_learn_25 : decode cM_learn 25 = .ok (.iload_n 1, 1) := by decide +kernel
theorem dM_learn_26 : decode cM_learn 26 = .ok (.iaload, 1) := by decide +kernel
theorem dM_learn_27 : decode cM_learn 27 = .ok (.iconst 1, 1) := by decide +kernel
theorem dM_learn_28 : decode cM_learn 28 = .ok (.if_icmp .ne 7, 3) := by decide +kernel
theorem dM_learn_31 : decode cM_learn 31 = .ok (.iconst 1, 1) := by decide +kernel
theorem dM_learn_32 : decode cM_learn 32 = .ok (.goto 4, 3) := by decide +kernel
theorem dM_learn_35 : decode cM_learn 35 = .ok (.iconst 0, 1) := by decide +kernel
theorem dM_learn_36 : decode cM_learn 36 = .ok (.invokevirtual 83, 3) := by decide +kernel
theorem dM_learn_39 : decode cM_learn 39 = .ok (.goto 273, 3) := by decide +kernel
theorem dM_learn_42 : decode cM_learn 42 = .ok (.aload_n 0, 1) := by decide +kernel
theorem dM_learn_43 : decode cM_learn 43 = .ok (.getfield 7, 3) := by decide +kernel
theorem dM_learn_46 : decode cM_learn 46 = .ok (.iload_n 1, 1) := by decide +kernel
theorem dM_learn_47 : decode cM_learn 47 = .ok (.iaload, 1) := by decide +kernel
theorem dM_learn_48 : decode cM_learn 48 = .ok (.iconst 2, 1) := by decide +kernel
theorem dM_learn_49 : decode cM_learn 49 = .ok (.if_icmp .ne 11, 3) := by decide +kernel
theorem dM_learn_52 : decode cM_learn 52 = .ok (.aload_n 0, 1) := by decide +kernel
theorem dM_learn_53 : decode cM_learn 53 = .ok (.iload_n 1, 1) := by decide +kernel
theorem dM_learn_54 : decode cM_learn 54 = .ok (.invokevirtual 87, 3) := by decide +kernel
theorem dM_learn_57 : decode cM_learn 57 = .ok (.goto 255, 3) := by decide +kernel
theorem dM_learn_60 : decode cM_learn 60 = .ok (.iconst 0, 1) := by decide +kernel
theorem dM_learn_61 : decode cM_learn 61 = .ok (.istore_n 2, 1) := by decide +kernel
theorem dM_learn_62 : decode cM_learn 62 = .ok (.iload_n 2, 1) := by decide +kernel
theorem dM_learn_63 : decode cM_learn 63 = .ok (.bipush 32, 2) := by decide +kernel
theorem dM_learn_65 : decode cM_learn 65 = .ok (.if_icmp .ge 247, 3) := by decide +kernel
theorem dM_learn_68 : decode cM_learn 68 = .ok (.aload_n 0, 1) := by decide +kernel
theorem dM_learn_69 : decode cM_learn 69 = .ok (.getfield 7, 3) := by decide +kernel
theorem dM_learn_72 : decode cM_learn 72 = .ok (.iload_n 1, 1) := by decide +kernel
theorem dM_learn_73 : decode cM_learn 73 = .ok (.iaload, 1) := by decide +kernel
theorem dM_learn_74 : decode cM_learn 74 = .ok (.iconst 5, 1) := by decide +kernel
theorem dM_learn_75 : decode cM_learn 75 = .ok (.if_icmp .gt 22, 3) := by decide +kernel
theorem dM_learn_78 : decode cM_learn 78 = .ok (.aload_n 0, 1) := by decide +kernel
theorem dM_learn_79 : decode cM_learn 79 = .ok (.getfield 25, 3) := by decide +kernel
theorem dM_learn_82 : decode cM_learn 82 = .ok (.bipush 32, 2) := by decide +kernel
theorem dM_learn_84 : decode cM_learn 84 = .ok (.aload_n 0, 1) := by decide +kernel
theorem dM_learn_85 : decode cM_learn 85 = .ok (.getfield 13, 3) := by decide +kernel
theorem dM_learn_88 : decode cM_learn 88 = .ok (.iload_n 1, 1) := by decide +kernel
theorem dM_learn_89 : decode cM_learn 89 = .ok (.iaload, 1) := by decide +kernel
theorem dM_learn_90 : decode cM_learn 90 = .ok (.imul, 1) := by decide +kernel
theorem dM_learn_91 : decode cM_learn 91 = .ok (.iload_n 2, 1) := by decide +kernel
theorem dM_learn_92 : decode cM_learn 92 = .ok (.iadd, 1) := by decide +kernel
theorem dM_learn_93 : decode cM_learn 93 = .ok (.iaload, 1) := by decide +kernel
theorem dM_learn_94 : decode cM_learn 94 = .ok (.goto 4, 3) := by decide +kernel
theorem dM_learn_97 : decode cM_learn 97 = .ok (.iconst 2, 1) := by decide +kernel
theorem dM_learn_98 : decode cM_learn 98 = .ok (.istore_n 3, 1) := by decide +kernel
theorem dM_learn_99 : decode cM_learn 99 = .ok (.aload_n 0, 1) := by decide +kernel
theorem dM_learn_100 : decode cM_learn 100 = .ok (.getfield 7, 3) := by decide +kernel
theorem dM_learn_103 : decode cM_learn 103 = .ok (.iload_n 1, 1) := by decide +kernel
theorem dM_learn_104 : decode cM_learn 104 = .ok (.iaload, 1) := by decide +kernel
theorem dM_learn_105 : decode cM_learn 105 = .ok (.iconst 5, 1) := by decide +kernel
theorem dM_learn_106 : decode cM_learn 106 = .ok (.if_icmp .gt 22, 3) := by decide +kernel
theorem dM_learn_109 : decode cM_learn 109 = .ok (.aload_n 0, 1) := by decide +kernel
theorem dM_learn_110 : decode cM_learn 110 = .ok (.getfield 25, 3) := by decide +kernel
theorem dM_learn_113 : decode cM_learn 113 = .ok (.bipush 32, 2) := by decide +kernel
theorem dM_learn_115 : decode cM_learn 115 = .ok (.aload_n 0, 1) := by decide +kernel
theorem dM_learn_116 : decode cM_learn 116 = .ok (.getfield 16, 3) := by decide +kernel
theorem dM_learn_119 : decode cM_learn 119 = .ok (.iload_n 1, 1) := by decide +kernel
theorem dM_learn_120 : decode cM_learn 120 = .ok (.iaload, 1) := by decide +kernel
theorem dM_learn_121 : decode cM_learn 121 = .ok (.imul, 1) := by decide +kernel
theorem dM_learn_122 : decode cM_learn 122 = .ok (.iload_n 2, 1) := by decide +kernel
theorem dM_learn_123 : decode cM_learn 123 = .ok (.iadd, 1) := by decide +kernel
theorem dM_learn_124 : decode cM_learn 124 = .ok (.iaload, 1) := by decide +kernel
theorem dM_learn_125 : decode cM_learn 125 = .ok (.goto 4, 3) := by decide +kernel
theorem dM_learn_128 : decode cM_learn 128 = .ok (.iconst 2, 1) := by decide +kernel
theorem dM_learn_129 : decode cM_learn 129 = .ok (.istore 4, 2) := by decide +kernel
theorem dM_learn_131 : decode cM_learn 131 = .ok (.bipush 32, 2) := by decide +kernel
theorem dM_learn_133 : decode cM_learn 133 = .ok (.iload_n 1, 1) := by decide +kernel
theorem dM_learn_134 : decode cM_learn 134 = .ok (.imul, 1) := by decide +kernel
theorem dM_learn_135 : decode cM_learn 135 = .ok (.iload_n 2, 1) := by decide +kernel
theorem dM_learn_136 : decode cM_learn 136 = .ok (.iadd, 1) := by decide +kernel
theorem dM_learn_137 : decode cM_learn 137 = .ok (.istore 5, 2) := by decide +kernel
theorem dM_learn_139 : decode cM_learn 139 = .ok (.aload_n 0, 1) := by decide +kernel
theorem dM_learn_140 : decode cM_learn 140 = .ok (.getfield 7, 3) := by decide +kernel
theorem dM_learn_143 : decode cM_learn 143 = .ok (.iload_n 1, 1) := by decide +kernel
theorem dM_learn_144 : decode cM_learn 144 = .ok (.iaload, 1) := by decide +kernel
theorem dM_learn_145 : decode cM_learn 145 = .ok (.tableswitch 148 3 13 #[90, 106, 131, 148, 148, 148, 148, 148, 148, 59, 70], 59) := by decide +kernel
theorem dM_learn_204 : decode cM_learn 204 = .ok (.aload_n 0, 1) := by decide +kernel
theorem dM_learn_205 : decode cM_learn 205 = .ok (.getfield 25, 3) := by decide +kernel
theorem dM_learn_208 : decode cM_learn 208 = .ok (.iload 5, 2) := by decide +kernel
theorem dM_learn_210 : decode cM_learn 210 = .ok (.iconst 2, 1) := by decide +kernel
theorem dM_learn_211 : decode cM_learn 211 = .ok (.iastore, 1) := by decide +kernel
theorem dM_learn_212 : decode cM_learn 212 = .ok (.goto 94, 3) := by decide +kernel
theorem dM_learn_215 : decode cM_learn 215 = .ok (.aload_n 0, 1) := by decide +kernel
theorem dM_learn_216 : decode cM_learn 216 = .ok (.getfield 25, 3) := by decide +kernel
theorem dM_learn_219 : decode cM_learn 219 = .ok (.iload 5, 2) := by decide +kernel
theorem dM_learn_221 : decode cM_learn 221 = .ok (.aload_n 0, 1) := by decide +kernel
theorem dM_learn_222 : decode cM_learn 222 = .ok (.getfield 13, 3) := by decide +kernel
theorem dM_learn_225 : decode cM_learn 225 = .ok (.iload_n 1, 1) := by decide +kernel
theorem dM_learn_226 : decode cM_learn 226 = .ok (.iaload, 1) := by decide +kernel
theorem dM_learn_227 : decode cM_learn 227 = .ok (.iload_n 2, 1) := by decide +kernel
theorem dM_learn_228 : decode cM_learn 228 = .ok (.invokestatic 79, 3) := by decide +kernel
theorem dM_learn_231 : decode cM_learn 231 = .ok (.iastore, 1) := by decide +kernel
theorem dM_learn_232 : decode cM_learn 232 = .ok (.goto 74, 3) := by decide +kernel
theorem dM_learn_235 : decode cM_learn 235 = .ok (.aload_n 0, 1) := by decide +kernel
theorem dM_learn_236 : decode cM_learn 236 = .ok (.getfield 25, 3) := by decide +kernel
theorem dM_learn_239 : decode cM_learn 239 = .ok (.iload 5, 2) := by decide +kernel
theorem dM_learn_241 : decode cM_learn 241 = .ok (.iload_n 3, 1) := by decide +kernel
theorem dM_learn_242 : decode cM_learn 242 = .ok (.iload 4, 2) := by decide +kernel
theorem dM_learn_244 : decode cM_learn 244 = .ok (.invokestatic 91, 3) := by decide +kernel
theorem dM_learn_247 : decode cM_learn 247 = .ok (.iastore, 1) := by decide +kernel
theorem dM_learn_248 : decode cM_learn 248 = .ok (.goto 58, 3) := by decide +kernel
theorem dM_learn_251 : decode cM_learn 251 = .ok (.aload_n 0, 1) := by decide +kernel
theorem dM_learn_252 : decode cM_learn 252 = .ok (.getfield 25, 3) := by decide +kernel
theorem dM_learn_255 : decode cM_learn 255 = .ok (.iload 5, 2) := by decide +kernel
theorem dM_learn_257 : decode cM_learn 257 = .ok (.iload_n 3, 1) := by decide +kernel
theorem dM_learn_258 : decode cM_learn 258 = .ok (.invokestatic 68, 3) := by decide +kernel
theorem dM_learn_261 : decode cM_learn 261 = .ok (.iload 4, 2) := by decide +kernel
theorem dM_learn_263 : decode cM_learn 263 = .ok (.invokestatic 68, 3) := by decide +kernel
theorem dM_learn_266 : decode cM_learn 266 = .ok (.invokestatic 91, 3) := by decide +kernel
theorem dM_learn_269 : decode cM_learn 269 = .ok (.invokestatic 68, 3) := by decide +kernel
theorem dM_learn_272 : decode cM_learn 272 = .ok (.iastore, 1) := by decide +kernel
theorem dM_learn_273 : decode cM_learn 273 = .ok (.goto 33, 3) := by decide +kernel
theorem dM_learn_276 : decode cM_learn 276 = .ok (.aload_n 0, 1) := by decide +kernel
theorem dM_learn_277 : decode cM_learn 277 = .ok (.getfield 25, 3) := by decide +kernel
theorem dM_learn_280 : decode cM_learn 280 = .ok (.iload 5, 2) := by decide +kernel
theorem dM_learn_282 : decode cM_learn 282 = .ok (.iload_n 3, 1) := by decide +kernel
theorem dM_learn_283 : decode cM_learn 283 = .ok (.iload 4, 2) := by decide +kernel
theorem dM_learn_285 : decode cM_learn 285 = .ok (.iconst 0, 1) := by decide +kernel
theorem dM_learn_286 : decode cM_learn 286 = .ok (.invokestatic 72, 3) := by decide +kernel
theorem dM_learn_289 : decode cM_learn 289 = .ok (.iastore, 1) := by decide +kernel
theorem dM_learn_290 : decode cM_learn 290 = .ok (.goto 16, 3) := by decide +kernel
theorem dM_learn_293 : decode cM_learn 293 = .ok (.aload_n 0, 1) := by decide +kernel
theorem dM_learn_294 : decode cM_learn 294 = .ok (.getfield 25, 3) := by decide +kernel
theorem dM_learn_297 : decode cM_learn 297 = .ok (.iload 5, 2) := by decide +kernel
theorem dM_learn_299 : decode cM_learn 299 = .ok (.aload_n 0, 1) := by decide +kernel
theorem dM_learn_300 : decode cM_learn 300 = .ok (.iload_n 1, 1) := by decide +kernel
theorem dM_learn_301 : decode cM_learn 301 = .ok (.iload_n 2, 1) := by decide +kernel
theorem dM_learn_302 : decode cM_learn 302 = .ok (.invokevirtual 94, 3) := by decide +kernel
theorem dM_learn_305 : decode cM_learn 305 = .ok (.iastore, 1) := by decide +kernel
theorem dM_learn_306 : decode cM_learn 306 = .ok (.iinc 2 1, 3) := by decide +kernel
theorem dM_learn_309 : decode cM_learn 309 = .ok (.goto (-247), 3) := by decide +kernel
theorem dM_learn_312 : decode cM_learn 312 = .ok (.return_, 1) := by decide +kernel
theorem dM_learnAll_0 : decode cM_learnAll 0 = .ok (.iconst 0, 1) := by decide +kernel
theorem dM_learnAll_1 : decode cM_learnAll 1 = .ok (.istore_n 1, 1) := by decide +kernel
theorem dM_learnAll_2 : decode cM_learnAll 2 = .ok (.iload_n 1, 1) := by decide +kernel
theorem dM_learnAll_3 : decode cM_learnAll 3 = .ok (.aload_n 0, 1) := by decide +kernel
theorem dM_learnAll_4 : decode cM_learnAll 4 = .ok (.getfield 54, 3) := by decide +kernel
theorem dM_learnAll_7 : decode cM_learnAll 7 = .ok (.if_icmp .ge 69, 3) := by decide +kernel
theorem dM_learnAll_10 : decode cM_learnAll 10 = .ok (.aload_n 0, 1) := by decide +kernel
theorem dM_learnAll_11 : decode cM_learnAll 11 = .ok (.getfield 7, 3) := by decide +kernel
theorem dM_learnAll_14 : decode cM_learnAll 14 = .ok (.iload_n 1, 1) := by decide +kernel
theorem dM_learnAll_15 : decode cM_learnAll 15 = .ok (.iaload, 1) := by decide +kernel
theorem dM_learnAll_16 : decode cM_learnAll 16 = .ok (.bipush 11, 2) := by decide +kernel
theorem dM_learnAll_18 : decode cM_learnAll 18 = .ok (.if_icmp .ne 47, 3) := by decide +kernel
theorem dM_learnAll_21 : decode cM_learnAll 21 = .ok (.iconst 0, 1) := by decide +kernel
theorem dM_learnAll_22 : decode cM_learnAll 22 = .ok (.istore_n 2, 1) := by decide +kernel
theorem dM_learnAll_23 : decode cM_learnAll 23 = .ok (.iload_n 2, 1) := by decide +kernel
theorem dM_learnAll_24 : decode cM_learnAll 24 = .ok (.bipush 32, 2) := by decide +kernel
theorem dM_learnAll_26 : decode cM_learnAll 26 = .ok (.if_icmp .ge 36, 3) := by decide +kernel
theorem dM_learnAll_29 : decode cM_learnAll 29 = .ok (.aload_n 0, 1) := by decide +kernel
theorem dM_learnAll_30 : decode cM_learnAll 30 = .ok (.getfield 25, 3) := by decide +kernel
theorem dM_learnAll_33 : decode cM_learnAll 33 = .ok (.bipush 32, 2) := by decide +kernel
theorem dM_learnAll_35 : decode cM_learnAll 35 = .ok (.iload_n 1, 1) := by decide +kernel
theorem dM_learnAll_36 : decode cM_learnAll 36 = .ok (.imul, 1) := by decide +kernel
theorem dM_learnAll_37 : decode cM_learnAll 37 = .ok (.iload_n 2, 1) := by decide +kernel
theorem dM_learnAll_38 : decode cM_learnAll 38 = .ok (.iadd, 1) := by decide +kernel
theorem dM_learnAll_39 : decode cM_learnAll 39 = .ok (.aload_n 0, 1) := by decide +kernel
theorem dM_learnAll_40 : decode cM_learnAll 40 = .ok (.getfield 25, 3) := by decide +kernel
theorem dM_learnAll_43 : decode cM_learnAll 43 = .ok (.bipush 32, 2) := by decide +kernel
theorem dM_learnAll_45 : decode cM_learnAll 45 = .ok (.aload_n 0, 1) := by decide +kernel
theorem dM_learnAll_46 : decode cM_learnAll 46 = .ok (.getfield 13, 3) := by decide +kernel
theorem dM_learnAll_49 : decode cM_learnAll 49 = .ok (.iload_n 1, 1) := by decide +kernel
theorem dM_learnAll_50 : decode cM_learnAll 50 = .ok (.iaload, 1) := by decide +kernel
theorem dM_learnAll_51 : decode cM_learnAll 51 = .ok (.imul, 1) := by decide +kernel
theorem dM_learnAll_52 : decode cM_learnAll 52 = .ok (.iload_n 2, 1) := by decide +kernel
theorem dM_learnAll_53 : decode cM_learnAll 53 = .ok (.iadd, 1) := by decide +kernel
theorem dM_learnAll_54 : decode cM_learnAll 54 = .ok (.iaload, 1) := by decide +kernel
theorem dM_learnAll_55 : decode cM_learnAll 55 = .ok (.iastore, 1) := by decide +kernel
theorem dM_learnAll_56 : decode cM_learnAll 56 = .ok (.iinc 2 1, 3) := by decide +kernel
theorem dM_learnAll_59 : decode cM_learnAll 59 = .ok (.goto (-36), 3) := by decide +kernel
theorem dM_learnAll_62 : decode cM_learnAll 62 = .ok (.goto 8, 3) := by decide +kernel
theorem dM_learnAll_65 : decode cM_learnAll 65 = .ok (.aload_n 0, 1) := by decide +kernel
theorem dM_learnAll_66 : decode cM_learnAll 66 = .ok (.iload_n 1, 1) := by decide +kernel
theorem dM_learnAll_67 : decode cM_learnAll 67 = .ok (.invokevirtual 97, 3) := by decide +kernel
theorem dM_learnAll_70 : decode cM_learnAll 70 = .ok (.iinc 1 1, 3) := by decide +kernel
theorem dM_learnAll_73 : decode cM_learnAll 73 = .ok (.goto (-71), 3) := by decide +kernel
theorem dM_learnAll_76 : decode cM_learnAll 76 = .ok (.iconst 1, 1) := by decide +kernel
theorem dM_learnAll_77 : decode cM_learnAll 77 = .ok (.istore_n 1, 1) := by decide +kernel
theorem dM_learnAll_78 : decode cM_learnAll 78 = .ok (.iload_n 1, 1) := by decide +kernel
theorem dM_learnAll_79 : decode cM_learnAll 79 = .ok (.ifCond .eq 168, 3) := by decide +kernel
theorem dM_learnAll_82 : decode cM_learnAll 82 = .ok (.iconst 0, 1) := by decide +kernel
theorem dM_learnAll_83 : decode cM_learnAll 83 = .ok (.istore_n 1, 1) := by decide +kernel
theorem dM_learnAll_84 : decode cM_learnAll 84 = .ok (.iconst 0, 1) := by decide +kernel
theorem dM_learnAll_85 : decode cM_learnAll 85 = .ok (.istore_n 2, 1) := by decide +kernel
theorem dM_learnAll_86 : decode cM_learnAll 86 = .ok (.iload_n 2, 1) := by decide +kernel
theorem dM_learnAll_87 : decode cM_learnAll 87 = .ok (.aload_n 0, 1) := by decide +kernel
theorem dM_learnAll_88 : decode cM_learnAll 88 = .ok (.getfield 54, 3) := by decide +kernel
theorem dM_learnAll_91 : decode cM_learnAll 91 = .ok (.if_icmp .ge 153, 3) := by decide +kernel
theorem dM_learnAll_94 : decode cM_learnAll 94 = .ok (.aload_n 0, 1) := by decide +kernel
theorem dM_learnAll_95 : decode cM_learnAll 95 = .ok (.getfield 7, 3) := by decide +kernel
theorem dM_learnAll_98 : decode cM_learnAll 98 = .ok (.iload_n 2, 1) := by decide +kernel
theorem dM_learnAll_99 : decode cM_learnAll 99 = .ok (.iaload, 1) := by decide +kernel
theorem dM_learnAll_100 : decode cM_learnAll 100 = .ok (.bipush 11, 2) := by decide +kernel
theorem dM_learnAll_102 : decode cM_learnAll 102 = .ok (.if_icmp .eq 11, 3) := by decide +kernel
theorem dM_learnAll_105 : decode cM_learnAll 105 = .ok (.aload_n 0, 1) := by decide +kernel
theorem dM_learnAll_106 : decode cM_learnAll 106 = .ok (.iload_n 2, 1) := by decide +kernel
theorem dM_learnAll_107 : decode cM_learnAll 107 = .ok (.invokevirtual 97, 3) := by decide +kernel
theorem dM_learnAll_110 : decode cM_learnAll 110 = .ok (.goto 128, 3) := by decide +kernel
theorem dM_learnAll_113 : decode cM_learnAll 113 = .ok (.iconst 0, 1) := by decide +kernel
theorem dM_learnAll_114 : decode cM_learnAll 114 = .ok (.istore_n 3, 1) := by decide +kernel
theorem dM_learnAll_115 : decode cM_learnAll 115 = .ok (.iload_n 3, 1) := by decide +kernel
theorem dM_learnAll_116 : decode cM_learnAll 116 = .ok (.bipush 32, 2) := by decide +kernel
theorem dM_learnAll_118 : decode cM_learnAll 118 = .ok (.if_icmp .ge 120, 3) := by decide +kernel
theorem dM_learnAll_121 : decode cM_learnAll 121 = .ok (.aload_n 0, 1) := by decide +kernel
theorem dM_learnAll_122 : decode cM_learnAll 122 = .ok (.getfield 25, 3) := by decide +kernel
theorem dM_learnAll_125 : decode cM_learnAll 125 = .ok (.bipush 32, 2) := by decide +kernel
theorem dM_learnAll_127 : decode cM_learnAll 127 = .ok (.iload_n 2, 1) := by decide +kernel
theorem dM_learnAll_128 : decode cM_learnAll 128 = .ok (.imul, 1) := by decide +kernel
theorem dM_learnAll_129 : decode cM_learnAll 129 = .ok (.iload_n 3, 1) := by decide +kernel
theorem dM_learnAll_130 : decode cM_learnAll 130 = .ok (.iadd, 1) := by decide +kernel
theorem dM_learnAll_131 : decode cM_learnAll 131 = .ok (.iaload, 1) := by decide +kernel
theorem dM_learnAll_132 : decode cM_learnAll 132 = .ok (.istore 4, 2) := by decide +kernel
theorem dM_learnAll_134 : decode cM_learnAll 134 = .ok (.iload 4, 2) := by decide +kernel
theorem dM_learnAll_136 : decode cM_learnAll 136 = .ok (.iconst 2, 1) := by decide +kernel
theorem dM_learnAll_137 : decode cM_learnAll 137 = .ok (.if_icmp .eq 49, 3) := by decide +kernel
theorem dM_learnAll_140 : decode cM_learnAll 140 = .ok (.aload_n 0, 1) := by decide +kernel
theorem dM_learnAll_141 : decode cM_learnAll 141 = .ok (.getfield 25, 3) := by decide +kernel
theorem dM_learnAll_144 : decode cM_learnAll 144 = .ok (.bipush 32, 2) := by decide +kernel
theorem dM_learnAll_146 : decode cM_learnAll 146 = .ok (.aload_n 0, 1) := by decide +kernel
theorem dM_learnAll_147 : decode cM_learnAll 147 = .ok (.getfield 13, 3) := by decide +kernel
theorem dM_learnAll_150 : decode cM_learnAll 150 = .ok (.iload_n 2, 1) := by decide +kernel
theorem dM_learnAll_151 : decode cM_learnAll 151 = .ok (.iaload, 1) := by decide +kernel
theorem dM_learnAll_152 : decode cM_learnAll 152 = .ok (.imul, 1) := by decide +kernel
theorem dM_learnAll_153 : decode cM_learnAll 153 = .ok (.iload_n 3, 1) := by decide +kernel
theorem dM_learnAll_154 : decode cM_learnAll 154 = .ok (.iadd, 1) := by decide +kernel
theorem dM_learnAll_155 : decode cM_learnAll 155 = .ok (.iaload, 1) := by decide +kernel
theorem dM_learnAll_156 : decode cM_learnAll 156 = .ok (.iload 4, 2) := by decide +kernel
theorem dM_learnAll_158 : decode cM_learnAll 158 = .ok (.if_icmp .ne 28, 3) := by decide +kernel
theorem dM_learnAll_161 : decode cM_learnAll 161 = .ok (.aload_n 0, 1) := by decide +kernel
theorem dM_learnAll_162 : decode cM_learnAll 162 = .ok (.getfield 25, 3) := by decide +kernel
theorem dM_learnAll_165 : decode cM_learnAll 165 = .ok (.bipush 32, 2) := by decide +kernel
theorem dM_learnAll_167 : decode cM_learnAll 167 = .ok (.aload_n 0, 1) := by decide +kernel
theorem dM_learnAll_168 : decode cM_learnAll 168 = .ok (.getfield 16, 3) := by decide +kernel
theorem dM_learnAll_171 : decode cM_learnAll 171 = .ok (.iload_n 2, 1) := by decide +kernel
theorem dM_learnAll_172 : decode cM_learnAll 172 = .ok (.iaload, 1) := by decide +kernel
theorem dM_learnAll_173 : decode cM_learnAll 173 = .ok (.imul, 1) := by decide +kernel
theorem dM_learnAll_174 : decode cM_learnAll 174 = .ok (.iload_n 3, 1) := by decide +kernel
theorem dM_learnAll_175 : decode cM_learnAll 175 = .ok (.iadd, 1) := by decide +kernel
theorem dM_learnAll_176 : decode cM_learnAll 176 = .ok (.iaload, 1) := by decide +kernel
theorem dM_learnAll_177 : decode cM_learnAll 177 = .ok (.iload 4, 2) := by decide +kernel
theorem dM_learnAll_179 : decode cM_learnAll 179 = .ok (.if_icmp .ne 7, 3) := by decide +kernel
theorem dM_learnAll_182 : decode cM_learnAll 182 = .ok (.iconst 1, 1) := by decide +kernel
theorem dM_learnAll_183 : decode cM_learnAll 183 = .ok (.goto 4, 3) := by decide +kernel
theorem dM_learnAll_186 : decode cM_learnAll 186 = .ok (.iconst 0, 1) := by decide +kernel
theorem dM_learnAll_187 : decode cM_learnAll 187 = .ok (.istore 5, 2) := by decide +kernel
theorem dM_learnAll_189 : decode cM_learnAll 189 = .ok (.iload_n 1, 1) := by decide +kernel
theorem dM_learnAll_190 : decode cM_learnAll 190 = .ok (.ifCond .ne 14, 3) := by decide +kernel
theorem dM_learnAll_193 : decode cM_learnAll 193 = .ok (.iload 4, 2) := by decide +kernel
theorem dM_learnAll_195 : decode cM_learnAll 195 = .ok (.iconst 2, 1) := by decide +kernel
theorem dM_learnAll_196 : decode cM_learnAll 196 = .ok (.if_icmp .eq 12, 3) := by decide +kernel
theorem dM_learnAll_199 : decode cM_learnAll 199 = .ok (.iload 5, 2) := by decide +kernel
theorem dM_learnAll_201 : decode cM_learnAll 201 = .ok (.ifCond .ne 7, 3) := by decide +kernel
theorem dM_learnAll_204 : decode cM_learnAll 204 = .ok (.iconst 1, 1) := by decide +kernel
theorem dM_learnAll_205 : decode cM_learnAll 205 = .ok (.goto 4, 3) := by decide +kernel
theorem dM_learnAll_208 : decode cM_learnAll 208 = .ok (.iconst 0, 1) := by decide +kernel
theorem dM_learnAll_209 : decode cM_learnAll 209 = .ok (.istore_n 1, 1) := by decide +kernel
theorem dM_learnAll_210 : decode cM_learnAll 210 = .ok (.aload_n 0, 1) := by decide +kernel
theorem dM_learnAll_211 : decode cM_learnAll 211 = .ok (.getfield 25, 3) := by decide +kernel
theorem dM_learnAll_214 : decode cM_learnAll 214 = .ok (.bipush 32, 2) := by decide +kernel
theorem dM_learnAll_216 : decode cM_learnAll 216 = .ok (.iload_n 2, 1) := by decide +kernel
theorem dM_learnAll_217 : decode cM_learnAll 217 = .ok (.imul, 1) := by decide +kernel
theorem dM_learnAll_218 : decode cM_learnAll 218 = .ok (.iload_n 3, 1) := by decide +kernel
theorem dM_learnAll_219 : decode cM_learnAll 219 = .ok (.iadd, 1) := by decide +kernel
theorem dM_learnAll_220 : decode cM_learnAll 220 = .ok (.iload 5, 2) := by decide +kernel
theorem dM_learnAll_222 : decode cM_learnAll 222 = .ok (.ifCond .eq 8, 3) := by decide +kernel
theorem dM_learnAll_225 : decode cM_learnAll 225 = .ok (.iload 4, 2) := by decide +kernel
theorem dM_learnAll_227 : decode cM_learnAll 227 = .ok (.goto 4, 3) := by decide +kernel
theorem dM_learnAll_230 : decode cM_learnAll 230 = .ok (.iconst 2, 1) := by decide +kernel
theorem dM_learnAll_231 : decode cM_learnAll 231 = .ok (.iastore, 1) := by decide +kernel
theorem dM_learnAll_232 : decode cM_learnAll 232 = .ok (.iinc 3 1, 3) := by decide +kernel
theorem dM_learnAll_235 : decode cM_learnAll 235 = .ok (.goto (-120), 3) := by decide +kernel
theorem dM_learnAll_238 : decode cM_learnAll 238 = .ok (.iinc 2 1, 3) := by decide +kernel
theorem dM_learnAll_241 : decode cM_learnAll 241 = .ok (.goto (-155), 3) := by decide +kernel
theorem dM_learnAll_244 : decode cM_learnAll 244 = .ok (.goto (-166), 3) := by decide +kernel
theorem dM_learnAll_247 : decode cM_learnAll 247 = .ok (.return_, 1) := by decide +kernel
theorem dM_want_0 : decode cM_want 0 = .ok (.aload_n 1, 1) := by decide +kernel
theorem dM_want_1 : decode cM_want 1 = .ok (.bipush 32, 2) := by decide +kernel
theorem dM_want_3 : decode cM_want 3 = .ok (.iload_n 2, 1) := by decide +kernel
theorem dM_want_4 : decode cM_want 4 = .ok (.imul, 1) := by decide +kernel
theorem dM_want_5 : decode cM_want 5 = .ok (.iload_n 3, 1) := by decide +kernel
theorem dM_want_6 : decode cM_want 6 = .ok (.iadd, 1) := by decide +kernel
theorem dM_want_7 : decode cM_want 7 = .ok (.baload, 1) := by decide +kernel
theorem dM_want_8 : decode cM_want 8 = .ok (.ifCond .ne 37, 3) := by decide +kernel
theorem dM_want_11 : decode cM_want 11 = .ok (.aload_n 1, 1) := by decide +kernel
theorem dM_want_12 : decode cM_want 12 = .ok (.bipush 32, 2) := by decide +kernel
theorem dM_want_14 : decode cM_want 14 = .ok (.iload_n 2, 1) := by decide +kernel
theorem dM_want_15 : decode cM_want 15 = .ok (.imul, 1) := by decide +kernel
theorem dM_want_16 : decode cM_want 16 = .ok (.iload_n 3, 1) := by decide +kernel
theorem dM_want_17 : decode cM_want 17 = .ok (.iadd, 1) := by decide +kernel
theorem dM_want_18 : decode cM_want 18 = .ok (.iconst 1, 1) := by decide +kernel
theorem dM_want_19 : decode cM_want 19 = .ok (.bastore, 1) := by decide +kernel
theorem dM_want_20 : decode cM_want 20 = .ok (.aload_n 0, 1) := by decide +kernel
theorem dM_want_21 : decode cM_want 21 = .ok (.getfield 38, 3) := by decide +kernel
theorem dM_want_24 : decode cM_want 24 = .ok (.aload_n 0, 1) := by decide +kernel
theorem dM_want_25 : decode cM_want 25 = .ok (.getfield 100, 3) := by decide +kernel
theorem dM_want_28 : decode cM_want 28 = .ok (.bipush 32, 2) := by decide +kernel
theorem dM_want_30 : decode cM_want 30 = .ok (.iload_n 2, 1) := by decide +kernel
theorem dM_want_31 : decode cM_want 31 = .ok (.imul, 1) := by decide +kernel
theorem dM_want_32 : decode cM_want 32 = .ok (.iload_n 3, 1) := by decide +kernel
theorem dM_want_33 : decode cM_want 33 = .ok (.iadd, 1) := by decide +kernel
theorem dM_want_34 : decode cM_want 34 = .ok (.iastore, 1) := by decide +kernel
theorem dM_want_35 : decode cM_want 35 = .ok (.aload_n 0, 1) := by decide +kernel
theorem dM_want_36 : decode cM_want 36 = .ok (.dup, 1) := by decide +kernel
theorem dM_want_37 : decode cM_want 37 = .ok (.getfield 100, 3) := by decide +kernel
theorem dM_want_40 : decode cM_want 40 = .ok (.iconst 1, 1) := by decide +kernel
theorem dM_want_41 : decode cM_want 41 = .ok (.iadd, 1) := by decide +kernel
theorem dM_want_42 : decode cM_want 42 = .ok (.putfield 100, 3) := by decide +kernel
theorem dM_want_45 : decode cM_want 45 = .ok (.return_, 1) := by decide +kernel
theorem dM_wantUpTo_0 : decode cM_wantUpTo 0 = .ok (.iconst 0, 1) := by decide +kernel
theorem dM_wantUpTo_1 : decode cM_wantUpTo 1 = .ok (.istore 4, 2) := by decide +kernel
theorem dM_wantUpTo_3 : decode cM_wantUpTo 3 = .ok (.iload 4, 2) := by decide +kernel
theorem dM_wantUpTo_5 : decode cM_wantUpTo 5 = .ok (.iload_n 3, 1) := by decide +kernel
theorem dM_wantUpTo_6 : decode cM_wantUpTo 6 = .ok (.if_icmp .gt 17, 3) := by decide +kernel
theorem dM_wantUpTo_9 : decode cM_wantUpTo 9 = .ok (.aload_n 0, 1) := by decide +kernel
theorem dM_wantUpTo_10 : decode cM_wantUpTo 10 = .ok (.aload_n 1, 1) := by decide +kernel
theorem dM_wantUpTo_11 : decode cM_wantUpTo 11 = .ok (.iload_n 2, 1) := by decide +kernel
theorem dM_wantUpTo_12 : decode cM_wantUpTo 12 = .ok (.iload 4, 2) := by decide +kernel
theorem dM_wantUpTo_14 : decode cM_wantUpTo 14 = .ok (.invokevirtual 103, 3) := by decide +kernel
theorem dM_wantUpTo_17 : decode cM_wantUpTo 17 = .ok (.iinc 4 1, 3) := by decide +kernel
theorem dM_wantUpTo_20 : decode cM_wantUpTo 20 = .ok (.goto (-17), 3) := by decide +kernel
theorem dM_wantUpTo_23 : decode cM_wantUpTo 23 = .ok (.return_, 1) := by decide +kernel
theorem dM_ask_0 : decode cM_ask 0 = .ok (.aload_n 0, 1) := by decide +kernel
theorem dM_ask_1 : decode cM_ask 1 = .ok (.getfield 13, 3) := by decide +kernel
theorem dM_ask_4 : decode cM_ask 4 = .ok (.iload_n 2, 1) := by decide +kernel
theorem dM_ask_5 : decode cM_ask 5 = .ok (.iaload, 1) := by decide +kernel
theorem dM_ask_6 : decode cM_ask 6 = .ok (.istore 4, 2) := by decide +kernel
theorem dM_ask_8 : decode cM_ask 8 = .ok (.aload_n 0, 1) := by decide +kernel
theorem dM_ask_9 : decode cM_ask 9 = .ok (.getfield 16, 3) := by decide +kernel
theorem dM_ask_12 : decode cM_ask 12 = .ok (.iload_n 2, 1) := by decide +kernel
theorem dM_ask_13 : decode cM_ask 13 = .ok (.iaload, 1) := by decide +kernel
theorem dM_ask_14 : decode cM_ask 14 = .ok (.istore 5, 2) := by decide +kernel
theorem dM_ask_16 : decode cM_ask 16 = .ok (.aload_n 0, 1) := by decide +kernel
theorem dM_ask_17 : decode cM_ask 17 = .ok (.getfield 7, 3) := by decide +kernel
theorem dM_ask_20 : decode cM_ask 20 = .ok (.iload_n 2, 1) := by decide +kernel
theorem dM_ask_21 : decode cM_ask 21 = .ok (.iaload, 1) := by decide +kernel
theorem dM_ask_22 : decode cM_ask 22 = .ok (.tableswitch 243 0 11 #[62, 62, 62, 81, 81, 109, 128, 148, 176, 199, 221, 109], 62) := by decide +kernel
theorem dM_ask_84 : decode cM_ask 84 = .ok (.aload_n 0, 1) := by decide +kernel
theorem dM_ask_85 : decode cM_ask 85 = .ok (.aload_n 1, 1) := by decide +kernel
theorem dM_ask_86 : decode cM_ask 86 = .ok (.iload 4, 2) := by decide +kernel
theorem dM_ask_88 : decode cM_ask 88 = .ok (.iload_n 3, 1) := by decide +kernel
theorem dM_ask_89 : decode cM_ask 89 = .ok (.invokevirtual 107, 3) := by decide +kernel
theorem dM_ask_92 : decode cM_ask 92 = .ok (.aload_n 0, 1) := by decide +kernel
theorem dM_ask_93 : decode cM_ask 93 = .ok (.aload_n 1, 1) := by decide +kernel
theorem dM_ask_94 : decode cM_ask 94 = .ok (.iload 5, 2) := by decide +kernel
theorem dM_ask_96 : decode cM_ask 96 = .ok (.iload_n 3, 1) := by decide +kernel
theorem dM_ask_97 : decode cM_ask 97 = .ok (.invokevirtual 107, 3) := by decide +kernel
theorem dM_ask_100 : decode cM_ask 100 = .ok (.goto 165, 3) := by decide +kernel
theorem dM_ask_103 : decode cM_ask 103 = .ok (.aload_n 0, 1) := by decide +kernel
theorem dM_ask_104 : decode cM_ask 104 = .ok (.aload_n 1, 1) := by decide +kernel
theorem dM_ask_105 : decode cM_ask 105 = .ok (.iload 4, 2) := by decide +kernel
theorem dM_ask_107 : decode cM_ask 107 = .ok (.iload 5, 2) := by decide +kernel
theorem dM_ask_109 : decode cM_ask 109 = .ok (.iload_n 3, 1) := by decide +kernel
theorem dM_ask_110 : decode cM_ask 110 = .ok (.aload_n 0, 1) := by decide +kernel
theorem dM_ask_111 : decode cM_ask 111 = .ok (.getfield 7, 3) := by decide +kernel
theorem dM_ask_114 : decode cM_ask 114 = .ok (.iload_n 2, 1) := by decide +kernel
theorem dM_ask_115 : decode cM_ask 115 = .ok (.iaload, 1) := by decide +kernel
theorem dM_ask_116 : decode cM_ask 116 = .ok (.iconst 3, 1) := by decide +kernel
theorem dM_ask_117 : decode cM_ask 117 = .ok (.if_icmp .ne 7, 3) := by decide +kernel
theorem dM_ask_120 : decode cM_ask 120 = .ok (.iconst 0, 1) := by decide +kernel
theorem dM_ask_121 : decode cM_ask 121 = .ok (.goto 4, 3) := by decide +kernel
theorem dM_ask_124 : decode cM_ask 124 = .ok (.iconst 1, 1) := by decide +kernel
theorem dM_ask_125 : decode cM_ask 125 = .ok (.invokevirtual 110, 3) := by decide +kernel
theorem dM_ask_128 : decode cM_ask 128 = .ok (.goto 137, 3) := by decide +kernel
theorem dM_ask_131 : decode cM_ask 131 = .ok (.aload_n 0, 1) := by decide +kernel
theorem dM_ask_132 : decode cM_ask 132 = .ok (.aload_n 1, 1) := by decide +kernel
theorem dM_ask_133 : decode cM_ask 133 = .ok (.iload 4, 2) := by decide +kernel
theorem dM_ask_135 : decode cM_ask 135 = .ok (.iload_n 3, 1) := by decide +kernel
theorem dM_ask_136 : decode cM_ask 136 = .ok (.invokevirtual 103, 3) := by decide +kernel
theorem dM_ask_139 : decode cM_ask 139 = .ok (.aload_n 0, 1) := by decide +kernel
theorem dM_ask_140 : decode cM_ask 140 = .ok (.aload_n 1, 1) := by decide +kernel
theorem dM_ask_141 : decode cM_ask 141 = .ok (.iload 5, 2) := by decide +kernel
theorem dM_ask_143 : decode cM_ask 143 = .ok (.iload_n 3, 1) := by decide +kernel
theorem dM_ask_144 : decode cM_ask 144 = .ok (.invokevirtual 103, 3) := by decide +kernel
theorem dM_ask_147 : decode cM_ask 147 = .ok (.goto 118, 3) := by decide +kernel
theorem dM_ask_150 : decode cM_ask 150 = .ok (.iload_n 3, 1) := by decide +kernel
theorem dM_ask_151 : decode cM_ask 151 = .ok (.iload 5, 2) := by decide +kernel
theorem dM_ask_153 : decode cM_ask 153 = .ok (.if_icmp .lt 112, 3) := by decide +kernel
theorem dM_ask_156 : decode cM_ask 156 = .ok (.aload_n 0, 1) := by decide +kernel
theorem dM_ask_157 : decode cM_ask 157 = .ok (.aload_n 1, 1) := by decide +kernel
theorem dM_ask_158 : decode cM_ask 158 = .ok (.iload 4, 2) := by decide +kernel
theorem dM_ask_160 : decode cM_ask 160 = .ok (.iload_n 3, 1) := by decide +kernel
theorem dM_ask_161 : decode cM_ask 161 = .ok (.iload 5, 2) := by decide +kernel
theorem dM_ask_163 : decode cM_ask 163 = .ok (.isub, 1) := by decide +kernel
theorem dM_ask_164 : decode cM_ask 164 = .ok (.invokevirtual 103, 3) := by decide +kernel
theorem dM_ask_167 : decode cM_ask 167 = .ok (.goto 98, 3) := by decide +kernel
theorem dM_ask_170 : decode cM_ask 170 = .ok (.aload_n 0, 1) := by decide +kernel
theorem dM_ask_171 : decode cM_ask 171 = .ok (.aload_n 1, 1) := by decide +kernel
theorem dM_ask_172 : decode cM_ask 172 = .ok (.iload 4, 2) := by decide +kernel
theorem dM_ask_174 : decode cM_ask 174 = .ok (.iload_n 3, 1) := by decide +kernel
theorem dM_ask_175 : decode cM_ask 175 = .ok (.iload 5, 2) := by decide +kernel
theorem dM_ask_177 : decode cM_ask 177 = .ok (.iadd, 1) := by decide +kernel
theorem dM_ask_178 : decode cM_ask 178 = .ok (.bipush 31, 2) := by decide +kernel
theorem dM_ask_180 : decode cM_ask 180 = .ok (.if_icmp .le 8, 3) := by decide +kernel
theorem dM_ask_183 : decode cM_ask 183 = .ok (.bipush 31, 2) := by decide +kernel
theorem dM_ask_185 : decode cM_ask 185 = .ok (.goto 7, 3) := by decide +kernel
theorem dM_ask_188 : decode cM_ask 188 = .ok (.iload_n 3, 1) := by decide +kernel
theorem dM_ask_189 : decode cM_ask 189 = .ok (.iload 5, 2) := by decide +kernel
theorem dM_ask_191 : decode cM_ask 191 = .ok (.iadd, 1) := by decide +kernel
theorem dM_ask_192 : decode cM_ask 192 = .ok (.invokevirtual 103, 3) := by decide +kernel
theorem dM_ask_195 : decode cM_ask 195 = .ok (.goto 70, 3) := by decide +kernel
theorem dM_ask_198 : decode cM_ask 198 = .ok (.iload_n 3, 1) := by decide +kernel
theorem dM_ask_199 : decode cM_ask 199 = .ok (.iload 5, 2) := by decide +kernel
theorem dM_ask_201 : decode cM_ask 201 = .ok (.iadd, 1) := by decide +kernel
theorem dM_ask_202 : decode cM_ask 202 = .ok (.bipush 31, 2) := by decide +kernel
theorem dM_ask_204 : decode cM_ask 204 = .ok (.if_icmp .gt 61, 3) := by decide +kernel
theorem dM_ask_207 : decode cM_ask 207 = .ok (.aload_n 0, 1) := by decide +kernel
theorem dM_ask_208 : decode cM_ask 208 = .ok (.aload_n 1, 1) := by decide +kernel
theorem dM_ask_209 : decode cM_ask 209 = .ok (.iload 4, 2) := by decide +kernel
theorem dM_ask_211 : decode cM_ask 211 = .ok (.iload_n 3, 1) := by decide +kernel
theorem dM_ask_212 : decode cM_ask 212 = .ok (.iload 5, 2) := by decide +kernel
theorem dM_ask_214 : decode cM_ask 214 = .ok (.iadd, 1) := by decide +kernel
theorem dM_ask_215 : decode cM_ask 215 = .ok (.invokevirtual 103, 3) := by decide +kernel
theorem dM_ask_218 : decode cM_ask 218 = .ok (.goto 47, 3) := by decide +kernel
theorem dM_ask_221 : decode cM_ask 221 = .ok (.aload_n 0, 1) := by decide +kernel
theorem dM_ask_222 : decode cM_ask 222 = .ok (.aload_n 1, 1) := by decide +kernel
theorem dM_ask_223 : decode cM_ask 223 = .ok (.iload 4, 2) := by decide +kernel
theorem dM_ask_225 : decode cM_ask 225 = .ok (.iload_n 3, 1) := by decide +kernel
theorem dM_ask_226 : decode cM_ask 226 = .ok (.bipush 7, 2) := by decide +kernel
theorem dM_ask_228 : decode cM_ask 228 = .ok (.if_icmp .le 8, 3) := by decide +kernel
theorem dM_ask_231 : decode cM_ask 231 = .ok (.bipush 7, 2) := by decide +kernel
theorem dM_ask_233 : decode cM_ask 233 = .ok (.goto 4, 3) := by decide +kernel
theorem dM_ask_236 : decode cM_ask 236 = .ok (.iload_n 3, 1) := by decide +kernel
theorem dM_ask_237 : decode cM_ask 237 = .ok (.invokevirtual 103, 3) := by decide +kernel
theorem dM_ask_240 : decode cM_ask 240 = .ok (.goto 25, 3) := by decide +kernel
theorem dM_ask_243 : decode cM_ask 243 = .ok (.aload_n 0, 1) := by decide +kernel
theorem dM_ask_244 : decode cM_ask 244 = .ok (.aload_n 1, 1) := by decide +kernel
theorem dM_ask_245 : decode cM_ask 245 = .ok (.iload 4, 2) := by decide +kernel
theorem dM_ask_247 : decode cM_ask 247 = .ok (.iload_n 3, 1) := by decide +kernel
theorem dM_ask_248 : decode cM_ask 248 = .ok (.bipush 15, 2) := by decide +kernel
theorem dM_ask_250 : decode cM_ask 250 = .ok (.if_icmp .le 8, 3) := by decide +kernel
theorem dM_ask_253 : decode cM_ask 253 = .ok (.bipush 15, 2) := by decide +kernel
theorem dM_ask_255 : decode cM_ask 255 = .ok (.goto 4, 3) := by decide +kernel
theorem dM_ask_258 : decode cM_ask 258 = .ok (.iload_n 3, 1) := by decide +kernel
theorem dM_ask_259 : decode cM_ask 259 = .ok (.invokevirtual 103, 3) := by decide +kernel
theorem dM_ask_262 : decode cM_ask 262 = .ok (.goto 3, 3) := by decide +kernel
theorem dM_ask_265 : decode cM_ask 265 = .ok (.return_, 1) := by decide +kernel
theorem dM_askWith_0 : decode cM_askWith 0 = .ok (.aload_n 0, 1) := by decide +kernel
theorem dM_askWith_1 : decode cM_askWith 1 = .ok (.getfield 25, 3) := by decide +kernel
theorem dM_askWith_4 : decode cM_askWith 4 = .ok (.bipush 32, 2) := by decide +kernel
theorem dM_askWith_6 : decode cM_askWith 6 = .ok (.iload_n 3, 1) := by decide +kernel
theorem dM_askWith_7 : decode cM_askWith 7 = .ok (.imul, 1) := by decide +kernel
theorem dM_askWith_8 : decode cM_askWith 8 = .ok (.iload 4, 2) := by decide +kernel
theorem dM_askWith_10 : decode cM_askWith 10 = .ok (.iadd, 1) := by decide +kernel
theorem dM_askWith_11 : decode cM_askWith 11 = .ok (.iaload, 1) := by decide +kernel
theorem dM_askWith_12 : decode cM_askWith 12 = .ok (.iload 5, 2) := by decide +kernel
theorem dM_askWith_14 : decode cM_askWith 14 = .ok (.if_icmp .ne 7, 3) := by decide +kernel
theorem dM_askWith_17 : decode cM_askWith 17 = .ok (.iconst 1, 1) := by decide +kernel
theorem dM_askWith_18 : decode cM_askWith 18 = .ok (.goto 4, 3) := by decide +kernel
theorem dM_askWith_21 : decode cM_askWith 21 = .ok (.iconst 0, 1) := by decide +kernel
theorem dM_askWith_22 : decode cM_askWith 22 = .ok (.istore 6, 2) := by decide +kernel
theorem dM_askWith_24 : decode cM_askWith 24 = .ok (.aload_n 0, 1) := by decide +kernel
theorem dM_askWith_25 : decode cM_askWith 25 = .ok (.getfield 25, 3) := by decide +kernel
theorem dM_askWith_28 : decode cM_askWith 28 = .ok (.bipush 32, 2) := by decide +kernel
theorem dM_askWith_30 : decode cM_askWith 30 = .ok (.iload_n 2, 1) := by decide +kernel
theorem dM_askWith_31 : decode cM_askWith 31 = .ok (.imul, 1) := by decide +kernel
theorem dM_askWith_32 : decode cM_askWith 32 = .ok (.iload 4, 2) := by decide +kernel
theorem dM_askWith_34 : decode cM_askWith 34 = .ok (.iadd, 1) := by decide +kernel
theorem dM_askWith_35 : decode cM_askWith 35 = .ok (.iaload, 1) := by decide +kernel
theorem dM_askWith_36 : decode cM_askWith 36 = .ok (.iload 5, 2) := by decide +kernel
theorem dM_askWith_38 : decode cM_askWith 38 = .ok (.if_icmp .ne 7, 3) := by decide +kernel
theorem dM_askWith_41 : decode cM_askWith 41 = .ok (.iconst 1, 1) := by decide +kernel
theorem dM_askWith_42 : decode cM_askWith 42 = .ok (.goto 4, 3) := by decide +kernel
theorem dM_askWith_45 : decode cM_askWith 45 = .ok (.iconst 0, 1) := by decide +kernel
theorem dM_askWith_46 : decode cM_askWith 46 = .ok (.istore 7, 2) := by decide +kernel
theorem dM_askWith_48 : decode cM_askWith 48 = .ok (.iload 6, 2) := by decide +kernel
theorem dM_askWith_50 : decode cM_askWith 50 = .ok (.ifCond .ne 11, 3) := by decide +kernel
theorem dM_askWith_53 : decode cM_askWith 53 = .ok (.aload_n 0, 1) := by decide +kernel
theorem dM_askWith_54 : decode cM_askWith 54 = .ok (.aload_n 1, 1) := by decide +kernel
theorem dM_askWith_55 : decode cM_askWith 55 = .ok (.iload_n 2, 1) := by decide +kernel
theorem dM_askWith_56 : decode cM_askWith 56 = .ok (.iload 4, 2) := by decide +kernel
theorem dM_askWith_58 : decode cM_askWith 58 = .ok (.invokevirtual 103, 3) := by decide +kernel
theorem dM_askWith_61 : decode cM_askWith 61 = .ok (.iload 6, 2) := by decide +kernel
theorem dM_askWith_63 : decode cM_askWith 63 = .ok (.ifCond .ne 8, 3) := by decide +kernel
theorem dM_askWith_66 : decode cM_askWith 66 = .ok (.iload 7, 2) := by decide +kernel
theorem dM_askWith_68 : decode cM_askWith 68 = .ok (.ifCond .ne 11, 3) := by decide +kernel
theorem dM_askWith_71 : decode cM_askWith 71 = .ok (.aload_n 0, 1) := by decide +kernel
theorem dM_askWith_72 : decode cM_askWith 72 = .ok (.aload_n 1, 1) := by decide +kernel
theorem dM_askWith_73 : decode cM_askWith 73 = .ok (.iload_n 3, 1) := by decide +kernel
theorem dM_askWith_74 : decode cM_askWith 74 = .ok (.iload 4, 2) := by decide +kernel
theorem dM_askWith_76 : decode cM_askWith 76 = .ok (.invokevirtual 103, 3) := by decide +kernel
theorem dM_askWith_79 : decode cM_askWith 79 = .ok (.return_, 1) := by decide +kernel
theorem dM_demand_0 : decode cM_demand 0 = .ok (.iconst 0, 1) := by decide +kernel
theorem dM_demand_1 : decode cM_demand 1 = .ok (.istore_n 3, 1) := by decide +kernel
theorem dM_demand_2 : decode cM_demand 2 = .ok (.iload_n 3, 1) := by decide +kernel
theorem dM_demand_3 : decode cM_demand 3 = .ok (.sipush 768, 3) := by decide +kernel
theorem dM_demand_6 : decode cM_demand 6 = .ok (.if_icmp .ge 13, 3) := by decide +kernel
theorem dM_demand_9 : decode cM_demand 9 = .ok (.aload_n 1, 1) := by decide +kernel
theorem dM_demand_10 : decode cM_demand 10 = .ok (.iload_n 3, 1) := by decide +kernel
theorem dM_demand_11 : decode cM_demand 11 = .ok (.iconst 0, 1) := by decide +kernel
theorem dM_demand_12 : decode cM_demand 12 = .ok (.bastore, 1) := by decide +kernel
theorem dM_demand_13 : decode cM_demand 13 = .ok (.iinc 3 1, 3) := by decide +kernel
theorem dM_demand_16 : decode cM_demand 16 = .ok (.goto (-14), 3) := by decide +kernel
theorem dM_demand_19 : decode cM_demand 19 = .ok (.aload_n 0, 1) := by decide +kernel
theorem dM_demand_20 : decode cM_demand 20 = .ok (.iconst 0, 1) := by decide +kernel
theorem dM_demand_21 : decode cM_demand 21 = .ok (.putfield 100, 3) := by decide +kernel
theorem dM_demand_24 : decode cM_demand 24 = .ok (.iconst 0, 1) := by decide +kernel
theorem dM_demand_25 : decode cM_demand 25 = .ok (.istore_n 3, 1) := by decide +kernel
theorem dM_demand_26 : decode cM_demand 26 = .ok (.iload_n 3, 1) := by decide +kernel
theorem dM_demand_27 : decode cM_demand 27 = .ok (.aload_n 0, 1) := by decide +kernel
theorem dM_demand_28 : decode cM_demand 28 = .ok (.getfield 65, 3) := by decide +kernel
theorem dM_demand_31 : decode cM_demand 31 = .ok (.if_icmp .ge 53, 3) := by decide +kernel
theorem dM_demand_34 : decode cM_demand 34 = .ok (.iconst 0, 1) := by decide +kernel
theorem dM_demand_35 : decode cM_demand 35 = .ok (.istore 4, 2) := by decide +kernel
theorem dM_demand_37 : decode cM_demand 37 = .ok (.iload 4, 2) := by decide +kernel
theorem dM_demand_39 : decode cM_demand 39 = .ok (.bipush 32, 2) := by decide +kernel
theorem dM_demand_41 : decode cM_demand 41 = .ok (.if_icmp .ge 37, 3) := by decide +kernel
theorem dM_demand_44 : decode cM_demand 44 = .ok (.aload_n 0, 1) := by decide +kernel
theorem dM_demand_45 : decode cM_demand 45 = .ok (.getfield 22, 3) := by decide +kernel
theorem dM_demand_48 : decode cM_demand 48 = .ok (.iload_n 3, 1) := by decide +kernel
theorem dM_demand_49 : decode cM_demand 49 = .ok (.iaload, 1) := by decide +kernel
theorem dM_demand_50 : decode cM_demand 50 = .ok (.iload 4, 2) := by decide +kernel
theorem dM_demand_52 : decode cM_demand 52 = .ok (.invokestatic 79, 3) := by decide +kernel
theorem dM_demand_55 : decode cM_demand 55 = .ok (.iconst 1, 1) := by decide +kernel
theorem dM_demand_56 : decode cM_demand 56 = .ok (.if_icmp .ne 16, 3) := by decide +kernel
theorem dM_demand_59 : decode cM_demand 59 = .ok (.aload_n 0, 1) := by decide +kernel
theorem dM_demand_60 : decode cM_demand 60 = .ok (.aload_n 1, 1) := by decide +kernel
theorem dM_demand_61 : decode cM_demand 61 = .ok (.aload_n 0, 1) := by decide +kernel
theorem dM_demand_62 : decode cM_demand 62 = .ok (.getfield 19, 3) := by decide +kernel
theorem dM_demand_65 : decode cM_demand 65 = .ok (.iload_n 3, 1) := by decide +kernel
theorem dM_demand_66 : decode cM_demand 66 = .ok (.iaload, 1) := by decide +kernel
theorem dM_demand_67 : decode cM_demand 67 = .ok (.iload 4, 2) := by decide +kernel
theorem dM_demand_69 : decode cM_demand 69 = .ok (.invokevirtual 103, 3) := by decide +kernel
theorem dM_demand_72 : decode cM_demand 72 = .ok (.iinc 4 1, 3) := by decide +kernel
theorem dM_demand_75 : decode cM_demand 75 = .ok (.goto (-38), 3) := by decide +kernel
theorem dM_demand_78 : decode cM_demand 78 = .ok (.iinc 3 1, 3) := by decide +kernel
theorem dM_demand_81 : decode cM_demand 81 = .ok (.goto (-55), 3) := by decide +kernel
theorem dM_demand_84 : decode cM_demand 84 = .ok (.aload_n 0, 1) := by decide +kernel
theorem dM_demand_85 : decode cM_demand 85 = .ok (.getfield 100, 3) := by decide +kernel
theorem dM_demand_88 : decode cM_demand 88 = .ok (.ifCond .le 92, 3) := by decide +kernel
theorem dM_demand_91 : decode cM_demand 91 = .ok (.aload_n 0, 1) := by decide +kernel
theorem dM_demand_92 : decode cM_demand 92 = .ok (.dup, 1) := by decide +kernel
theorem dM_demand_93 : decode cM_demand 93 = .ok (.getfield 100, 3) := by decide +kernel
theorem dM_demand_96 : decode cM_demand 96 = .ok (.iconst 1, 1) := by decide +kernel
theorem dM_demand_97 : decode cM_demand 97 = .ok (.isub, 1) := by decide +kernel
theorem dM_demand_98 : decode cM_demand 98 = .ok (.putfield 100, 3) := by decide +kernel
theorem dM_demand_101 : decode cM_demand 101 = .ok (.aload_n 0, 1) := by decide +kernel
theorem dM_demand_102 : decode cM_demand 102 = .ok (.getfield 38, 3) := by decide +kernel
theorem dM_demand_105 : decode cM_demand 105 = .ok (.aload_n 0, 1) := by decide +kernel
theorem dM_demand_106 : decode cM_demand 106 = .ok (.getfield 100, 3) := by decide +kernel
theorem dM_demand_109 : decode cM_demand 109 = .ok (.iaload, 1) := by decide +kernel
theorem dM_demand_110 : decode cM_demand 110 = .ok (.bipush 32, 2) := by decide +kernel
theorem dM_demand_112 : decode cM_demand 112 = .ok (.idiv, 1) := by decide +kernel
theorem dM_demand_113 : decode cM_demand 113 = .ok (.istore_n 3, 1) := by decide +kernel
theorem dM_demand_114 : decode cM_demand 114 = .ok (.aload_n 0, 1) := by decide +kernel
theorem dM_demand_115 : decode cM_demand 115 = .ok (.getfield 38, 3) := by decide +kernel
theorem dM_demand_118 : decode cM_demand 118 = .ok (.aload_n 0, 1) := by decide +kernel
theorem dM_demand_119 : decode cM_demand 119 = .ok (.getfield 100, 3) := by decide +kernel
theorem dM_demand_122 : decode cM_demand 122 = .ok (.iaload, 1) := by decide +kernel
theorem dM_demand_123 : decode cM_demand 123 = .ok (.bipush 32, 2) := by decide +kernel
theorem dM_demand_125 : decode cM_demand 125 = .ok (.irem, 1) := by decide +kernel
theorem dM_demand_126 : decode cM_demand 126 = .ok (.istore 4, 2) := by decide +kernel
theorem dM_demand_128 : decode cM_demand 128 = .ok (.iload_n 2, 1) := by decide +kernel
theorem dM_demand_129 : decode cM_demand 129 = .ok (.ifCond .eq 13, 3) := by decide +kernel
theorem dM_demand_132 : decode cM_demand 132 = .ok (.aload_n 0, 1) := by decide +kernel
theorem dM_demand_133 : decode cM_demand 133 = .ok (.getfield 35, 3) := by decide +kernel
theorem dM_demand_136 : decode cM_demand 136 = .ok (.iload_n 3, 1) := by decide +kernel
theorem dM_demand_137 : decode cM_demand 137 = .ok (.iaload, 1) := by decide +kernel
theorem dM_demand_138 : decode cM_demand 138 = .ok (.iconst (-1), 1) := by decide +kernel
theorem dM_demand_139 : decode cM_demand 139 = .ok (.if_icmp .ne 14, 3) := by decide +kernel
theorem dM_demand_142 : decode cM_demand 142 = .ok (.aload_n 0, 1) := by decide +kernel
theorem dM_demand_143 : decode cM_demand 143 = .ok (.aload_n 1, 1) := by decide +kernel
theorem dM_demand_144 : decode cM_demand 144 = .ok (.iload_n 3, 1) := by decide +kernel
theorem dM_demand_145 : decode cM_demand 145 = .ok (.iload 4, 2) := by decide +kernel
theorem dM_demand_147 : decode cM_demand 147 = .ok (.invokevirtual 114, 3) := by decide +kernel
theorem dM_demand_150 : decode cM_demand 150 = .ok (.goto 27, 3) := by decide +kernel
theorem dM_demand_153 : decode cM_demand 153 = .ok (.aload_n 0, 1) := by decide +kernel
theorem dM_demand_154 : decode cM_demand 154 = .ok (.getfield 35, 3) := by decide +kernel
theorem dM_demand_157 : decode cM_demand 157 = .ok (.iload_n 3, 1) := by decide +kernel
theorem dM_demand_158 : decode cM_demand 158 = .ok (.iaload, 1) := by decide +kernel
theorem dM_demand_159 : decode cM_demand 159 = .ok (.bipush (-2), 2) := by decide +kernel
theorem dM_demand_161 : decode cM_demand 161 = .ok (.if_icmp .eq 16, 3) := by decide +kernel
theorem dM_demand_164 : decode cM_demand 164 = .ok (.aload_n 0, 1) := by decide +kernel
theorem dM_demand_165 : decode cM_demand 165 = .ok (.aload_n 1, 1) := by decide +kernel
theorem dM_demand_166 : decode cM_demand 166 = .ok (.aload_n 0, 1) := by decide +kernel
theorem dM_demand_167 : decode cM_demand 167 = .ok (.getfield 35, 3) := by decide +kernel
theorem dM_demand_170 : decode cM_demand 170 = .ok (.iload_n 3, 1) := by decide +kernel
theorem dM_demand_171 : decode cM_demand 171 = .ok (.iaload, 1) := by decide +kernel
theorem dM_demand_172 : decode cM_demand 172 = .ok (.iload 4, 2) := by decide +kernel
theorem dM_demand_174 : decode cM_demand 174 = .ok (.invokevirtual 103, 3) := by decide +kernel
theorem dM_demand_177 : decode cM_demand 177 = .ok (.goto (-93), 3) := by decide +kernel
theorem dM_demand_180 : decode cM_demand 180 = .ok (.return_, 1) := by decide +kernel
theorem dM_areIn_0 : decode cM_areIn 0 = .ok (.iconst 1, 1) := by decide +kernel
theorem dM_areIn_1 : decode cM_areIn 1 = .ok (.istore 5, 2) := by decide +kernel
theorem dM_areIn_3 : decode cM_areIn 3 = .ok (.iconst 0, 1) := by decide +kernel
theorem dM_areIn_4 : decode cM_areIn 4 = .ok (.istore 6, 2) := by decide +kernel
theorem dM_areIn_6 : decode cM_areIn 6 = .ok (.bipush 31, 2) := by decide +kernel
theorem dM_areIn_8 : decode cM_areIn 8 = .ok (.istore 7, 2) := by decide +kernel
theorem dM_areIn_10 : decode cM_areIn 10 = .ok (.iload 7, 2) := by decide +kernel
theorem dM_areIn_12 : decode cM_areIn 12 = .ok (.ifCond .lt 68, 3) := by decide +kernel
theorem dM_areIn_15 : decode cM_areIn 15 = .ok (.aload_n 0, 1) := by decide +kernel
theorem dM_areIn_16 : decode cM_areIn 16 = .ok (.getfield 28, 3) := by decide +kernel
theorem dM_areIn_19 : decode cM_areIn 19 = .ok (.bipush 32, 2) := by decide +kernel
theorem dM_areIn_21 : decode cM_areIn 21 = .ok (.iload_n 1, 1) := by decide +kernel
theorem dM_areIn_22 : decode cM_areIn 22 = .ok (.imul, 1) := by decide +kernel
theorem dM_areIn_23 : decode cM_areIn 23 = .ok (.iload 7, 2) := by decide +kernel
theorem dM_areIn_25 : decode cM_areIn 25 = .ok (.iadd, 1) := by decide +kernel
theorem dM_areIn_26 : decode cM_areIn 26 = .ok (.baload, 1) := by decide +kernel
theorem dM_areIn_27 : decode cM_areIn 27 = .ok (.ifCond .ne 13, 3) := by decide +kernel
theorem dM_areIn_30 : decode cM_areIn 30 = .ok (.iload 4, 2) := by decide +kernel
theorem dM_areIn_32 : decode cM_areIn 32 = .ok (.ifCond .eq 12, 3) := by decide +kernel
theorem dM_areIn_35 : decode cM_areIn 35 = .ok (.iload 6, 2) := by decide +kernel
theorem dM_areIn_37 : decode cM_areIn 37 = .ok (.ifCond .eq 7, 3) := by decide +kernel
theorem dM_areIn_40 : decode cM_areIn 40 = .ok (.iconst 1, 1) := by decide +kernel
theorem dM_areIn_41 : decode cM_areIn 41 = .ok (.goto 4, 3) := by decide +kernel
theorem dM_areIn_44 : decode cM_areIn 44 = .ok (.iconst 0, 1) := by decide +kernel
theorem dM_areIn_45 : decode cM_areIn 45 = .ok (.istore 6, 2) := by decide +kernel
theorem dM_areIn_47 : decode cM_areIn 47 = .ok (.iload 5, 2) := by decide +kernel
theorem dM_areIn_49 : decode cM_areIn 49 = .ok (.ifCond .eq 22, 3) := by decide +kernel
theorem dM_areIn_52 : decode cM_areIn 52 = .ok (.iload 6, 2) := by decide +kernel
theorem dM_areIn_54 : decode cM_areIn 54 = .ok (.ifCond .eq 13, 3) := by decide +kernel
theorem dM_areIn_57 : decode cM_areIn 57 = .ok (.iload_n 2, 1) := by decide +kernel
theorem dM_areIn_58 : decode cM_areIn 58 = .ok (.iload 7, 2) := by decide +kernel
theorem dM_areIn_60 : decode cM_areIn 60 = .ok (.invokestatic 79, 3) := by decide +kernel
theorem dM_areIn_63 : decode cM_areIn 63 = .ok (.iload_n 3, 1) := by decide +kernel
theorem dM_areIn_64 : decode cM_areIn 64 = .ok (.if_icmp .ne 7, 3) := by decide +kernel
theorem dM_areIn_67 : decode cM_areIn 67 = .ok (.iconst 1, 1) := by decide +kernel
theorem dM_areIn_68 : decode cM_areIn 68 = .ok (.goto 4, 3) := by decide +kernel
theorem dM_areIn_71 : decode cM_areIn 71 = .ok (.iconst 0, 1) := by decide +kernel
theorem dM_areIn_72 : decode cM_areIn 72 = .ok (.istore 5, 2) := by decide +kernel
theorem dM_areIn_74 : decode cM_areIn 74 = .ok (.iinc 7 (-1), 3) := by decide +kernel
theorem dM_areIn_77 : decode cM_areIn 77 = .ok (.goto (-67), 3) := by decide +kernel
theorem dM_areIn_80 : decode cM_areIn 80 = .ok (.iload 5, 2) := by decide +kernel
theorem dM_areIn_82 : decode cM_areIn 82 = .ok (.ireturn, 1) := by decide +kernel
theorem dM_isKnown_0 : decode cM_isKnown 0 = .ok (.iconst 1, 1) := by decide +kernel
theorem dM_isKnown_1 : decode cM_isKnown 1 = .ok (.istore_n 2, 1) := by decide +kernel
theorem dM_isKnown_2 : decode cM_isKnown 2 = .ok (.iconst 0, 1) := by decide +kernel
theorem dM_isKnown_3 : decode cM_isKnown 3 = .ok (.istore_n 3, 1) := by decide +kernel
theorem dM_isKnown_4 : decode cM_isKnown 4 = .ok (.iload_n 3, 1) := by decide +kernel
theorem dM_isKnown_5 : decode cM_isKnown 5 = .ok (.bipush 32, 2) := by decide +kernel
theorem dM_isKnown_7 : decode cM_isKnown 7 = .ok (.if_icmp .ge 48, 3) := by decide +kernel
theorem dM_isKnown_10 : decode cM_isKnown 10 = .ok (.iload_n 2, 1) := by decide +kernel
theorem dM_isKnown_11 : decode cM_isKnown 11 = .ok (.ifCond .eq 36, 3) := by decide +kernel
theorem dM_isKnown_14 : decode cM_isKnown 14 = .ok (.aload_n 0, 1) := by decide +kernel
theorem dM_isKnown_15 : decode cM_isKnown 15 = .ok (.getfield 28, 3) := by decide +kernel
theorem dM_isKnown_18 : decode cM_isKnown 18 = .ok (.bipush 32, 2) := by decide +kernel
theorem dM_isKnown_20 : decode cM_isKnown 20 = .ok (.iload_n 1, 1) := by decide +kernel
theorem dM_isKnown_21 : decode cM_isKnown 21 = .ok (.imul, 1) := by decide +kernel
theorem dM_isKnown_22 : decode cM_isKnown 22 = .ok (.iload_n 3, 1) := by decide +kernel
theorem dM_isKnown_23 : decode cM_isKnown 23 = .ok (.iadd, 1) := by decide +kernel
theorem dM_isKnown_24 : decode cM_isKnown 24 = .ok (.baload, 1) := by decide +kernel
theorem dM_isKnown_25 : decode cM_isKnown 25 = .ok (.ifCond .eq 18, 3) := by decide +kernel
theorem dM_isKnown_28 : decode cM_isKnown 28 = .ok (.aload_n 0, 1) := by decide +kernel
theorem dM_isKnown_29 : decode cM_isKnown 29 = .ok (.getfield 25, 3) := by decide +kernel
theorem dM_isKnown_32 : decode cM_isKnown 32 = .ok (.bipush 32, 2) := by decide +kernel
theorem dM_isKnown_34 : decode cM_isKnown 34 = .ok (.iload_n 1, 1) := by decide +kernel
theorem dM_isKnown_35 : decode cM_isKnown 35 = .ok (.imul, 1) := by decide +kernel
theorem dM_isKnown_36 : decode cM_isKnown 36 = .ok (.iload_n 3, 1) := by decide +kernel
theorem dM_isKnown_37 : decode cM_isKnown 37 = .ok (.iadd, 1) := by decide +kernel
theorem dM_isKnown_38 : decode cM_isKnown 38 = .ok (.iaload, 1) := by decide +kernel
theorem dM_isKnown_39 : decode cM_isKnown 39 = .ok (.iconst 2, 1) := by decide +kernel
theorem dM_isKnown_40 : decode cM_isKnown 40 = .ok (.if_icmp .eq 7, 3) := by decide +kernel
theorem dM_isKnown_43 : decode cM_isKnown 43 = .ok (.iconst 1, 1) := by decide +kernel
theorem dM_isKnown_44 : decode cM_isKnown 44 = .ok (.goto 4, 3) := by decide +kernel
theorem dM_isKnown_47 : decode cM_isKnown 47 = .ok (.iconst 0, 1) := by decide +kernel
theorem dM_isKnown_48 : decode cM_isKnown 48 = .ok (.istore_n 2, 1) := by decide +kernel
theorem dM_isKnown_49 : decode cM_isKnown 49 = .ok (.iinc 3 1, 3) := by decide +kernel
theorem dM_isKnown_52 : decode cM_isKnown 52 = .ok (.goto (-48), 3) := by decide +kernel
theorem dM_isKnown_55 : decode cM_isKnown 55 = .ok (.iload_n 2, 1) := by decide +kernel
theorem dM_isKnown_56 : decode cM_isKnown 56 = .ok (.ireturn, 1) := by decide +kernel
theorem dM_isNarrow_0 : decode cM_isNarrow 0 = .ok (.iconst 1, 1) := by decide +kernel
theorem dM_isNarrow_1 : decode cM_isNarrow 1 = .ok (.istore_n 3, 1) := by decide +kernel
theorem dM_isNarrow_2 : decode cM_isNarrow 2 = .ok (.iload_n 2, 1) := by decide +kernel
theorem dM_isNarrow_3 : decode cM_isNarrow 3 = .ok (.istore 4, 2) := by decide +kernel
theorem dM_isNarrow_5 : decode cM_isNarrow 5 = .ok (.iload 4, 2) := by decide +kernel
theorem dM_isNarrow_7 : decode cM_isNarrow 7 = .ok (.bipush 32, 2) := by decide +kernel
theorem dM_isNarrow_9 : decode cM_isNarrow 9 = .ok (.if_icmp .ge 34, 3) := by decide +kernel
theorem dM_isNarrow_12 : decode cM_isNarrow 12 = .ok (.iload_n 3, 1) := by decide +kernel
theorem dM_isNarrow_13 : decode cM_isNarrow 13 = .ok (.ifCond .eq 22, 3) := by decide +kernel
theorem dM_isNarrow_16 : decode cM_isNarrow 16 = .ok (.aload_n 0, 1) := by decide +kernel
theorem dM_isNarrow_17 : decode cM_isNarrow 17 = .ok (.getfield 28, 3) := by decide +kernel
theorem dM_isNarrow_20 : decode cM_isNarrow 20 = .ok (.bipush 32, 2) := by decide +kernel
theorem dM_isNarrow_22 : decode cM_isNarrow 22 = .ok (.iload_n 1, 1) := by decide +kernel
theorem dM_isNarrow_23 : decode cM_isNarrow 23 = .ok (.imul, 1) := by decide +kernel
