theorem dF_workOut_345 : decode cF_workOut 345 = .ok (.iaload, 1) := by decide +kernel
theorem dF_workOut_346 : decode cF_workOut 346 = .ok (.iand, 1) := by decide +kernel
theorem dF_workOut_347 : decode cF_workOut 347 = .ok (.aload_n 0, 1) := by decide +kernel
theorem dF_workOut_348 : decode cF_workOut 348 = .ok (.getfield 15, 3) := by decide +kernel
theorem dF_workOut_351 : decode cF_workOut 351 = .ok (.iload 4, 2) := by decide +kernel
theorem dF_workOut_353 : decode cF_workOut 353 = .ok (.iaload, 1) := by decide +kernel
theorem dF_workOut_354 : decode cF_workOut 354 = .ok (.iand, 1) := by decide +kernel
theorem dF_workOut_355 : decode cF_workOut 355 = .ok (.invokevirtual 30, 3) := by decide +kernel
theorem dF_workOut_358 : decode cF_workOut 358 = .ok (.goto 17, 3) := by decide +kernel
theorem dF_workOut_361 : decode cF_workOut 361 = .ok (.aload_n 0, 1) := by decide +kernel
theorem dF_workOut_362 : decode cF_workOut 362 = .ok (.aload_n 1, 1) := by decide +kernel
theorem dF_workOut_363 : decode cF_workOut 363 = .ok (.getfield 24, 3) := by decide +kernel
theorem dF_workOut_366 : decode cF_workOut 366 = .ok (.iload_n 2, 1) := by decide +kernel
theorem dF_workOut_367 : decode cF_workOut 367 = .ok (.iaload, 1) := by decide +kernel
theorem dF_workOut_368 : decode cF_workOut 368 = .ok (.iload_n 2, 1) := by decide +kernel
theorem dF_workOut_369 : decode cF_workOut 369 = .ok (.iload_n 3, 1) := by decide +kernel
theorem dF_workOut_370 : decode cF_workOut 370 = .ok (.iload 5, 2) := by decide +kernel
theorem dF_workOut_372 : decode cF_workOut 372 = .ok (.invokevirtual 55, 3) := by decide +kernel
theorem dF_workOut_375 : decode cF_workOut 375 = .ok (.return_, 1) := by decide +kernel
theorem dF_workOutMoved_0 : decode cF_workOutMoved 0 = .ok (.iload_n 1, 1) := by decide +kernel
theorem dF_workOutMoved_1 : decode cF_workOutMoved 1 = .ok (.tableswitch 179 6 12 #[43, 76, 102, 179, 179, 135, 157], 43) := by decide +kernel
theorem dF_workOutMoved_44 : decode cF_workOutMoved 44 = .ok (.aload_n 0, 1) := by decide +kernel
theorem dF_workOutMoved_45 : decode cF_workOutMoved 45 = .ok (.iload_n 2, 1) := by decide +kernel
theorem dF_workOutMoved_46 : decode cF_workOutMoved 46 = .ok (.aload_n 0, 1) := by decide +kernel
theorem dF_workOutMoved_47 : decode cF_workOutMoved 47 = .ok (.getfield 9, 3) := by decide +kernel
theorem dF_workOutMoved_50 : decode cF_workOutMoved 50 = .ok (.iload_n 3, 1) := by decide +kernel
theorem dF_workOutMoved_51 : decode cF_workOutMoved 51 = .ok (.iaload, 1) := by decide +kernel
theorem dF_workOutMoved_52 : decode cF_workOutMoved 52 = .ok (.iload 4, 2) := by decide +kernel
theorem dF_workOutMoved_54 : decode cF_workOutMoved 54 = .ok (.ishl, 1) := by decide +kernel
theorem dF_workOutMoved_55 : decode cF_workOutMoved 55 = .ok (.iconst (-1), 1) := by decide +kernel
theorem dF_workOutMoved_56 : decode cF_workOutMoved 56 = .ok (.iload 4, 2) := by decide +kernel
theorem dF_workOutMoved_58 : decode cF_workOutMoved 58 = .ok (.ishl, 1) := by decide +kernel
theorem dF_workOutMoved_59 : decode cF_workOutMoved 59 = .ok (.iconst (-1), 1) := by decide +kernel
theorem dF_workOutMoved_60 : decode cF_workOutMoved 60 = .ok (.ixor, 1) := by decide +kernel
theorem dF_workOutMoved_61 : decode cF_workOutMoved 61 = .ok (.ior, 1) := by decide +kernel
theorem dF_workOutMoved_62 : decode cF_workOutMoved 62 = .ok (.aload_n 0, 1) := by decide +kernel
theorem dF_workOutMoved_63 : decode cF_workOutMoved 63 = .ok (.getfield 15, 3) := by decide +kernel
theorem dF_workOutMoved_66 : decode cF_workOutMoved 66 = .ok (.iload_n 3, 1) := by decide +kernel
theorem dF_workOutMoved_67 : decode cF_workOutMoved 67 = .ok (.iaload, 1) := by decide +kernel
theorem dF_workOutMoved_68 : decode cF_workOutMoved 68 = .ok (.iload 4, 2) := by decide +kernel
theorem dF_workOutMoved_70 : decode cF_workOutMoved 70 = .ok (.ishl, 1) := by decide +kernel
theorem dF_workOutMoved_71 : decode cF_workOutMoved 71 = .ok (.invokevirtual 30, 3) := by decide +kernel
theorem dF_workOutMoved_74 : decode cF_workOutMoved 74 = .ok (.goto 113, 3) := by decide +kernel
theorem dF_workOutMoved_77 : decode cF_workOutMoved 77 = .ok (.aload_n 0, 1) := by decide +kernel
theorem dF_workOutMoved_78 : decode cF_workOutMoved 78 = .ok (.iload_n 2, 1) := by decide +kernel
theorem dF_workOutMoved_79 : decode cF_workOutMoved 79 = .ok (.aload_n 0, 1) := by decide +kernel
theorem dF_workOutMoved_80 : decode cF_workOutMoved 80 = .ok (.getfield 9, 3) := by decide +kernel
theorem dF_workOutMoved_83 : decode cF_workOutMoved 83 = .ok (.iload_n 3, 1) := by decide +kernel
theorem dF_workOutMoved_84 : decode cF_workOutMoved 84 = .ok (.iaload, 1) := by decide +kernel
theorem dF_workOutMoved_85 : decode cF_workOutMoved 85 = .ok (.iload 4, 2) := by decide +kernel
theorem dF_workOutMoved_87 : decode cF_workOutMoved 87 = .ok (.ishr, 1) := by decide +kernel
theorem dF_workOutMoved_88 : decode cF_workOutMoved 88 = .ok (.aload_n 0, 1) := by decide +kernel
theorem dF_workOutMoved_89 : decode cF_workOutMoved 89 = .ok (.getfield 15, 3) := by decide +kernel
theorem dF_workOutMoved_92 : decode cF_workOutMoved 92 = .ok (.iload_n 3, 1) := by decide +kernel
theorem dF_workOutMoved_93 : decode cF_workOutMoved 93 = .ok (.iaload, 1) := by decide +kernel
theorem dF_workOutMoved_94 : decode cF_workOutMoved 94 = .ok (.iload 4, 2) := by decide +kernel
theorem dF_workOutMoved_96 : decode cF_workOutMoved 96 = .ok (.ishr, 1) := by decide +kernel
theorem dF_workOutMoved_97 : decode cF_workOutMoved 97 = .ok (.invokevirtual 30, 3) := by decide +kernel
theorem dF_workOutMoved_100 : decode cF_workOutMoved 100 = .ok (.goto 87, 3) := by decide +kernel
theorem dF_workOutMoved_103 : decode cF_workOutMoved 103 = .ok (.aload_n 0, 1) := by decide +kernel
theorem dF_workOutMoved_104 : decode cF_workOutMoved 104 = .ok (.iload_n 2, 1) := by decide +kernel
theorem dF_workOutMoved_105 : decode cF_workOutMoved 105 = .ok (.aload_n 0, 1) := by decide +kernel
theorem dF_workOutMoved_106 : decode cF_workOutMoved 106 = .ok (.getfield 9, 3) := by decide +kernel
theorem dF_workOutMoved_109 : decode cF_workOutMoved 109 = .ok (.iload_n 3, 1) := by decide +kernel
theorem dF_workOutMoved_110 : decode cF_workOutMoved 110 = .ok (.iaload, 1) := by decide +kernel
theorem dF_workOutMoved_111 : decode cF_workOutMoved 111 = .ok (.iload 4, 2) := by decide +kernel
theorem dF_workOutMoved_113 : decode cF_workOutMoved 113 = .ok (.iushr, 1) := by decide +kernel
theorem dF_workOutMoved_114 : decode cF_workOutMoved 114 = .ok (.iconst (-1), 1) := by decide +kernel
theorem dF_workOutMoved_115 : decode cF_workOutMoved 115 = .ok (.iload 4, 2) := by decide +kernel
theorem dF_workOutMoved_117 : decode cF_workOutMoved 117 = .ok (.iushr, 1) := by decide +kernel
theorem dF_workOutMoved_118 : decode cF_workOutMoved 118 = .ok (.iconst (-1), 1) := by decide +kernel
theorem dF_workOutMoved_119 : decode cF_workOutMoved 119 = .ok (.ixor, 1) := by decide +kernel
theorem dF_workOutMoved_120 : decode cF_workOutMoved 120 = .ok (.ior, 1) := by decide +kernel
theorem dF_workOutMoved_121 : decode cF_workOutMoved 121 = .ok (.aload_n 0, 1) := by decide +kernel
theorem dF_workOutMoved_122 : decode cF_workOutMoved 122 = .ok (.getfield 15, 3) := by decide +kernel
theorem dF_workOutMoved_125 : decode cF_workOutMoved 125 = .ok (.iload_n 3, 1) := by decide +kernel
theorem dF_workOutMoved_126 : decode cF_workOutMoved 126 = .ok (.iaload, 1) := by decide +kernel
theorem dF_workOutMoved_127 : decode cF_workOutMoved 127 = .ok (.iload 4, 2) := by decide +kernel
theorem dF_workOutMoved_129 : decode cF_workOutMoved 129 = .ok (.iushr, 1) := by decide +kernel
theorem dF_workOutMoved_130 : decode cF_workOutMoved 130 = .ok (.invokevirtual 30, 3) := by decide +kernel
theorem dF_workOutMoved_133 : decode cF_workOutMoved 133 = .ok (.goto 54, 3) := by decide +kernel
theorem dF_workOutMoved_136 : decode cF_workOutMoved 136 = .ok (.aload_n 0, 1) := by decide +kernel
theorem dF_workOutMoved_137 : decode cF_workOutMoved 137 = .ok (.iload_n 2, 1) := by decide +kernel
theorem dF_workOutMoved_138 : decode cF_workOutMoved 138 = .ok (.aload_n 0, 1) := by decide +kernel
theorem dF_workOutMoved_139 : decode cF_workOutMoved 139 = .ok (.getfield 9, 3) := by decide +kernel
theorem dF_workOutMoved_142 : decode cF_workOutMoved 142 = .ok (.iload_n 3, 1) := by decide +kernel
theorem dF_workOutMoved_143 : decode cF_workOutMoved 143 = .ok (.iaload, 1) := by decide +kernel
theorem dF_workOutMoved_144 : decode cF_workOutMoved 144 = .ok (.i2b, 1) := by decide +kernel
theorem dF_workOutMoved_145 : decode cF_workOutMoved 145 = .ok (.aload_n 0, 1) := by decide +kernel
theorem dF_workOutMoved_146 : decode cF_workOutMoved 146 = .ok (.getfield 15, 3) := by decide +kernel
theorem dF_workOutMoved_149 : decode cF_workOutMoved 149 = .ok (.iload_n 3, 1) := by decide +kernel
theorem dF_workOutMoved_150 : decode cF_workOutMoved 150 = .ok (.iaload, 1) := by decide +kernel
theorem dF_workOutMoved_151 : decode cF_workOutMoved 151 = .ok (.i2b, 1) := by decide +kernel
theorem dF_workOutMoved_152 : decode cF_workOutMoved 152 = .ok (.invokevirtual 30, 3) := by decide +kernel
theorem dF_workOutMoved_155 : decode cF_workOutMoved 155 = .ok (.goto 32, 3) := by decide +kernel
theorem dF_workOutMoved_158 : decode cF_workOutMoved 158 = .ok (.aload_n 0, 1) := by decide +kernel
theorem dF_workOutMoved_159 : decode cF_workOutMoved 159 = .ok (.iload_n 2, 1) := by decide +kernel
theorem dF_workOutMoved_160 : decode cF_workOutMoved 160 = .ok (.aload_n 0, 1) := by decide +kernel
theorem dF_workOutMoved_161 : decode cF_workOutMoved 161 = .ok (.getfield 9, 3) := by decide +kernel
theorem dF_workOutMoved_164 : decode cF_workOutMoved 164 = .ok (.iload_n 3, 1) := by decide +kernel
theorem dF_workOutMoved_165 : decode cF_workOutMoved 165 = .ok (.iaload, 1) := by decide +kernel
theorem dF_workOutMoved_166 : decode cF_workOutMoved 166 = .ok (.i2s, 1) := by decide +kernel
theorem dF_workOutMoved_167 : decode cF_workOutMoved 167 = .ok (.aload_n 0, 1) := by decide +kernel
theorem dF_workOutMoved_168 : decode cF_workOutMoved 168 = .ok (.getfield 15, 3) := by decide +kernel
theorem dF_workOutMoved_171 : decode cF_workOutMoved 171 = .ok (.iload_n 3, 1) := by decide +kernel
theorem dF_workOutMoved_172 : decode cF_workOutMoved 172 = .ok (.iaload, 1) := by decide +kernel
theorem dF_workOutMoved_173 : decode cF_workOutMoved 173 = .ok (.i2s, 1) := by decide +kernel
theorem dF_workOutMoved_174 : decode cF_workOutMoved 174 = .ok (.invokevirtual 30, 3) := by decide +kernel
theorem dF_workOutMoved_177 : decode cF_workOutMoved 177 = .ok (.goto 10, 3) := by decide +kernel
theorem dF_workOutMoved_180 : decode cF_workOutMoved 180 = .ok (.aload_n 0, 1) := by decide +kernel
theorem dF_workOutMoved_181 : decode cF_workOutMoved 181 = .ok (.iload_n 2, 1) := by decide +kernel
theorem dF_workOutMoved_182 : decode cF_workOutMoved 182 = .ok (.iconst 0, 1) := by decide +kernel
theorem dF_workOutMoved_183 : decode cF_workOutMoved 183 = .ok (.iconst 0, 1) := by decide +kernel
theorem dF_workOutMoved_184 : decode cF_workOutMoved 184 = .ok (.invokevirtual 30, 3) := by decide +kernel
theorem dF_workOutMoved_187 : decode cF_workOutMoved 187 = .ok (.return_, 1) := by decide +kernel
theorem dF_learnSum_0 : decode cF_learnSum 0 = .ok (.aload_n 0, 1) := by decide +kernel
theorem dF_learnSum_1 : decode cF_learnSum 1 = .ok (.getfield 15, 3) := by decide +kernel
theorem dF_learnSum_4 : decode cF_learnSum 4 = .ok (.iload_n 2, 1) := by decide +kernel
theorem dF_learnSum_5 : decode cF_learnSum 5 = .ok (.iaload, 1) := by decide +kernel
theorem dF_learnSum_6 : decode cF_learnSum 6 = .ok (.iload 4, 2) := by decide +kernel
theorem dF_learnSum_8 : decode cF_learnSum 8 = .ok (.iadd, 1) := by decide +kernel
theorem dF_learnSum_9 : decode cF_learnSum 9 = .ok (.iload 5, 2) := by decide +kernel
theorem dF_learnSum_11 : decode cF_learnSum 11 = .ok (.iadd, 1) := by decide +kernel
theorem dF_learnSum_12 : decode cF_learnSum 12 = .ok (.istore 6, 2) := by decide +kernel
theorem dF_learnSum_14 : decode cF_learnSum 14 = .ok (.aload_n 0, 1) := by decide +kernel
theorem dF_learnSum_15 : decode cF_learnSum 15 = .ok (.getfield 9, 3) := by decide +kernel
theorem dF_learnSum_18 : decode cF_learnSum 18 = .ok (.iload_n 2, 1) := by decide +kernel
theorem dF_learnSum_19 : decode cF_learnSum 19 = .ok (.iaload, 1) := by decide +kernel
theorem dF_learnSum_20 : decode cF_learnSum 20 = .ok (.iconst (-1), 1) := by decide +kernel
theorem dF_learnSum_21 : decode cF_learnSum 21 = .ok (.ixor, 1) := by decide +kernel
theorem dF_learnSum_22 : decode cF_learnSum 22 = .ok (.iload_n 3, 1) := by decide +kernel
theorem dF_learnSum_23 : decode cF_learnSum 23 = .ok (.iconst (-1), 1) := by decide +kernel
theorem dF_learnSum_24 : decode cF_learnSum 24 = .ok (.ixor, 1) := by decide +kernel
theorem dF_learnSum_25 : decode cF_learnSum 25 = .ok (.iadd, 1) := by decide +kernel
theorem dF_learnSum_26 : decode cF_learnSum 26 = .ok (.iload 5, 2) := by decide +kernel
theorem dF_learnSum_28 : decode cF_learnSum 28 = .ok (.iadd, 1) := by decide +kernel
theorem dF_learnSum_29 : decode cF_learnSum 29 = .ok (.istore 7, 2) := by decide +kernel
theorem dF_learnSum_31 : decode cF_learnSum 31 = .ok (.iload 6, 2) := by decide +kernel
theorem dF_learnSum_33 : decode cF_learnSum 33 = .ok (.aload_n 0, 1) := by decide +kernel
theorem dF_learnSum_34 : decode cF_learnSum 34 = .ok (.getfield 15, 3) := by decide +kernel
theorem dF_learnSum_37 : decode cF_learnSum 37 = .ok (.iload_n 2, 1) := by decide +kernel
theorem dF_learnSum_38 : decode cF_learnSum 38 = .ok (.iaload, 1) := by decide +kernel
theorem dF_learnSum_39 : decode cF_learnSum 39 = .ok (.ixor, 1) := by decide +kernel
theorem dF_learnSum_40 : decode cF_learnSum 40 = .ok (.iload 4, 2) := by decide +kernel
theorem dF_learnSum_42 : decode cF_learnSum 42 = .ok (.ixor, 1) := by decide +kernel
theorem dF_learnSum_43 : decode cF_learnSum 43 = .ok (.istore 8, 2) := by decide +kernel
theorem dF_learnSum_45 : decode cF_learnSum 45 = .ok (.iload 7, 2) := by decide +kernel
theorem dF_learnSum_47 : decode cF_learnSum 47 = .ok (.aload_n 0, 1) := by decide +kernel
theorem dF_learnSum_48 : decode cF_learnSum 48 = .ok (.getfield 9, 3) := by decide +kernel
theorem dF_learnSum_51 : decode cF_learnSum 51 = .ok (.iload_n 2, 1) := by decide +kernel
theorem dF_learnSum_52 : decode cF_learnSum 52 = .ok (.iaload, 1) := by decide +kernel
theorem dF_learnSum_53 : decode cF_learnSum 53 = .ok (.iconst (-1), 1) := by decide +kernel
theorem dF_learnSum_54 : decode cF_learnSum 54 = .ok (.ixor, 1) := by decide +kernel
theorem dF_learnSum_55 : decode cF_learnSum 55 = .ok (.ixor, 1) := by decide +kernel
theorem dF_learnSum_56 : decode cF_learnSum 56 = .ok (.iload_n 3, 1) := by decide +kernel
theorem dF_learnSum_57 : decode cF_learnSum 57 = .ok (.iconst (-1), 1) := by decide +kernel
theorem dF_learnSum_58 : decode cF_learnSum 58 = .ok (.ixor, 1) := by decide +kernel
theorem dF_learnSum_59 : decode cF_learnSum 59 = .ok (.ixor, 1) := by decide +kernel
theorem dF_learnSum_60 : decode cF_learnSum 60 = .ok (.istore 9, 2) := by decide +kernel
theorem dF_learnSum_62 : decode cF_learnSum 62 = .ok (.aload_n 0, 1) := by decide +kernel
theorem dF_learnSum_63 : decode cF_learnSum 63 = .ok (.iload_n 2, 1) := by decide +kernel
theorem dF_learnSum_64 : decode cF_learnSum 64 = .ok (.invokevirtual 59, 3) := by decide +kernel
theorem dF_learnSum_67 : decode cF_learnSum 67 = .ok (.iload_n 3, 1) := by decide +kernel
theorem dF_learnSum_68 : decode cF_learnSum 68 = .ok (.iload 4, 2) := by decide +kernel
theorem dF_learnSum_70 : decode cF_learnSum 70 = .ok (.ior, 1) := by decide +kernel
theorem dF_learnSum_71 : decode cF_learnSum 71 = .ok (.iand, 1) := by decide +kernel
theorem dF_learnSum_72 : decode cF_learnSum 72 = .ok (.iload 8, 2) := by decide +kernel
theorem dF_learnSum_74 : decode cF_learnSum 74 = .ok (.iload 9, 2) := by decide +kernel
theorem dF_learnSum_76 : decode cF_learnSum 76 = .ok (.ixor, 1) := by decide +kernel
theorem dF_learnSum_77 : decode cF_learnSum 77 = .ok (.iconst (-1), 1) := by decide +kernel
theorem dF_learnSum_78 : decode cF_learnSum 78 = .ok (.ixor, 1) := by decide +kernel
theorem dF_learnSum_79 : decode cF_learnSum 79 = .ok (.iand, 1) := by decide +kernel
theorem dF_learnSum_80 : decode cF_learnSum 80 = .ok (.istore 10, 2) := by decide +kernel
theorem dF_learnSum_82 : decode cF_learnSum 82 = .ok (.aload_n 0, 1) := by decide +kernel
theorem dF_learnSum_83 : decode cF_learnSum 83 = .ok (.iload_n 1, 1) := by decide +kernel
theorem dF_learnSum_84 : decode cF_learnSum 84 = .ok (.iload 10, 2) := by decide +kernel
theorem dF_learnSum_86 : decode cF_learnSum 86 = .ok (.iload 6, 2) := by decide +kernel
theorem dF_learnSum_88 : decode cF_learnSum 88 = .ok (.iconst (-1), 1) := by decide +kernel
theorem dF_learnSum_89 : decode cF_learnSum 89 = .ok (.ixor, 1) := by decide +kernel
theorem dF_learnSum_90 : decode cF_learnSum 90 = .ok (.iand, 1) := by decide +kernel
theorem dF_learnSum_91 : decode cF_learnSum 91 = .ok (.iload 10, 2) := by decide +kernel
theorem dF_learnSum_93 : decode cF_learnSum 93 = .ok (.iload 6, 2) := by decide +kernel
theorem dF_learnSum_95 : decode cF_learnSum 95 = .ok (.iand, 1) := by decide +kernel
theorem dF_learnSum_96 : decode cF_learnSum 96 = .ok (.invokevirtual 30, 3) := by decide +kernel
theorem dF_learnSum_99 : decode cF_learnSum 99 = .ok (.return_, 1) := by decide +kernel
theorem dF_learnProduct_0 : decode cF_learnProduct 0 = .ok (.aload_n 0, 1) := by decide +kernel
theorem dF_learnProduct_1 : decode cF_learnProduct 1 = .ok (.getfield 15, 3) := by decide +kernel
theorem dF_learnProduct_4 : decode cF_learnProduct 4 = .ok (.iload_n 2, 1) := by decide +kernel
theorem dF_learnProduct_5 : decode cF_learnProduct 5 = .ok (.iaload, 1) := by decide +kernel
theorem dF_learnProduct_6 : decode cF_learnProduct 6 = .ok (.aload_n 0, 1) := by decide +kernel
theorem dF_learnProduct_7 : decode cF_learnProduct 7 = .ok (.getfield 15, 3) := by decide +kernel
theorem dF_learnProduct_10 : decode cF_learnProduct 10 = .ok (.iload_n 3, 1) := by decide +kernel
theorem dF_learnProduct_11 : decode cF_learnProduct 11 = .ok (.iaload, 1) := by decide +kernel
theorem dF_learnProduct_12 : decode cF_learnProduct 12 = .ok (.imul, 1) := by decide +kernel
theorem dF_learnProduct_13 : decode cF_learnProduct 13 = .ok (.istore 4, 2) := by decide +kernel
theorem dF_learnProduct_15 : decode cF_learnProduct 15 = .ok (.aload_n 0, 1) := by decide +kernel
theorem dF_learnProduct_16 : decode cF_learnProduct 16 = .ok (.iload_n 2, 1) := by decide +kernel
theorem dF_learnProduct_17 : decode cF_learnProduct 17 = .ok (.invokevirtual 59, 3) := by decide +kernel
theorem dF_learnProduct_20 : decode cF_learnProduct 20 = .ok (.aload_n 0, 1) := by decide +kernel
theorem dF_learnProduct_21 : decode cF_learnProduct 21 = .ok (.iload_n 3, 1) := by decide +kernel
theorem dF_learnProduct_22 : decode cF_learnProduct 22 = .ok (.invokevirtual 59, 3) := by decide +kernel
theorem dF_learnProduct_25 : decode cF_learnProduct 25 = .ok (.iand, 1) := by decide +kernel
theorem dF_learnProduct_26 : decode cF_learnProduct 26 = .ok (.iconst (-1), 1) := by decide +kernel
theorem dF_learnProduct_27 : decode cF_learnProduct 27 = .ok (.ixor, 1) := by decide +kernel
theorem dF_learnProduct_28 : decode cF_learnProduct 28 = .ok (.invokestatic 63, 3) := by decide +kernel
theorem dF_learnProduct_31 : decode cF_learnProduct 31 = .ok (.invokestatic 68, 3) := by decide +kernel
theorem dF_learnProduct_34 : decode cF_learnProduct 34 = .ok (.istore 5, 2) := by decide +kernel
theorem dF_learnProduct_36 : decode cF_learnProduct 36 = .ok (.aload_n 0, 1) := by decide +kernel
theorem dF_learnProduct_37 : decode cF_learnProduct 37 = .ok (.getfield 9, 3) := by decide +kernel
theorem dF_learnProduct_40 : decode cF_learnProduct 40 = .ok (.iload_n 2, 1) := by decide +kernel
theorem dF_learnProduct_41 : decode cF_learnProduct 41 = .ok (.iaload, 1) := by decide +kernel
theorem dF_learnProduct_42 : decode cF_learnProduct 42 = .ok (.iconst (-1), 1) := by decide +kernel
theorem dF_learnProduct_43 : decode cF_learnProduct 43 = .ok (.ixor, 1) := by decide +kernel
theorem dF_learnProduct_44 : decode cF_learnProduct 44 = .ok (.invokestatic 63, 3) := by decide +kernel
theorem dF_learnProduct_47 : decode cF_learnProduct 47 = .ok (.aload_n 0, 1) := by decide +kernel
theorem dF_learnProduct_48 : decode cF_learnProduct 48 = .ok (.getfield 9, 3) := by decide +kernel
theorem dF_learnProduct_51 : decode cF_learnProduct 51 = .ok (.iload_n 3, 1) := by decide +kernel
theorem dF_learnProduct_52 : decode cF_learnProduct 52 = .ok (.iaload, 1) := by decide +kernel
theorem dF_learnProduct_53 : decode cF_learnProduct 53 = .ok (.iconst (-1), 1) := by decide +kernel
theorem dF_learnProduct_54 : decode cF_learnProduct 54 = .ok (.ixor, 1) := by decide +kernel
theorem dF_learnProduct_55 : decode cF_learnProduct 55 = .ok (.invokestatic 63, 3) := by decide +kernel
theorem dF_learnProduct_58 : decode cF_learnProduct 58 = .ok (.iadd, 1) := by decide +kernel
theorem dF_learnProduct_59 : decode cF_learnProduct 59 = .ok (.invokestatic 68, 3) := by decide +kernel
theorem dF_learnProduct_62 : decode cF_learnProduct 62 = .ok (.istore 6, 2) := by decide +kernel
theorem dF_learnProduct_64 : decode cF_learnProduct 64 = .ok (.aload_n 0, 1) := by decide +kernel
theorem dF_learnProduct_65 : decode cF_learnProduct 65 = .ok (.iload_n 1, 1) := by decide +kernel
theorem dF_learnProduct_66 : decode cF_learnProduct 66 = .ok (.iload 5, 2) := by decide +kernel
theorem dF_learnProduct_68 : decode cF_learnProduct 68 = .ok (.iload 4, 2) := by decide +kernel
theorem dF_learnProduct_70 : decode cF_learnProduct 70 = .ok (.iconst (-1), 1) := by decide +kernel
theorem dF_learnProduct_71 : decode cF_learnProduct 71 = .ok (.ixor, 1) := by decide +kernel
theorem dF_learnProduct_72 : decode cF_learnProduct 72 = .ok (.iand, 1) := by decide +kernel
theorem dF_learnProduct_73 : decode cF_learnProduct 73 = .ok (.iload 6, 2) := by decide +kernel
theorem dF_learnProduct_75 : decode cF_learnProduct 75 = .ok (.ior, 1) := by decide +kernel
theorem dF_learnProduct_76 : decode cF_learnProduct 76 = .ok (.iload 5, 2) := by decide +kernel
theorem dF_learnProduct_78 : decode cF_learnProduct 78 = .ok (.iload 4, 2) := by decide +kernel
theorem dF_learnProduct_80 : decode cF_learnProduct 80 = .ok (.iand, 1) := by decide +kernel
theorem dF_learnProduct_81 : decode cF_learnProduct 81 = .ok (.invokevirtual 30, 3) := by decide +kernel
theorem dF_learnProduct_84 : decode cF_learnProduct 84 = .ok (.return_, 1) := by decide +kernel
theorem dU_init_0 : decode cU_init 0 = .ok (.aload_n 0, 1) := by decide +kernel
theorem dU_init_1 : decode cU_init 1 = .ok (.invokespecial 3, 3) := by decide +kernel
theorem dU_init_4 : decode cU_init 4 = .ok (.aload_n 0, 1) := by decide +kernel
theorem dU_init_5 : decode cU_init 5 = .ok (.bipush 24, 2) := by decide +kernel
theorem dU_init_7 : decode cU_init 7 = .ok (.newarray .int, 2) := by decide +kernel
theorem dU_init_9 : decode cU_init 9 = .ok (.putfield 9, 3) := by decide +kernel
theorem dU_init_12 : decode cU_init 12 = .ok (.aload_n 0, 1) := by decide +kernel
theorem dU_init_13 : decode cU_init 13 = .ok (.bipush 24, 2) := by decide +kernel
theorem dU_init_15 : decode cU_init 15 = .ok (.newarray .int, 2) := by decide +kernel
theorem dU_init_17 : decode cU_init 17 = .ok (.putfield 15, 3) := by decide +kernel
theorem dU_init_20 : decode cU_init 20 = .ok (.aload_n 0, 1) := by decide +kernel
theorem dU_init_21 : decode cU_init 21 = .ok (.bipush 24, 2) := by decide +kernel
theorem dU_init_23 : decode cU_init 23 = .ok (.newarray .int, 2) := by decide +kernel
theorem dU_init_25 : decode cU_init 25 = .ok (.putfield 18, 3) := by decide +kernel
theorem dU_init_28 : decode cU_init 28 = .ok (.aload_n 0, 1) := by decide +kernel
theorem dU_init_29 : decode cU_init 29 = .ok (.bipush 24, 2) := by decide +kernel
theorem dU_init_31 : decode cU_init 31 = .ok (.newarray .int, 2) := by decide +kernel
theorem dU_init_33 : decode cU_init 33 = .ok (.putfield 21, 3) := by decide +kernel
theorem dU_init_36 : decode cU_init 36 = .ok (.aload_n 0, 1) := by decide +kernel
theorem dU_init_37 : decode cU_init 37 = .ok (.iconst 4, 1) := by decide +kernel
theorem dU_init_38 : decode cU_init 38 = .ok (.newarray .int, 2) := by decide +kernel
theorem dU_init_40 : decode cU_init 40 = .ok (.putfield 24, 3) := by decide +kernel
theorem dU_init_43 : decode cU_init 43 = .ok (.aload_n 0, 1) := by decide +kernel
theorem dU_init_44 : decode cU_init 44 = .ok (.iconst 4, 1) := by decide +kernel
theorem dU_init_45 : decode cU_init 45 = .ok (.newarray .int, 2) := by decide +kernel
theorem dU_init_47 : decode cU_init 47 = .ok (.putfield 27, 3) := by decide +kernel
theorem dU_init_50 : decode cU_init 50 = .ok (.return_, 1) := by decide +kernel
theorem dU_appendValue_0 : decode cU_appendValue 0 = .ok (.aload_n 0, 1) := by decide +kernel
theorem dU_appendValue_1 : decode cU_appendValue 1 = .ok (.getfield 9, 3) := by decide +kernel
theorem dU_appendValue_4 : decode cU_appendValue 4 = .ok (.aload_n 0, 1) := by decide +kernel
theorem dU_appendValue_5 : decode cU_appendValue 5 = .ok (.getfield 30, 3) := by decide +kernel
theorem dU_appendValue_8 : decode cU_appendValue 8 = .ok (.iload_n 1, 1) := by decide +kernel
theorem dU_appendValue_9 : decode cU_appendValue 9 = .ok (.iastore, 1) := by decide +kernel
theorem dU_appendValue_10 : decode cU_appendValue 10 = .ok (.aload_n 0, 1) := by decide +kernel
theorem dU_appendValue_11 : decode cU_appendValue 11 = .ok (.getfield 15, 3) := by decide +kernel
theorem dU_appendValue_14 : decode cU_appendValue 14 = .ok (.aload_n 0, 1) := by decide +kernel
theorem dU_appendValue_15 : decode cU_appendValue 15 = .ok (.getfield 30, 3) := by decide +kernel
theorem dU_appendValue_18 : decode cU_appendValue 18 = .ok (.iload_n 2, 1) := by decide +kernel
theorem dU_appendValue_19 : decode cU_appendValue 19 = .ok (.iastore, 1) := by decide +kernel
theorem dU_appendValue_20 : decode cU_appendValue 20 = .ok (.aload_n 0, 1) := by decide +kernel
theorem dU_appendValue_21 : decode cU_appendValue 21 = .ok (.getfield 18, 3) := by decide +kernel
theorem dU_appendValue_24 : decode cU_appendValue 24 = .ok (.aload_n 0, 1) := by decide +kernel
theorem dU_appendValue_25 : decode cU_appendValue 25 = .ok (.getfield 30, 3) := by decide +kernel
theorem dU_appendValue_28 : decode cU_appendValue 28 = .ok (.iload_n 3, 1) := by decide +kernel
theorem dU_appendValue_29 : decode cU_appendValue 29 = .ok (.iastore, 1) := by decide +kernel
theorem dU_appendValue_30 : decode cU_appendValue 30 = .ok (.aload_n 0, 1) := by decide +kernel
theorem dU_appendValue_31 : decode cU_appendValue 31 = .ok (.getfield 21, 3) := by decide +kernel
theorem dU_appendValue_34 : decode cU_appendValue 34 = .ok (.aload_n 0, 1) := by decide +kernel
theorem dU_appendValue_35 : decode cU_appendValue 35 = .ok (.getfield 30, 3) := by decide +kernel
theorem dU_appendValue_38 : decode cU_appendValue 38 = .ok (.iload 4, 2) := by decide +kernel
theorem dU_appendValue_40 : decode cU_appendValue 40 = .ok (.iastore, 1) := by decide +kernel
theorem dU_appendValue_41 : decode cU_appendValue 41 = .ok (.aload_n 0, 1) := by decide +kernel
theorem dU_appendValue_42 : decode cU_appendValue 42 = .ok (.dup, 1) := by decide +kernel
theorem dU_appendValue_43 : decode cU_appendValue 43 = .ok (.getfield 30, 3) := by decide +kernel
theorem dU_appendValue_46 : decode cU_appendValue 46 = .ok (.iconst 1, 1) := by decide +kernel
theorem dU_appendValue_47 : decode cU_appendValue 47 = .ok (.iadd, 1) := by decide +kernel
theorem dU_appendValue_48 : decode cU_appendValue 48 = .ok (.putfield 30, 3) := by decide +kernel
theorem dU_appendValue_51 : decode cU_appendValue 51 = .ok (.aload_n 0, 1) := by decide +kernel
theorem dU_appendValue_52 : decode cU_appendValue 52 = .ok (.getfield 30, 3) := by decide +kernel
theorem dU_appendValue_55 : decode cU_appendValue 55 = .ok (.iconst 1, 1) := by decide +kernel
theorem dU_appendValue_56 : decode cU_appendValue 56 = .ok (.isub, 1) := by decide +kernel
theorem dU_appendValue_57 : decode cU_appendValue 57 = .ok (.ireturn, 1) := by decide +kernel
theorem dU_appendResult_0 : decode cU_appendResult 0 = .ok (.aload_n 0, 1) := by decide +kernel
theorem dU_appendResult_1 : decode cU_appendResult 1 = .ok (.getfield 24, 3) := by decide +kernel
theorem dU_appendResult_4 : decode cU_appendResult 4 = .ok (.aload_n 0, 1) := by decide +kernel
theorem dU_appendResult_5 : decode cU_appendResult 5 = .ok (.getfield 34, 3) := by decide +kernel
theorem dU_appendResult_8 : decode cU_appendResult 8 = .ok (.iload_n 1, 1) := by decide +kernel
theorem dU_appendResult_9 : decode cU_appendResult 9 = .ok (.iastore, 1) := by decide +kernel
theorem dU_appendResult_10 : decode cU_appendResult 10 = .ok (.aload_n 0, 1) := by decide +kernel
theorem dU_appendResult_11 : decode cU_appendResult 11 = .ok (.getfield 27, 3) := by decide +kernel
theorem dU_appendResult_14 : decode cU_appendResult 14 = .ok (.aload_n 0, 1) := by decide +kernel
theorem dU_appendResult_15 : decode cU_appendResult 15 = .ok (.getfield 34, 3) := by decide +kernel
theorem dU_appendResult_18 : decode cU_appendResult 18 = .ok (.iload_n 2, 1) := by decide +kernel
theorem dU_appendResult_19 : decode cU_appendResult 19 = .ok (.iastore, 1) := by decide +kernel
theorem dU_appendResult_20 : decode cU_appendResult 20 = .ok (.aload_n 0, 1) := by decide +kernel
theorem dU_appendResult_21 : decode cU_appendResult 21 = .ok (.dup, 1) := by decide +kernel
theorem dU_appendResult_22 : decode cU_appendResult 22 = .ok (.getfield 34, 3) := by decide +kernel
theorem dU_appendResult_25 : decode cU_appendResult 25 = .ok (.iconst 1, 1) := by decide +kernel
theorem dU_appendResult_26 : decode cU_appendResult 26 = .ok (.iadd, 1) := by decide +kernel
theorem dU_appendResult_27 : decode cU_appendResult 27 = .ok (.putfield 34, 3) := by decide +kernel
theorem dU_appendResult_30 : decode cU_appendResult 30 = .ok (.aload_n 0, 1) := by decide +kernel
theorem dU_appendResult_31 : decode cU_appendResult 31 = .ok (.getfield 34, 3) := by decide +kernel
theorem dU_appendResult_34 : decode cU_appendResult 34 = .ok (.iconst 1, 1) := by decide +kernel
theorem dU_appendResult_35 : decode cU_appendResult 35 = .ok (.isub, 1) := by decide +kernel
theorem dU_appendResult_36 : decode cU_appendResult 36 = .ok (.ireturn, 1) := by decide +kernel
theorem dJ_numberOfLeadingZeros_0 : decode cJ_numberOfLeadingZeros 0 = .ok (.iload_n 0, 1) := by decide +kernel
theorem dJ_numberOfLeadingZeros_1 : decode cJ_numberOfLeadingZeros 1 = .ok (.ifCond .gt 14, 3) := by decide +kernel
theorem dJ_numberOfLeadingZeros_4 : decode cJ_numberOfLeadingZeros 4 = .ok (.iload_n 0, 1) := by decide +kernel
theorem dJ_numberOfLeadingZeros_5 : decode cJ_numberOfLeadingZeros 5 = .ok (.ifCond .ne 8, 3) := by decide +kernel
theorem dJ_numberOfLeadingZeros_8 : decode cJ_numberOfLeadingZeros 8 = .ok (.bipush 32, 2) := by decide +kernel
theorem dJ_numberOfLeadingZeros_10 : decode cJ_numberOfLeadingZeros 10 = .ok (.goto 4, 3) := by decide +kernel
theorem dJ_numberOfLeadingZeros_13 : decode cJ_numberOfLeadingZeros 13 = .ok (.iconst 0, 1) := by decide +kernel
theorem dJ_numberOfLeadingZeros_14 : decode cJ_numberOfLeadingZeros 14 = .ok (.ireturn, 1) := by decide +kernel
theorem dJ_numberOfLeadingZeros_15 : decode cJ_numberOfLeadingZeros 15 = .ok (.bipush 31, 2) := by decide +kernel
theorem dJ_numberOfLeadingZeros_17 : decode cJ_numberOfLeadingZeros 17 = .ok (.istore_n 1, 1) := by decide +kernel
theorem dJ_numberOfLeadingZeros_18 : decode cJ_numberOfLeadingZeros 18 = .ok (.iload_n 0, 1) := by decide +kernel
theorem dJ_numberOfLeadingZeros_19 : decode cJ_numberOfLeadingZeros 19 = .ok (.ldc_w 264, 3) := by decide +kernel
theorem dJ_numberOfLeadingZeros_22 : decode cJ_numberOfLeadingZeros 22 = .ok (.if_icmp .lt 11, 3) := by decide +kernel
theorem dJ_numberOfLeadingZeros_25 : decode cJ_numberOfLeadingZeros 25 = .ok (.iinc 1 (-16), 3) := by decide +kernel
theorem dJ_numberOfLeadingZeros_28 : decode cJ_numberOfLeadingZeros 28 = .ok (.iload_n 0, 1) := by decide +kernel
theorem dJ_numberOfLeadingZeros_29 : decode cJ_numberOfLeadingZeros 29 = .ok (.bipush 16, 2) := by decide +kernel
theorem dJ_numberOfLeadingZeros_31 : decode cJ_numberOfLeadingZeros 31 = .ok (.iushr, 1) := by decide +kernel
theorem dJ_numberOfLeadingZeros_32 : decode cJ_numberOfLeadingZeros 32 = .ok (.istore_n 0, 1) := by decide +kernel
theorem dJ_numberOfLeadingZeros_33 : decode cJ_numberOfLeadingZeros 33 = .ok (.iload_n 0, 1) := by decide +kernel
theorem dJ_numberOfLeadingZeros_34 : decode cJ_numberOfLeadingZeros 34 = .ok (.sipush 256, 3) := by decide +kernel
theorem dJ_numberOfLeadingZeros_37 : decode cJ_numberOfLeadingZeros 37 = .ok (.if_icmp .lt 11, 3) := by decide +kernel
theorem dJ_numberOfLeadingZeros_40 : decode cJ_numberOfLeadingZeros 40 = .ok (.iinc 1 (-8), 3) := by decide +kernel
theorem dJ_numberOfLeadingZeros_43 : decode cJ_numberOfLeadingZeros 43 = .ok (.iload_n 0, 1) := by decide +kernel
theorem dJ_numberOfLeadingZeros_44 : decode cJ_numberOfLeadingZeros 44 = .ok (.bipush 8, 2) := by decide +kernel
theorem dJ_numberOfLeadingZeros_46 : decode cJ_numberOfLeadingZeros 46 = .ok (.iushr, 1) := by decide +kernel
theorem dJ_numberOfLeadingZeros_47 : decode cJ_numberOfLeadingZeros 47 = .ok (.istore_n 0, 1) := by decide +kernel
theorem dJ_numberOfLeadingZeros_48 : decode cJ_numberOfLeadingZeros 48 = .ok (.iload_n 0, 1) := by decide +kernel
theorem dJ_numberOfLeadingZeros_49 : decode cJ_numberOfLeadingZeros 49 = .ok (.bipush 16, 2) := by decide +kernel
theorem dJ_numberOfLeadingZeros_51 : decode cJ_numberOfLeadingZeros 51 = .ok (.if_icmp .lt 10, 3) := by decide +kernel
theorem dJ_numberOfLeadingZeros_54 : decode cJ_numberOfLeadingZeros 54 = .ok (.iinc 1 (-4), 3) := by decide +kernel
theorem dJ_numberOfLeadingZeros_57 : decode cJ_numberOfLeadingZeros 57 = .ok (.iload_n 0, 1) := by decide +kernel
theorem dJ_numberOfLeadingZeros_58 : decode cJ_numberOfLeadingZeros 58 = .ok (.iconst 4, 1) := by decide +kernel
theorem dJ_numberOfLeadingZeros_59 : decode cJ_numberOfLeadingZeros 59 = .ok (.iushr, 1) := by decide +kernel
theorem dJ_numberOfLeadingZeros_60 : decode cJ_numberOfLeadingZeros 60 = .ok (.istore_n 0, 1) := by decide +kernel
theorem dJ_numberOfLeadingZeros_61 : decode cJ_numberOfLeadingZeros 61 = .ok (.iload_n 0, 1) := by decide +kernel
theorem dJ_numberOfLeadingZeros_62 : decode cJ_numberOfLeadingZeros 62 = .ok (.iconst 4, 1) := by decide +kernel
theorem dJ_numberOfLeadingZeros_63 : decode cJ_numberOfLeadingZeros 63 = .ok (.if_icmp .lt 10, 3) := by decide +kernel
theorem dJ_numberOfLeadingZeros_66 : decode cJ_numberOfLeadingZeros 66 = .ok (.iinc 1 (-2), 3) := by decide +kernel
theorem dJ_numberOfLeadingZeros_69 : decode cJ_numberOfLeadingZeros 69 = .ok (.iload_n 0, 1) := by decide +kernel
theorem dJ_numberOfLeadingZeros_70 : decode cJ_numberOfLeadingZeros 70 = .ok (.iconst 2, 1) := by decide +kernel
theorem dJ_numberOfLeadingZeros_71 : decode cJ_numberOfLeadingZeros 71 = .ok (.iushr, 1) := by decide +kernel
theorem dJ_numberOfLeadingZeros_72 : decode cJ_numberOfLeadingZeros 72 = .ok (.istore_n 0, 1) := by decide +kernel
theorem dJ_numberOfLeadingZeros_73 : decode cJ_numberOfLeadingZeros 73 = .ok (.iload_n 1, 1) := by decide +kernel
theorem dJ_numberOfLeadingZeros_74 : decode cJ_numberOfLeadingZeros 74 = .ok (.iload_n 0, 1) := by decide +kernel
theorem dJ_numberOfLeadingZeros_75 : decode cJ_numberOfLeadingZeros 75 = .ok (.iconst 1, 1) := by decide +kernel
theorem dJ_numberOfLeadingZeros_76 : decode cJ_numberOfLeadingZeros 76 = .ok (.iushr, 1) := by decide +kernel
theorem dJ_numberOfLeadingZeros_77 : decode cJ_numberOfLeadingZeros 77 = .ok (.isub, 1) := by decide +kernel
theorem dJ_numberOfLeadingZeros_78 : decode cJ_numberOfLeadingZeros 78 = .ok (.ireturn, 1) := by decide +kernel
theorem dJ_numberOfTrailingZeros_0 : decode cJ_numberOfTrailingZeros 0 = .ok (.iload_n 0, 1) := by decide +kernel
theorem dJ_numberOfTrailingZeros_1 : decode cJ_numberOfTrailingZeros 1 = .ok (.iconst (-1), 1) := by decide +kernel
theorem dJ_numberOfTrailingZeros_2 : decode cJ_numberOfTrailingZeros 2 = .ok (.ixor, 1) := by decide +kernel
theorem dJ_numberOfTrailingZeros_3 : decode cJ_numberOfTrailingZeros 3 = .ok (.iload_n 0, 1) := by decide +kernel
theorem dJ_numberOfTrailingZeros_4 : decode cJ_numberOfTrailingZeros 4 = .ok (.iconst 1, 1) := by decide +kernel
theorem dJ_numberOfTrailingZeros_5 : decode cJ_numberOfTrailingZeros 5 = .ok (.isub, 1) := by decide +kernel
theorem dJ_numberOfTrailingZeros_6 : decode cJ_numberOfTrailingZeros 6 = .ok (.iand, 1) := by decide +kernel
theorem dJ_numberOfTrailingZeros_7 : decode cJ_numberOfTrailingZeros 7 = .ok (.istore_n 0, 1) := by decide +kernel
theorem dJ_numberOfTrailingZeros_8 : decode cJ_numberOfTrailingZeros 8 = .ok (.iload_n 0, 1) := by decide +kernel
theorem dJ_numberOfTrailingZeros_9 : decode cJ_numberOfTrailingZeros 9 = .ok (.ifCond .gt 8, 3) := by decide +kernel
theorem dJ_numberOfTrailingZeros_12 : decode cJ_numberOfTrailingZeros 12 = .ok (.iload_n 0, 1) := by decide +kernel
theorem dJ_numberOfTrailingZeros_13 : decode cJ_numberOfTrailingZeros 13 = .ok (.bipush 32, 2) := by decide +kernel
theorem dJ_numberOfTrailingZeros_15 : decode cJ_numberOfTrailingZeros 15 = .ok (.iand, 1) := by decide +kernel
theorem dJ_numberOfTrailingZeros_16 : decode cJ_numberOfTrailingZeros 16 = .ok (.ireturn, 1) := by decide +kernel
theorem dJ_numberOfTrailingZeros_17 : decode cJ_numberOfTrailingZeros 17 = .ok (.iconst 1, 1) := by decide +kernel
theorem dJ_numberOfTrailingZeros_18 : decode cJ_numberOfTrailingZeros 18 = .ok (.istore_n 1, 1) := by decide +kernel
theorem dJ_numberOfTrailingZeros_19 : decode cJ_numberOfTrailingZeros 19 = .ok (.iload_n 0, 1) := by decide +kernel
theorem dJ_numberOfTrailingZeros_20 : decode cJ_numberOfTrailingZeros 20 = .ok (.ldc_w 264, 3) := by decide +kernel
theorem dJ_numberOfTrailingZeros_23 : decode cJ_numberOfTrailingZeros 23 = .ok (.if_icmp .le 11, 3) := by decide +kernel
theorem dJ_numberOfTrailingZeros_26 : decode cJ_numberOfTrailingZeros 26 = .ok (.iinc 1 16, 3) := by decide +kernel
theorem dJ_numberOfTrailingZeros_29 : decode cJ_numberOfTrailingZeros 29 = .ok (.iload_n 0, 1) := by decide +kernel
theorem dJ_numberOfTrailingZeros_30 : decode cJ_numberOfTrailingZeros 30 = .ok (.bipush 16, 2) := by decide +kernel
theorem dJ_numberOfTrailingZeros_32 : decode cJ_numberOfTrailingZeros 32 = .ok (.iushr, 1) := by decide +kernel
theorem dJ_numberOfTrailingZeros_33 : decode cJ_numberOfTrailingZeros 33 = .ok (.istore_n 0, 1) := by decide +kernel
theorem dJ_numberOfTrailingZeros_34 : decode cJ_numberOfTrailingZeros 34 = .ok (.iload_n 0, 1) := by decide +kernel
theorem dJ_numberOfTrailingZeros_35 : decode cJ_numberOfTrailingZeros 35 = .ok (.sipush 256, 3) := by decide +kernel
theorem dJ_numberOfTrailingZeros_38 : decode cJ_numberOfTrailingZeros 38 = .ok (.if_icmp .le 11, 3) := by decide +kernel
theorem dJ_numberOfTrailingZeros_41 : decode cJ_numberOfTrailingZeros 41 = .ok (.iinc 1 8, 3) := by decide +kernel
theorem dJ_numberOfTrailingZeros_44 : decode cJ_numberOfTrailingZeros 44 = .ok (.iload_n 0, 1) := by decide +kernel
theorem dJ_numberOfTrailingZeros_45 : decode cJ_numberOfTrailingZeros 45 = .ok (.bipush 8, 2) := by decide +kernel
theorem dJ_numberOfTrailingZeros_47 : decode cJ_numberOfTrailingZeros 47 = .ok (.iushr, 1) := by decide +kernel
theorem dJ_numberOfTrailingZeros_48 : decode cJ_numberOfTrailingZeros 48 = .ok (.istore_n 0, 1) := by decide +kernel
theorem dJ_numberOfTrailingZeros_49 : decode cJ_numberOfTrailingZeros 49 = .ok (.iload_n 0, 1) := by decide +kernel
theorem dJ_numberOfTrailingZeros_50 : decode cJ_numberOfTrailingZeros 50 = .ok (.bipush 16, 2) := by decide +kernel
theorem dJ_numberOfTrailingZeros_52 : decode cJ_numberOfTrailingZeros 52 = .ok (.if_icmp .le 10, 3) := by decide +kernel
theorem dJ_numberOfTrailingZeros_55 : decode cJ_numberOfTrailingZeros 55 = .ok (.iinc 1 4, 3) := by decide +kernel
theorem dJ_numberOfTrailingZeros_58 : decode cJ_numberOfTrailingZeros 58 = .ok (.iload_n 0, 1) := by decide +kernel
theorem dJ_numberOfTrailingZeros_59 : decode cJ_numberOfTrailingZeros 59 = .ok (.iconst 4, 1) := by decide +kernel
theorem dJ_numberOfTrailingZeros_60 : decode cJ_numberOfTrailingZeros 60 = .ok (.iushr, 1) := by decide +kernel
theorem dJ_numberOfTrailingZeros_61 : decode cJ_numberOfTrailingZeros 61 = .ok (.istore_n 0, 1) := by decide +kernel
theorem dJ_numberOfTrailingZeros_62 : decode cJ_numberOfTrailingZeros 62 = .ok (.iload_n 0, 1) := by decide +kernel
theorem dJ_numberOfTrailingZeros_63 : decode cJ_numberOfTrailingZeros 63 = .ok (.iconst 4, 1) := by decide +kernel
theorem dJ_numberOfTrailingZeros_64 : decode cJ_numberOfTrailingZeros 64 = .ok (.if_icmp .le 10, 3) := by decide +kernel
theorem dJ_numberOfTrailingZeros_67 : decode cJ_numberOfTrailingZeros 67 = .ok (.iinc 1 2, 3) := by decide +kernel
theorem dJ_numberOfTrailingZeros_70 : decode cJ_numberOfTrailingZeros 70 = .ok (.iload_n 0, 1) := by decide +kernel
theorem dJ_numberOfTrailingZeros_71 : decode cJ_numberOfTrailingZeros 71 = .ok (.iconst 2, 1) := by decide +kernel
theorem dJ_numberOfTrailingZeros_72 : decode cJ_numberOfTrailingZeros 72 = .ok (.iushr, 1) := by decide +kernel
theorem dJ_numberOfTrailingZeros_73 : decode cJ_numberOfTrailingZeros 73 = .ok (.istore_n 0, 1) := by decide +kernel
theorem dJ_numberOfTrailingZeros_74 : decode cJ_numberOfTrailingZeros 74 = .ok (.iload_n 1, 1) := by decide +kernel
theorem dJ_numberOfTrailingZeros_75 : decode cJ_numberOfTrailingZeros 75 = .ok (.iload_n 0, 1) := by decide +kernel
theorem dJ_numberOfTrailingZeros_76 : decode cJ_numberOfTrailingZeros 76 = .ok (.iconst 1, 1) := by decide +kernel
theorem dJ_numberOfTrailingZeros_77 : decode cJ_numberOfTrailingZeros 77 = .ok (.iushr, 1) := by decide +kernel
theorem dJ_numberOfTrailingZeros_78 : decode cJ_numberOfTrailingZeros 78 = .ok (.iadd, 1) := by decide +kernel
theorem dJ_numberOfTrailingZeros_79 : decode cJ_numberOfTrailingZeros 79 = .ok (.ireturn, 1) := by decide +kernel
theorem dA_fill_0 : decode cA_fill 0 = .ok (.iconst 0, 1) := by decide +kernel
theorem dA_fill_1 : decode cA_fill 1 = .ok (.istore_n 2, 1) := by decide +kernel
theorem dA_fill_2 : decode cA_fill 2 = .ok (.aload_n 0, 1) := by decide +kernel
theorem dA_fill_3 : decode cA_fill 3 = .ok (.arraylength, 1) := by decide +kernel
theorem dA_fill_4 : decode cA_fill 4 = .ok (.istore_n 3, 1) := by decide +kernel
theorem dA_fill_5 : decode cA_fill 5 = .ok (.iload_n 2, 1) := by decide +kernel
theorem dA_fill_6 : decode cA_fill 6 = .ok (.iload_n 3, 1) := by decide +kernel
theorem dA_fill_7 : decode cA_fill 7 = .ok (.if_icmp .ge 13, 3) := by decide +kernel
theorem dA_fill_10 : decode cA_fill 10 = .ok (.aload_n 0, 1) := by decide +kernel
theorem dA_fill_11 : decode cA_fill 11 = .ok (.iload_n 2, 1) := by decide +kernel
theorem dA_fill_12 : decode cA_fill 12 = .ok (.iload_n 1, 1) := by decide +kernel
theorem dA_fill_13 : decode cA_fill 13 = .ok (.iastore, 1) := by decide +kernel
theorem dA_fill_14 : decode cA_fill 14 = .ok (.iinc 2 1, 3) := by decide +kernel
theorem dA_fill_17 : decode cA_fill 17 = .ok (.goto (-12), 3) := by decide +kernel
theorem dA_fill_20 : decode cA_fill 20 = .ok (.return_, 1) := by decide +kernel
