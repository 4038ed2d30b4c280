theorem dX8_init_0 : decode cX8_init 0 = .ok (.aload_n 0, 1) := by decide +kernel
theorem dX8_init_1 : decode cX8_init 1 = .ok (.invokespecial 1, 3) := by decide +kernel
theorem dX8_init_4 : decode cX8_init 4 = .ok (.aload_n 0, 1) := by decide +kernel
theorem dX8_init_5 : decode cX8_init 5 = .ok (.bipush 6, 2) := by decide +kernel
theorem dX8_init_7 : decode cX8_init 7 = .ok (.newarray .int, 2) := by decide +kernel
theorem dX8_init_9 : decode cX8_init 9 = .ok (.putfield 7, 3) := by decide +kernel
theorem dX8_init_12 : decode cX8_init 12 = .ok (.aload_n 0, 1) := by decide +kernel
theorem dX8_init_13 : decode cX8_init 13 = .ok (.bipush 6, 2) := by decide +kernel
theorem dX8_init_15 : decode cX8_init 15 = .ok (.newarray .int, 2) := by decide +kernel
theorem dX8_init_17 : decode cX8_init 17 = .ok (.putfield 13, 3) := by decide +kernel
theorem dX8_init_20 : decode cX8_init 20 = .ok (.aload_n 0, 1) := by decide +kernel
theorem dX8_init_21 : decode cX8_init 21 = .ok (.bipush 36, 2) := by decide +kernel
theorem dX8_init_23 : decode cX8_init 23 = .ok (.newarray .int, 2) := by decide +kernel
theorem dX8_init_25 : decode cX8_init 25 = .ok (.putfield 16, 3) := by decide +kernel
theorem dX8_init_28 : decode cX8_init 28 = .ok (.aload_n 0, 1) := by decide +kernel
theorem dX8_init_29 : decode cX8_init 29 = .ok (.bipush 8, 2) := by decide +kernel
theorem dX8_init_31 : decode cX8_init 31 = .ok (.newarray .int, 2) := by decide +kernel
theorem dX8_init_33 : decode cX8_init 33 = .ok (.putfield 19, 3) := by decide +kernel
theorem dX8_init_36 : decode cX8_init 36 = .ok (.aload_n 0, 1) := by decide +kernel
theorem dX8_init_37 : decode cX8_init 37 = .ok (.bipush 8, 2) := by decide +kernel
theorem dX8_init_39 : decode cX8_init 39 = .ok (.newarray .int, 2) := by decide +kernel
theorem dX8_init_41 : decode cX8_init 41 = .ok (.putfield 22, 3) := by decide +kernel
theorem dX8_init_44 : decode cX8_init 44 = .ok (.aload_n 0, 1) := by decide +kernel
theorem dX8_init_45 : decode cX8_init 45 = .ok (.bipush 8, 2) := by decide +kernel
theorem dX8_init_47 : decode cX8_init 47 = .ok (.newarray .int, 2) := by decide +kernel
theorem dX8_init_49 : decode cX8_init 49 = .ok (.putfield 25, 3) := by decide +kernel
theorem dX8_init_52 : decode cX8_init 52 = .ok (.aload_n 0, 1) := by decide +kernel
theorem dX8_init_53 : decode cX8_init 53 = .ok (.bipush 8, 2) := by decide +kernel
theorem dX8_init_55 : decode cX8_init 55 = .ok (.newarray .int, 2) := by decide +kernel
theorem dX8_init_57 : decode cX8_init 57 = .ok (.putfield 28, 3) := by decide +kernel
theorem dX8_init_60 : decode cX8_init 60 = .ok (.aload_n 0, 1) := by decide +kernel
theorem dX8_init_61 : decode cX8_init 61 = .ok (.bipush 8, 2) := by decide +kernel
theorem dX8_init_63 : decode cX8_init 63 = .ok (.newarray .int, 2) := by decide +kernel
theorem dX8_init_65 : decode cX8_init 65 = .ok (.putfield 31, 3) := by decide +kernel
theorem dX8_init_68 : decode cX8_init 68 = .ok (.aload_n 0, 1) := by decide +kernel
theorem dX8_init_69 : decode cX8_init 69 = .ok (.bipush 60, 2) := by decide +kernel
theorem dX8_init_71 : decode cX8_init 71 = .ok (.newarray .int, 2) := by decide +kernel
theorem dX8_init_73 : decode cX8_init 73 = .ok (.putfield 34, 3) := by decide +kernel
theorem dX8_init_76 : decode cX8_init 76 = .ok (.aload_n 0, 1) := by decide +kernel
theorem dX8_init_77 : decode cX8_init 77 = .ok (.bipush 60, 2) := by decide +kernel
theorem dX8_init_79 : decode cX8_init 79 = .ok (.newarray .int, 2) := by decide +kernel
theorem dX8_init_81 : decode cX8_init 81 = .ok (.putfield 37, 3) := by decide +kernel
theorem dX8_init_84 : decode cX8_init 84 = .ok (.aload_n 0, 1) := by decide +kernel
theorem dX8_init_85 : decode cX8_init 85 = .ok (.bipush 60, 2) := by decide +kernel
theorem dX8_init_87 : decode cX8_init 87 = .ok (.newarray .int, 2) := by decide +kernel
theorem dX8_init_89 : decode cX8_init 89 = .ok (.putfield 40, 3) := by decide +kernel
theorem dX8_init_92 : decode cX8_init 92 = .ok (.aload_n 0, 1) := by decide +kernel
theorem dX8_init_93 : decode cX8_init 93 = .ok (.bipush 60, 2) := by decide +kernel
theorem dX8_init_95 : decode cX8_init 95 = .ok (.newarray .int, 2) := by decide +kernel
theorem dX8_init_97 : decode cX8_init 97 = .ok (.putfield 43, 3) := by decide +kernel
theorem dX8_init_100 : decode cX8_init 100 = .ok (.aload_n 0, 1) := by decide +kernel
theorem dX8_init_101 : decode cX8_init 101 = .ok (.bipush 60, 2) := by decide +kernel
theorem dX8_init_103 : decode cX8_init 103 = .ok (.newarray .int, 2) := by decide +kernel
theorem dX8_init_105 : decode cX8_init 105 = .ok (.putfield 46, 3) := by decide +kernel
theorem dX8_init_108 : decode cX8_init 108 = .ok (.aload_n 0, 1) := by decide +kernel
theorem dX8_init_109 : decode cX8_init 109 = .ok (.bipush 60, 2) := by decide +kernel
theorem dX8_init_111 : decode cX8_init 111 = .ok (.newarray .int, 2) := by decide +kernel
theorem dX8_init_113 : decode cX8_init 113 = .ok (.putfield 49, 3) := by decide +kernel
theorem dX8_init_116 : decode cX8_init 116 = .ok (.aload_n 0, 1) := by decide +kernel
theorem dX8_init_117 : decode cX8_init 117 = .ok (.bipush 6, 2) := by decide +kernel
theorem dX8_init_119 : decode cX8_init 119 = .ok (.newarray .int, 2) := by decide +kernel
theorem dX8_init_121 : decode cX8_init 121 = .ok (.putfield 52, 3) := by decide +kernel
theorem dX8_init_124 : decode cX8_init 124 = .ok (.aload_n 0, 1) := by decide +kernel
theorem dX8_init_125 : decode cX8_init 125 = .ok (.bipush 64, 2) := by decide +kernel
theorem dX8_init_127 : decode cX8_init 127 = .ok (.newarray .int, 2) := by decide +kernel
theorem dX8_init_129 : decode cX8_init 129 = .ok (.putfield 55, 3) := by decide +kernel
theorem dX8_init_132 : decode cX8_init 132 = .ok (.aload_n 0, 1) := by decide +kernel
theorem dX8_init_133 : decode cX8_init 133 = .ok (.bipush 9, 2) := by decide +kernel
theorem dX8_init_135 : decode cX8_init 135 = .ok (.newarray .int, 2) := by decide +kernel
theorem dX8_init_137 : decode cX8_init 137 = .ok (.putfield 58, 3) := by decide +kernel
theorem dX8_init_140 : decode cX8_init 140 = .ok (.aload_n 0, 1) := by decide +kernel
theorem dX8_init_141 : decode cX8_init 141 = .ok (.bipush 70, 2) := by decide +kernel
theorem dX8_init_143 : decode cX8_init 143 = .ok (.newarray .long, 2) := by decide +kernel
theorem dX8_init_145 : decode cX8_init 145 = .ok (.putfield 61, 3) := by decide +kernel
theorem dX8_init_148 : decode cX8_init 148 = .ok (.aload_n 0, 1) := by decide +kernel
theorem dX8_init_149 : decode cX8_init 149 = .ok (.bipush 70, 2) := by decide +kernel
theorem dX8_init_151 : decode cX8_init 151 = .ok (.newarray .long, 2) := by decide +kernel
theorem dX8_init_153 : decode cX8_init 153 = .ok (.putfield 65, 3) := by decide +kernel
theorem dX8_init_156 : decode cX8_init 156 = .ok (.aload_n 0, 1) := by decide +kernel
theorem dX8_init_157 : decode cX8_init 157 = .ok (.bipush 31, 2) := by decide +kernel
theorem dX8_init_159 : decode cX8_init 159 = .ok (.newarray .long, 2) := by decide +kernel
theorem dX8_init_161 : decode cX8_init 161 = .ok (.putfield 68, 3) := by decide +kernel
theorem dX8_init_164 : decode cX8_init 164 = .ok (.aload_n 0, 1) := by decide +kernel
theorem dX8_init_165 : decode cX8_init 165 = .ok (.sipush 200, 3) := by decide +kernel
theorem dX8_init_168 : decode cX8_init 168 = .ok (.newarray .int, 2) := by decide +kernel
theorem dX8_init_170 : decode cX8_init 170 = .ok (.putfield 71, 3) := by decide +kernel
theorem dX8_init_173 : decode cX8_init 173 = .ok (.aload_n 0, 1) := by decide +kernel
theorem dX8_init_174 : decode cX8_init 174 = .ok (.iconst 2, 1) := by decide +kernel
theorem dX8_init_175 : decode cX8_init 175 = .ok (.newarray .boolean, 2) := by decide +kernel
theorem dX8_init_177 : decode cX8_init 177 = .ok (.putfield 74, 3) := by decide +kernel
theorem dX8_init_180 : decode cX8_init 180 = .ok (.iconst 0, 1) := by decide +kernel
theorem dX8_init_181 : decode cX8_init 181 = .ok (.istore_n 1, 1) := by decide +kernel
theorem dX8_init_182 : decode cX8_init 182 = .ok (.iload_n 1, 1) := by decide +kernel
theorem dX8_init_183 : decode cX8_init 183 = .ok (.bipush 6, 2) := by decide +kernel
theorem dX8_init_185 : decode cX8_init 185 = .ok (.if_icmp .ge 25, 3) := by decide +kernel
theorem dX8_init_188 : decode cX8_init 188 = .ok (.aload_n 0, 1) := by decide +kernel
theorem dX8_init_189 : decode cX8_init 189 = .ok (.getfield 7, 3) := by decide +kernel
theorem dX8_init_192 : decode cX8_init 192 = .ok (.iload_n 1, 1) := by decide +kernel
theorem dX8_init_193 : decode cX8_init 193 = .ok (.bipush 100, 2) := by decide +kernel
theorem dX8_init_195 : decode cX8_init 195 = .ok (.iastore, 1) := by decide +kernel
theorem dX8_init_196 : decode cX8_init 196 = .ok (.aload_n 0, 1) := by decide +kernel
theorem dX8_init_197 : decode cX8_init 197 = .ok (.getfield 13, 3) := by decide +kernel
theorem dX8_init_200 : decode cX8_init 200 = .ok (.iload_n 1, 1) := by decide +kernel
theorem dX8_init_201 : decode cX8_init 201 = .ok (.bipush 100, 2) := by decide +kernel
theorem dX8_init_203 : decode cX8_init 203 = .ok (.iastore, 1) := by decide +kernel
theorem dX8_init_204 : decode cX8_init 204 = .ok (.iinc 1 1, 3) := by decide +kernel
theorem dX8_init_207 : decode cX8_init 207 = .ok (.goto (-25), 3) := by decide +kernel
theorem dX8_init_210 : decode cX8_init 210 = .ok (.iconst 0, 1) := by decide +kernel
theorem dX8_init_211 : decode cX8_init 211 = .ok (.istore_n 1, 1) := by decide +kernel
theorem dX8_init_212 : decode cX8_init 212 = .ok (.iload_n 1, 1) := by decide +kernel
theorem dX8_init_213 : decode cX8_init 213 = .ok (.bipush 8, 2) := by decide +kernel
theorem dX8_init_215 : decode cX8_init 215 = .ok (.if_icmp .ge 25, 3) := by decide +kernel
theorem dX8_init_218 : decode cX8_init 218 = .ok (.aload_n 0, 1) := by decide +kernel
theorem dX8_init_219 : decode cX8_init 219 = .ok (.getfield 19, 3) := by decide +kernel
theorem dX8_init_222 : decode cX8_init 222 = .ok (.iload_n 1, 1) := by decide +kernel
theorem dX8_init_223 : decode cX8_init 223 = .ok (.bipush 100, 2) := by decide +kernel
theorem dX8_init_225 : decode cX8_init 225 = .ok (.iastore, 1) := by decide +kernel
theorem dX8_init_226 : decode cX8_init 226 = .ok (.aload_n 0, 1) := by decide +kernel
theorem dX8_init_227 : decode cX8_init 227 = .ok (.getfield 22, 3) := by decide +kernel
theorem dX8_init_230 : decode cX8_init 230 = .ok (.iload_n 1, 1) := by decide +kernel
theorem dX8_init_231 : decode cX8_init 231 = .ok (.bipush (-6), 2) := by decide +kernel
theorem dX8_init_233 : decode cX8_init 233 = .ok (.iastore, 1) := by decide +kernel
theorem dX8_init_234 : decode cX8_init 234 = .ok (.iinc 1 1, 3) := by decide +kernel
theorem dX8_init_237 : decode cX8_init 237 = .ok (.goto (-25), 3) := by decide +kernel
theorem dX8_init_240 : decode cX8_init 240 = .ok (.return_, 1) := by decide +kernel
theorem dX8_in_0 : decode cX8_in 0 = .ok (.lload_n 0, 1) := by decide +kernel
theorem dX8_in_1 : decode cX8_in 1 = .ok (.lload_n 2, 1) := by decide +kernel
theorem dX8_in_2 : decode cX8_in 2 = .ok (.lcmp, 1) := by decide +kernel
theorem dX8_in_3 : decode cX8_in 3 = .ok (.ifCond .lt 14, 3) := by decide +kernel
theorem dX8_in_6 : decode cX8_in 6 = .ok (.lload_n 0, 1) := by decide +kernel
theorem dX8_in_7 : decode cX8_in 7 = .ok (.lload 4, 2) := by decide +kernel
theorem dX8_in_9 : decode cX8_in 9 = .ok (.lcmp, 1) := by decide +kernel
theorem dX8_in_10 : decode cX8_in 10 = .ok (.ifCond .gt 7, 3) := by decide +kernel
theorem dX8_in_13 : decode cX8_in 13 = .ok (.iconst 1, 1) := by decide +kernel
theorem dX8_in_14 : decode cX8_in 14 = .ok (.goto 4, 3) := by decide +kernel
theorem dX8_in_17 : decode cX8_in 17 = .ok (.iconst 0, 1) := by decide +kernel
theorem dX8_in_18 : decode cX8_in 18 = .ok (.ireturn, 1) := by decide +kernel
theorem dX8_bitsOf_0 : decode cX8_bitsOf 0 = .ok (.iconst 0, 1) := by decide +kernel
theorem dX8_bitsOf_1 : decode cX8_bitsOf 1 = .ok (.istore_n 1, 1) := by decide +kernel
theorem dX8_bitsOf_2 : decode cX8_bitsOf 2 = .ok (.iload_n 0, 1) := by decide +kernel
theorem dX8_bitsOf_3 : decode cX8_bitsOf 3 = .ok (.istore_n 2, 1) := by decide +kernel
theorem dX8_bitsOf_4 : decode cX8_bitsOf 4 = .ok (.iload_n 2, 1) := by decide +kernel
theorem dX8_bitsOf_5 : decode cX8_bitsOf 5 = .ok (.ifCond .eq 15, 3) := by decide +kernel
theorem dX8_bitsOf_8 : decode cX8_bitsOf 8 = .ok (.iinc 1 1, 3) := by decide +kernel
theorem dX8_bitsOf_11 : decode cX8_bitsOf 11 = .ok (.iload_n 2, 1) := by decide +kernel
theorem dX8_bitsOf_12 : decode cX8_bitsOf 12 = .ok (.iload_n 2, 1) := by decide +kernel
theorem dX8_bitsOf_13 : decode cX8_bitsOf 13 = .ok (.iconst 1, 1) := by decide +kernel
theorem dX8_bitsOf_14 : decode cX8_bitsOf 14 = .ok (.isub, 1) := by decide +kernel
theorem dX8_bitsOf_15 : decode cX8_bitsOf 15 = .ok (.iand, 1) := by decide +kernel
theorem dX8_bitsOf_16 : decode cX8_bitsOf 16 = .ok (.istore_n 2, 1) := by decide +kernel
theorem dX8_bitsOf_17 : decode cX8_bitsOf 17 = .ok (.goto (-13), 3) := by decide +kernel
theorem dX8_bitsOf_20 : decode cX8_bitsOf 20 = .ok (.iload_n 1, 1) := by decide +kernel
theorem dX8_bitsOf_21 : decode cX8_bitsOf 21 = .ok (.ireturn, 1) := by decide +kernel
theorem dX8_isOne_0 : decode cX8_isOne 0 = .ok (.iload_n 0, 1) := by decide +kernel
theorem dX8_isOne_1 : decode cX8_isOne 1 = .ok (.i2l, 1) := by decide +kernel
theorem dX8_isOne_2 : decode cX8_isOne 2 = .ok (.lconst 0, 1) := by decide +kernel
theorem dX8_isOne_3 : decode cX8_isOne 3 = .ok (.ldc2_w 78, 3) := by decide +kernel
theorem dX8_isOne_6 : decode cX8_isOne 6 = .ok (.invokestatic 80, 3) := by decide +kernel
theorem dX8_isOne_9 : decode cX8_isOne 9 = .ok (.ireturn, 1) := by decide +kernel
theorem dX8_one_0 : decode cX8_one 0 = .ok (.iload_n 1, 1) := by decide +kernel
theorem dX8_one_1 : decode cX8_one 1 = .ok (.invokestatic 84, 3) := by decide +kernel
theorem dX8_one_4 : decode cX8_one 4 = .ok (.ifCond .ne 5, 3) := by decide +kernel
theorem dX8_one_7 : decode cX8_one 7 = .ok (.iconst (-1), 1) := by decide +kernel
theorem dX8_one_8 : decode cX8_one 8 = .ok (.ireturn, 1) := by decide +kernel
theorem dX8_one_9 : decode cX8_one 9 = .ok (.iload_n 2, 1) := by decide +kernel
theorem dX8_one_10 : decode cX8_one 10 = .ok (.i2l, 1) := by decide +kernel
theorem dX8_one_11 : decode cX8_one 11 = .ok (.lconst 0, 1) := by decide +kernel
theorem dX8_one_12 : decode cX8_one 12 = .ok (.ldc2_w 88, 3) := by decide +kernel
theorem dX8_one_15 : decode cX8_one 15 = .ok (.invokestatic 80, 3) := by decide +kernel
theorem dX8_one_18 : decode cX8_one 18 = .ok (.ifCond .eq 15, 3) := by decide +kernel
theorem dX8_one_21 : decode cX8_one 21 = .ok (.iload_n 3, 1) := by decide +kernel
theorem dX8_one_22 : decode cX8_one 22 = .ok (.i2l, 1) := by decide +kernel
theorem dX8_one_23 : decode cX8_one 23 = .ok (.lconst 0, 1) := by decide +kernel
theorem dX8_one_24 : decode cX8_one 24 = .ok (.ldc2_w 88, 3) := by decide +kernel
theorem dX8_one_27 : decode cX8_one 27 = .ok (.invokestatic 80, 3) := by decide +kernel
theorem dX8_one_30 : decode cX8_one 30 = .ok (.ifCond .ne 6, 3) := by decide +kernel
theorem dX8_one_33 : decode cX8_one 33 = .ok (.bipush (-2), 2) := by decide +kernel
theorem dX8_one_35 : decode cX8_one 35 = .ok (.ireturn, 1) := by decide +kernel
theorem dX8_one_36 : decode cX8_one 36 = .ok (.sipush 10000, 3) := by decide +kernel
theorem dX8_one_39 : decode cX8_one 39 = .ok (.aload_n 0, 1) := by decide +kernel
theorem dX8_one_40 : decode cX8_one 40 = .ok (.getfield 7, 3) := by decide +kernel
theorem dX8_one_43 : decode cX8_one 43 = .ok (.iload_n 1, 1) := by decide +kernel
theorem dX8_one_44 : decode cX8_one 44 = .ok (.iaload, 1) := by decide +kernel
theorem dX8_one_45 : decode cX8_one 45 = .ok (.imul, 1) := by decide +kernel
theorem dX8_one_46 : decode cX8_one 46 = .ok (.aload_n 0, 1) := by decide +kernel
theorem dX8_one_47 : decode cX8_one 47 = .ok (.getfield 13, 3) := by decide +kernel
theorem dX8_one_50 : decode cX8_one 50 = .ok (.iload_n 1, 1) := by decide +kernel
theorem dX8_one_51 : decode cX8_one 51 = .ok (.iaload, 1) := by decide +kernel
theorem dX8_one_52 : decode cX8_one 52 = .ok (.iadd, 1) := by decide +kernel
theorem dX8_one_53 : decode cX8_one 53 = .ok (.istore 4, 2) := by decide +kernel
theorem dX8_one_55 : decode cX8_one 55 = .ok (.aload_n 0, 1) := by decide +kernel
theorem dX8_one_56 : decode cX8_one 56 = .ok (.getfield 7, 3) := by decide +kernel
theorem dX8_one_59 : decode cX8_one 59 = .ok (.iload_n 1, 1) := by decide +kernel
theorem dX8_one_60 : decode cX8_one 60 = .ok (.iload_n 2, 1) := by decide +kernel
theorem dX8_one_61 : decode cX8_one 61 = .ok (.iastore, 1) := by decide +kernel
theorem dX8_one_62 : decode cX8_one 62 = .ok (.aload_n 0, 1) := by decide +kernel
theorem dX8_one_63 : decode cX8_one 63 = .ok (.getfield 13, 3) := by decide +kernel
theorem dX8_one_66 : decode cX8_one 66 = .ok (.iload_n 1, 1) := by decide +kernel
theorem dX8_one_67 : decode cX8_one 67 = .ok (.iload_n 3, 1) := by decide +kernel
theorem dX8_one_68 : decode cX8_one 68 = .ok (.iastore, 1) := by decide +kernel
theorem dX8_one_69 : decode cX8_one 69 = .ok (.iload 4, 2) := by decide +kernel
theorem dX8_one_71 : decode cX8_one 71 = .ok (.ireturn, 1) := by decide +kernel
theorem dX8_owe_0 : decode cX8_owe 0 = .ok (.iload_n 1, 1) := by decide +kernel
theorem dX8_owe_1 : decode cX8_owe 1 = .ok (.invokestatic 84, 3) := by decide +kernel
theorem dX8_owe_4 : decode cX8_owe 4 = .ok (.ifCond .eq 15, 3) := by decide +kernel
theorem dX8_owe_7 : decode cX8_owe 7 = .ok (.iload_n 2, 1) := by decide +kernel
theorem dX8_owe_8 : decode cX8_owe 8 = .ok (.invokestatic 84, 3) := by decide +kernel
theorem dX8_owe_11 : decode cX8_owe 11 = .ok (.ifCond .eq 8, 3) := by decide +kernel
theorem dX8_owe_14 : decode cX8_owe 14 = .ok (.iload_n 1, 1) := by decide +kernel
theorem dX8_owe_15 : decode cX8_owe 15 = .ok (.iload_n 2, 1) := by decide +kernel
theorem dX8_owe_16 : decode cX8_owe 16 = .ok (.if_icmp .ne 5, 3) := by decide +kernel
theorem dX8_owe_19 : decode cX8_owe 19 = .ok (.iconst (-1), 1) := by decide +kernel
theorem dX8_owe_20 : decode cX8_owe 20 = .ok (.ireturn, 1) := by decide +kernel
theorem dX8_owe_21 : decode cX8_owe 21 = .ok (.iload_n 3, 1) := by decide +kernel
theorem dX8_owe_22 : decode cX8_owe 22 = .ok (.i2l, 1) := by decide +kernel
theorem dX8_owe_23 : decode cX8_owe 23 = .ok (.lconst 0, 1) := by decide +kernel
theorem dX8_owe_24 : decode cX8_owe 24 = .ok (.ldc2_w 90, 3) := by decide +kernel
theorem dX8_owe_27 : decode cX8_owe 27 = .ok (.invokestatic 80, 3) := by decide +kernel
theorem dX8_owe_30 : decode cX8_owe 30 = .ok (.ifCond .ne 6, 3) := by decide +kernel
theorem dX8_owe_33 : decode cX8_owe 33 = .ok (.bipush (-2), 2) := by decide +kernel
theorem dX8_owe_35 : decode cX8_owe 35 = .ok (.ireturn, 1) := by decide +kernel
theorem dX8_owe_36 : decode cX8_owe 36 = .ok (.aload_n 0, 1) := by decide +kernel
theorem dX8_owe_37 : decode cX8_owe 37 = .ok (.getfield 16, 3) := by decide +kernel
theorem dX8_owe_40 : decode cX8_owe 40 = .ok (.bipush 6, 2) := by decide +kernel
theorem dX8_owe_42 : decode cX8_owe 42 = .ok (.iload_n 1, 1) := by decide +kernel
theorem dX8_owe_43 : decode cX8_owe 43 = .ok (.imul, 1) := by decide +kernel
theorem dX8_owe_44 : decode cX8_owe 44 = .ok (.iload_n 2, 1) := by decide +kernel
theorem dX8_owe_45 : decode cX8_owe 45 = .ok (.iadd, 1) := by decide +kernel
theorem dX8_owe_46 : decode cX8_owe 46 = .ok (.iaload, 1) := by decide +kernel
theorem dX8_owe_47 : decode cX8_owe 47 = .ok (.istore 4, 2) := by decide +kernel
theorem dX8_owe_49 : decode cX8_owe 49 = .ok (.aload_n 0, 1) := by decide +kernel
theorem dX8_owe_50 : decode cX8_owe 50 = .ok (.getfield 16, 3) := by decide +kernel
theorem dX8_owe_53 : decode cX8_owe 53 = .ok (.bipush 6, 2) := by decide +kernel
theorem dX8_owe_55 : decode cX8_owe 55 = .ok (.iload_n 1, 1) := by decide +kernel
theorem dX8_owe_56 : decode cX8_owe 56 = .ok (.imul, 1) := by decide +kernel
theorem dX8_owe_57 : decode cX8_owe 57 = .ok (.iload_n 2, 1) := by decide +kernel
theorem dX8_owe_58 : decode cX8_owe 58 = .ok (.iadd, 1) := by decide +kernel
theorem dX8_owe_59 : decode cX8_owe 59 = .ok (.iload_n 3, 1) := by decide +kernel
theorem dX8_owe_60 : decode cX8_owe 60 = .ok (.iastore, 1) := by decide +kernel
theorem dX8_owe_61 : decode cX8_owe 61 = .ok (.iload 4, 2) := by decide +kernel
theorem dX8_owe_63 : decode cX8_owe 63 = .ok (.ireturn, 1) := by decide +kernel
theorem dX8_lot_0 : decode cX8_lot 0 = .ok (.iload_n 1, 1) := by decide +kernel
theorem dX8_lot_1 : decode cX8_lot 1 = .ok (.i2l, 1) := by decide +kernel
theorem dX8_lot_2 : decode cX8_lot 2 = .ok (.lconst 0, 1) := by decide +kernel
theorem dX8_lot_3 : decode cX8_lot 3 = .ok (.ldc2_w 92, 3) := by decide +kernel
theorem dX8_lot_6 : decode cX8_lot 6 = .ok (.invokestatic 80, 3) := by decide +kernel
theorem dX8_lot_9 : decode cX8_lot 9 = .ok (.ifCond .eq 17, 3) := by decide +kernel
theorem dX8_lot_12 : decode cX8_lot 12 = .ok (.iload_n 3, 1) := by decide +kernel
theorem dX8_lot_13 : decode cX8_lot 13 = .ok (.i2l, 1) := by decide +kernel
theorem dX8_lot_14 : decode cX8_lot 14 = .ok (.ldc2_w 94, 3) := by decide +kernel
theorem dX8_lot_17 : decode cX8_lot 17 = .ok (.ldc2_w 78, 3) := by decide +kernel
theorem dX8_lot_20 : decode cX8_lot 20 = .ok (.invokestatic 80, 3) := by decide +kernel
theorem dX8_lot_23 : decode cX8_lot 23 = .ok (.ifCond .ne 5, 3) := by decide +kernel
theorem dX8_lot_26 : decode cX8_lot 26 = .ok (.iconst (-1), 1) := by decide +kernel
theorem dX8_lot_27 : decode cX8_lot 27 = .ok (.ireturn, 1) := by decide +kernel
theorem dX8_lot_28 : decode cX8_lot 28 = .ok (.iload_n 2, 1) := by decide +kernel
theorem dX8_lot_29 : decode cX8_lot 29 = .ok (.i2l, 1) := by decide +kernel
theorem dX8_lot_30 : decode cX8_lot 30 = .ok (.lconst 1, 1) := by decide +kernel
theorem dX8_lot_31 : decode cX8_lot 31 = .ok (.ldc2_w 90, 3) := by decide +kernel
theorem dX8_lot_34 : decode cX8_lot 34 = .ok (.invokestatic 80, 3) := by decide +kernel
theorem dX8_lot_37 : decode cX8_lot 37 = .ok (.ifCond .ne 6, 3) := by decide +kernel
theorem dX8_lot_40 : decode cX8_lot 40 = .ok (.bipush (-2), 2) := by decide +kernel
theorem dX8_lot_42 : decode cX8_lot 42 = .ok (.ireturn, 1) := by decide +kernel
theorem dX8_lot_43 : decode cX8_lot 43 = .ok (.aload_n 0, 1) := by decide +kernel
theorem dX8_lot_44 : decode cX8_lot 44 = .ok (.getfield 19, 3) := by decide +kernel
theorem dX8_lot_47 : decode cX8_lot 47 = .ok (.iload_n 1, 1) := by decide +kernel
theorem dX8_lot_48 : decode cX8_lot 48 = .ok (.iaload, 1) := by decide +kernel
theorem dX8_lot_49 : decode cX8_lot 49 = .ok (.istore 4, 2) := by decide +kernel
theorem dX8_lot_51 : decode cX8_lot 51 = .ok (.aload_n 0, 1) := by decide +kernel
theorem dX8_lot_52 : decode cX8_lot 52 = .ok (.getfield 19, 3) := by decide +kernel
theorem dX8_lot_55 : decode cX8_lot 55 = .ok (.iload_n 1, 1) := by decide +kernel
theorem dX8_lot_56 : decode cX8_lot 56 = .ok (.iload_n 2, 1) := by decide +kernel
theorem dX8_lot_57 : decode cX8_lot 57 = .ok (.iastore, 1) := by decide +kernel
theorem dX8_lot_58 : decode cX8_lot 58 = .ok (.aload_n 0, 1) := by decide +kernel
theorem dX8_lot_59 : decode cX8_lot 59 = .ok (.getfield 22, 3) := by decide +kernel
theorem dX8_lot_62 : decode cX8_lot 62 = .ok (.iload_n 1, 1) := by decide +kernel
theorem dX8_lot_63 : decode cX8_lot 63 = .ok (.iload_n 3, 1) := by decide +kernel
theorem dX8_lot_64 : decode cX8_lot 64 = .ok (.ifCond .ge 8, 3) := by decide +kernel
theorem dX8_lot_67 : decode cX8_lot 67 = .ok (.bipush (-6), 2) := by decide +kernel
theorem dX8_lot_69 : decode cX8_lot 69 = .ok (.goto 4, 3) := by decide +kernel
theorem dX8_lot_72 : decode cX8_lot 72 = .ok (.iload_n 3, 1) := by decide +kernel
theorem dX8_lot_73 : decode cX8_lot 73 = .ok (.iastore, 1) := by decide +kernel
theorem dX8_lot_74 : decode cX8_lot 74 = .ok (.iload 4, 2) := by decide +kernel
theorem dX8_lot_76 : decode cX8_lot 76 = .ok (.ireturn, 1) := by decide +kernel
theorem dX8_set_0 : decode cX8_set 0 = .ok (.iload_n 1, 1) := by decide +kernel
theorem dX8_set_1 : decode cX8_set 1 = .ok (.i2l, 1) := by decide +kernel
theorem dX8_set_2 : decode cX8_set 2 = .ok (.lconst 0, 1) := by decide +kernel
theorem dX8_set_3 : decode cX8_set 3 = .ok (.lconst 1, 1) := by decide +kernel
theorem dX8_set_4 : decode cX8_set 4 = .ok (.invokestatic 80, 3) := by decide +kernel
theorem dX8_set_7 : decode cX8_set 7 = .ok (.ifCond .eq 15, 3) := by decide +kernel
theorem dX8_set_10 : decode cX8_set 10 = .ok (.iload_n 2, 1) := by decide +kernel
theorem dX8_set_11 : decode cX8_set 11 = .ok (.i2l, 1) := by decide +kernel
theorem dX8_set_12 : decode cX8_set 12 = .ok (.lconst 0, 1) := by decide +kernel
theorem dX8_set_13 : decode cX8_set 13 = .ok (.ldc2_w 96, 3) := by decide +kernel
theorem dX8_set_16 : decode cX8_set 16 = .ok (.invokestatic 80, 3) := by decide +kernel
theorem dX8_set_19 : decode cX8_set 19 = .ok (.ifCond .ne 6, 3) := by decide +kernel
theorem dX8_set_22 : decode cX8_set 22 = .ok (.bipush (-2), 2) := by decide +kernel
theorem dX8_set_24 : decode cX8_set 24 = .ok (.ireturn, 1) := by decide +kernel
theorem dX8_set_25 : decode cX8_set 25 = .ok (.iload_n 1, 1) := by decide +kernel
theorem dX8_set_26 : decode cX8_set 26 = .ok (.ifCond .ne 10, 3) := by decide +kernel
theorem dX8_set_29 : decode cX8_set 29 = .ok (.aload_n 0, 1) := by decide +kernel
theorem dX8_set_30 : decode cX8_set 30 = .ok (.getfield 98, 3) := by decide +kernel
theorem dX8_set_33 : decode cX8_set 33 = .ok (.goto 7, 3) := by decide +kernel
theorem dX8_set_36 : decode cX8_set 36 = .ok (.aload_n 0, 1) := by decide +kernel
theorem dX8_set_37 : decode cX8_set 37 = .ok (.getfield 102, 3) := by decide +kernel
theorem dX8_set_40 : decode cX8_set 40 = .ok (.istore_n 3, 1) := by decide +kernel
theorem dX8_set_41 : decode cX8_set 41 = .ok (.aload_n 0, 1) := by decide +kernel
theorem dX8_set_42 : decode cX8_set 42 = .ok (.iload_n 1, 1) := by decide +kernel
theorem dX8_set_43 : decode cX8_set 43 = .ok (.ifCond .ne 7, 3) := by decide +kernel
theorem dX8_set_46 : decode cX8_set 46 = .ok (.iload_n 2, 1) := by decide +kernel
theorem dX8_set_47 : decode cX8_set 47 = .ok (.goto 7, 3) := by decide +kernel
theorem dX8_set_50 : decode cX8_set 50 = .ok (.aload_n 0, 1) := by decide +kernel
theorem dX8_set_51 : decode cX8_set 51 = .ok (.getfield 98, 3) := by decide +kernel
theorem dX8_set_54 : decode cX8_set 54 = .ok (.putfield 98, 3) := by decide +kernel
theorem dX8_set_57 : decode cX8_set 57 = .ok (.aload_n 0, 1) := by decide +kernel
theorem dX8_set_58 : decode cX8_set 58 = .ok (.iload_n 1, 1) := by decide +kernel
theorem dX8_set_59 : decode cX8_set 59 = .ok (.iconst 1, 1) := by decide +kernel
theorem dX8_set_60 : decode cX8_set 60 = .ok (.if_icmp .ne 7, 3) := by decide +kernel
theorem dX8_set_63 : decode cX8_set 63 = .ok (.iload_n 2, 1) := by decide +kernel
theorem dX8_set_64 : decode cX8_set 64 = .ok (.goto 7, 3) := by decide +kernel
theorem dX8_set_67 : decode cX8_set 67 = .ok (.aload_n 0, 1) := by decide +kernel
theorem dX8_set_68 : decode cX8_set 68 = .ok (.getfield 102, 3) := by decide +kernel
theorem dX8_set_71 : decode cX8_set 71 = .ok (.putfield 102, 3) := by decide +kernel
theorem dX8_set_74 : decode cX8_set 74 = .ok (.iload_n 3, 1) := by decide +kernel
theorem dX8_set_75 : decode cX8_set 75 = .ok (.ireturn, 1) := by decide +kernel
theorem dX8_say_0 : decode cX8_say 0 = .ok (.iload_n 1, 1) := by decide +kernel
theorem dX8_say_1 : decode cX8_say 1 = .ok (.i2l, 1) := by decide +kernel
theorem dX8_say_2 : decode cX8_say 2 = .ok (.ldc2_w 105, 3) := by decide +kernel
theorem dX8_say_5 : decode cX8_say 5 = .ok (.ldc2_w 107, 3) := by decide +kernel
theorem dX8_say_8 : decode cX8_say 8 = .ok (.invokestatic 80, 3) := by decide +kernel
theorem dX8_say_11 : decode cX8_say 11 = .ok (.ifCond .ne 6, 3) := by decide +kernel
theorem dX8_say_14 : decode cX8_say 14 = .ok (.bipush (-2), 2) := by decide +kernel
theorem dX8_say_16 : decode cX8_say 16 = .ok (.ireturn, 1) := by decide +kernel
theorem dX8_say_17 : decode cX8_say 17 = .ok (.aload_n 0, 1) := by decide +kernel
theorem dX8_say_18 : decode cX8_say 18 = .ok (.getfield 109, 3) := by decide +kernel
theorem dX8_say_21 : decode cX8_say 21 = .ok (.bipush 60, 2) := by decide +kernel
theorem dX8_say_23 : decode cX8_say 23 = .ok (.if_icmp .ne 6, 3) := by decide +kernel
theorem dX8_say_26 : decode cX8_say 26 = .ok (.bipush (-4), 2) := by decide +kernel
theorem dX8_say_28 : decode cX8_say 28 = .ok (.ireturn, 1) := by decide +kernel
theorem dX8_say_29 : decode cX8_say 29 = .ok (.aload_n 0, 1) := by decide +kernel
theorem dX8_say_30 : decode cX8_say 30 = .ok (.getfield 34, 3) := by decide +kernel
theorem dX8_say_33 : decode cX8_say 33 = .ok (.aload_n 0, 1) := by decide +kernel
theorem dX8_say_34 : decode cX8_say 34 = .ok (.getfield 109, 3) := by decide +kernel
theorem dX8_say_37 : decode cX8_say 37 = .ok (.iload_n 1, 1) := by decide +kernel
theorem dX8_say_38 : decode cX8_say 38 = .ok (.iastore, 1) := by decide +kernel
theorem dX8_say_39 : decode cX8_say 39 = .ok (.aload_n 0, 1) := by decide +kernel
theorem dX8_say_40 : decode cX8_say 40 = .ok (.dup, 1) := by decide +kernel
theorem dX8_say_41 : decode cX8_say 41 = .ok (.getfield 109, 3) := by decide +kernel
theorem dX8_say_44 : decode cX8_say 44 = .ok (.iconst 1, 1) := by decide +kernel
theorem dX8_say_45 : decode cX8_say 45 = .ok (.iadd, 1) := by decide +kernel
theorem dX8_say_46 : decode cX8_say 46 = .ok (.putfield 109, 3) := by decide +kernel
theorem dX8_say_49 : decode cX8_say 49 = .ok (.aload_n 0, 1) := by decide +kernel
theorem dX8_say_50 : decode cX8_say 50 = .ok (.getfield 109, 3) := by decide +kernel
theorem dX8_say_53 : decode cX8_say 53 = .ok (.ireturn, 1) := by decide +kernel
theorem dX8_wipe_0 : decode cX8_wipe 0 = .ok (.aload_n 0, 1) := by decide +kernel
theorem dX8_wipe_1 : decode cX8_wipe 1 = .ok (.getfield 109, 3) := by decide +kernel
theorem dX8_wipe_4 : decode cX8_wipe 4 = .ok (.istore_n 1, 1) := by decide +kernel
theorem dX8_wipe_5 : decode cX8_wipe 5 = .ok (.aload_n 0, 1) := by decide +kernel
theorem dX8_wipe_6 : decode cX8_wipe 6 = .ok (.iconst 0, 1) := by decide +kernel
theorem dX8_wipe_7 : decode cX8_wipe 7 = .ok (.putfield 109, 3) := by decide +kernel
theorem dX8_wipe_10 : decode cX8_wipe 10 = .ok (.iload_n 1, 1) := by decide +kernel
theorem dX8_wipe_11 : decode cX8_wipe 11 = .ok (.ireturn, 1) := by decide +kernel
theorem dX8_close_0 : decode cX8_close 0 = .ok (.aload_n 0, 1) := by decide +kernel
theorem dX8_close_1 : decode cX8_close 1 = .ok (.getfield 37, 3) := by decide +kernel
theorem dX8_close_4 : decode cX8_close 4 = .ok (.aload_n 0, 1) := by decide +kernel
theorem dX8_close_5 : decode cX8_close 5 = .ok (.getfield 112, 3) := by decide +kernel
theorem dX8_close_8 : decode cX8_close 8 = .ok (.iload_n 1, 1) := by decide +kernel
theorem dX8_close_9 : decode cX8_close 9 = .ok (.iastore, 1) := by decide +kernel
theorem dX8_close_10 : decode cX8_close 10 = .ok (.aload_n 0, 1) := by decide +kernel
theorem dX8_close_11 : decode cX8_close 11 = .ok (.getfield 43, 3) := by decide +kernel
theorem dX8_close_14 : decode cX8_close 14 = .ok (.aload_n 0, 1) := by decide +kernel
theorem dX8_close_15 : decode cX8_close 15 = .ok (.getfield 112, 3) := by decide +kernel
theorem dX8_close_18 : decode cX8_close 18 = .ok (.iload_n 2, 1) := by decide +kernel
theorem dX8_close_19 : decode cX8_close 19 = .ok (.iastore, 1) := by decide +kernel
theorem dX8_close_20 : decode cX8_close 20 = .ok (.aload_n 0, 1) := by decide +kernel
theorem dX8_close_21 : decode cX8_close 21 = .ok (.dup, 1) := by decide +kernel
theorem dX8_close_22 : decode cX8_close 22 = .ok (.getfield 112, 3) := by decide +kernel
theorem dX8_close_25 : decode cX8_close 25 = .ok (.iconst 1, 1) := by decide +kernel
theorem dX8_close_26 : decode cX8_close 26 = .ok (.iadd, 1) := by decide +kernel
theorem dX8_close_27 : decode cX8_close 27 = .ok (.putfield 112, 3) := by decide +kernel
theorem dX8_close_30 : decode cX8_close 30 = .ok (.iconst 0, 1) := by decide +kernel
theorem dX8_close_31 : decode cX8_close 31 = .ok (.ireturn, 1) := by decide +kernel
theorem dX8_isLetter_0 : decode cX8_isLetter 0 = .ok (.iload_n 0, 1) := by decide +kernel
theorem dX8_isLetter_1 : decode cX8_isLetter 1 = .ok (.i2l, 1) := by decide +kernel
theorem dX8_isLetter_2 : decode cX8_isLetter 2 = .ok (.ldc2_w 115, 3) := by decide +kernel
theorem dX8_isLetter_5 : decode cX8_isLetter 5 = .ok (.ldc2_w 117, 3) := by decide +kernel
theorem dX8_isLetter_8 : decode cX8_isLetter 8 = .ok (.invokestatic 80, 3) := by decide +kernel
theorem dX8_isLetter_11 : decode cX8_isLetter 11 = .ok (.ireturn, 1) := by decide +kernel
theorem dX8_begin_0 : decode cX8_begin 0 = .ok (.aload_n 0, 1) := by decide +kernel
theorem dX8_begin_1 : decode cX8_begin 1 = .ok (.getfield 40, 3) := by decide +kernel
theorem dX8_begin_4 : decode cX8_begin 4 = .ok (.aload_n 0, 1) := by decide +kernel
theorem dX8_begin_5 : decode cX8_begin 5 = .ok (.getfield 112, 3) := by decide +kernel
theorem dX8_begin_8 : decode cX8_begin 8 = .ok (.iload_n 1, 1) := by decide +kernel
theorem dX8_begin_9 : decode cX8_begin 9 = .ok (.invokestatic 119, 3) := by decide +kernel
theorem dX8_begin_12 : decode cX8_begin 12 = .ok (.ifCond .eq 10, 3) := by decide +kernel
theorem dX8_begin_15 : decode cX8_begin 15 = .ok (.iload_n 1, 1) := by decide +kernel
theorem dX8_begin_16 : decode cX8_begin 16 = .ok (.bipush 65, 2) := by decide +kernel
theorem dX8_begin_18 : decode cX8_begin 18 = .ok (.isub, 1) := by decide +kernel
theorem dX8_begin_19 : decode cX8_begin 19 = .ok (.goto 4, 3) := by decide +kernel
theorem dX8_begin_22 : decode cX8_begin 22 = .ok (.iconst 0, 1) := by decide +kernel
theorem dX8_begin_23 : decode cX8_begin 23 = .ok (.iastore, 1) := by decide +kernel
theorem dX8_begin_24 : decode cX8_begin 24 = .ok (.iload_n 1, 1) := by decide +kernel
theorem dX8_begin_25 : decode cX8_begin 25 = .ok (.lookupswitch 47 #[(33, 37), (43, 35), (46, 39)], 35) := by decide +kernel
theorem dX8_begin_60 : decode cX8_begin 60 = .ok (.iconst 2, 1) := by decide +kernel
theorem dX8_begin_61 : decode cX8_begin 61 = .ok (.ireturn, 1) := by decide +kernel
theorem dX8_begin_62 : decode cX8_begin 62 = .ok (.iconst 3, 1) := by decide +kernel
theorem dX8_begin_63 : decode cX8_begin 63 = .ok (.ireturn, 1) := by decide +kernel
theorem dX8_begin_64 : decode cX8_begin 64 = .ok (.aload_n 0, 1) := by decide +kernel
theorem dX8_begin_65 : decode cX8_begin 65 = .ok (.bipush 6, 2) := by decide +kernel
theorem dX8_begin_67 : decode cX8_begin 67 = .ok (.iconst 0, 1) := by decide +kernel
theorem dX8_begin_68 : decode cX8_begin 68 = .ok (.invokevirtual 122, 3) := by decide +kernel
theorem dX8_begin_71 : decode cX8_begin 71 = .ok (.ireturn, 1) := by decide +kernel
theorem dX8_begin_72 : decode cX8_begin 72 = .ok (.iload_n 1, 1) := by decide +kernel
theorem dX8_begin_73 : decode cX8_begin 73 = .ok (.invokestatic 119, 3) := by decide +kernel
theorem dX8_begin_76 : decode cX8_begin 76 = .ok (.ifCond .eq 7, 3) := by decide +kernel
theorem dX8_begin_79 : decode cX8_begin 79 = .ok (.iconst 1, 1) := by decide +kernel
theorem dX8_begin_80 : decode cX8_begin 80 = .ok (.goto 5, 3) := by decide +kernel
theorem dX8_begin_83 : decode cX8_begin 83 = .ok (.bipush (-6), 2) := by decide +kernel
theorem dX8_begin_85 : decode cX8_begin 85 = .ok (.ireturn, 1) := by decide +kernel
theorem dX8_deed_0 : decode cX8_deed 0 = .ok (.iload_n 0, 1) := by decide +kernel
theorem dX8_deed_1 : decode cX8_deed 1 = .ok (.lookupswitch 54 #[(36, 43), (47, 45), (62, 48), (64, 51)], 43) := by decide +kernel
theorem dX8_deed_44 : decode cX8_deed 44 = .ok (.iconst 5, 1) := by decide +kernel
theorem dX8_deed_45 : decode cX8_deed 45 = .ok (.ireturn, 1) := by decide +kernel
theorem dX8_deed_46 : decode cX8_deed 46 = .ok (.bipush 6, 2) := by decide +kernel
theorem dX8_deed_48 : decode cX8_deed 48 = .ok (.ireturn, 1) := by decide +kernel
theorem dX8_deed_49 : decode cX8_deed 49 = .ok (.bipush 7, 2) := by decide +kernel
theorem dX8_deed_51 : decode cX8_deed 51 = .ok (.ireturn, 1) := by decide +kernel
theorem dX8_deed_52 : decode cX8_deed 52 = .ok (.bipush 8, 2) := by decide +kernel
theorem dX8_deed_54 : decode cX8_deed 54 = .ok (.ireturn, 1) := by decide +kernel
theorem dX8_deed_55 : decode cX8_deed 55 = .ok (.bipush (-6), 2) := by decide +kernel
theorem dX8_deed_57 : decode cX8_deed 57 = .ok (.ireturn, 1) := by decide +kernel
theorem dX8_forWhom_0 : decode cX8_forWhom 0 = .ok (.aload_n 0, 1) := by decide +kernel
theorem dX8_forWhom_1 : decode cX8_forWhom 1 = .ok (.getfield 40, 3) := by decide +kernel
theorem dX8_forWhom_4 : decode cX8_forWhom 4 = .ok (.aload_n 0, 1) := by decide +kernel
theorem dX8_forWhom_5 : decode cX8_forWhom 5 = .ok (.getfield 112, 3) := by decide +kernel
theorem dX8_forWhom_8 : decode cX8_forWhom 8 = .ok (.iload_n 1, 1) := by decide +kernel
theorem dX8_forWhom_9 : decode cX8_forWhom 9 = .ok (.bipush 65, 2) := by decide +kernel
theorem dX8_forWhom_11 : decode cX8_forWhom 11 = .ok (.isub, 1) := by decide +kernel
theorem dX8_forWhom_12 : decode cX8_forWhom 12 = .ok (.iastore, 1) := by decide +kernel
theorem dX8_forWhom_13 : decode cX8_forWhom 13 = .ok (.iload_n 1, 1) := by decide +kernel
theorem dX8_forWhom_14 : decode cX8_forWhom 14 = .ok (.invokestatic 119, 3) := by decide +kernel
theorem dX8_forWhom_17 : decode cX8_forWhom 17 = .ok (.ifCond .eq 7, 3) := by decide +kernel
theorem dX8_forWhom_20 : decode cX8_forWhom 20 = .ok (.iconst 4, 1) := by decide +kernel
theorem dX8_forWhom_21 : decode cX8_forWhom 21 = .ok (.goto 5, 3) := by decide +kernel
theorem dX8_forWhom_24 : decode cX8_forWhom 24 = .ok (.bipush (-6), 2) := by decide +kernel
theorem dX8_forWhom_26 : decode cX8_forWhom 26 = .ok (.ireturn, 1) := by decide +kernel
theorem dX8_number_0 : decode cX8_number 0 = .ok (.iload_n 2, 1) := by decide +kernel
theorem dX8_number_1 : decode cX8_number 1 = .ok (.i2l, 1) := by decide +kernel
theorem dX8_number_2 : decode cX8_number 2 = .ok (.ldc2_w 126, 3) := by decide +kernel
theorem dX8_number_5 : decode cX8_number 5 = .ok (.ldc2_w 128, 3) := by decide +kernel
theorem dX8_number_8 : decode cX8_number 8 = .ok (.invokestatic 80, 3) := by decide +kernel
theorem dX8_number_11 : decode cX8_number 11 = .ok (.ifCond .eq 17, 3) := by decide +kernel
theorem dX8_number_14 : decode cX8_number 14 = .ok (.aload_n 0, 1) := by decide +kernel
theorem dX8_number_15 : decode cX8_number 15 = .ok (.iload_n 1, 1) := by decide +kernel
theorem dX8_number_16 : decode cX8_number 16 = .ok (.iload_n 3, 1) := by decide +kernel
theorem dX8_number_17 : decode cX8_number 17 = .ok (.iload_n 2, 1) := by decide +kernel
theorem dX8_number_18 : decode cX8_number 18 = .ok (.bipush 48, 2) := by decide +kernel
theorem dX8_number_20 : decode cX8_number 20 = .ok (.isub, 1) := by decide +kernel
theorem dX8_number_21 : decode cX8_number 21 = .ok (.imul, 1) := by decide +kernel
theorem dX8_number_22 : decode cX8_number 22 = .ok (.invokevirtual 122, 3) := by decide +kernel
theorem dX8_number_25 : decode cX8_number 25 = .ok (.goto 5, 3) := by decide +kernel
theorem dX8_number_28 : decode cX8_number 28 = .ok (.bipush (-6), 2) := by decide +kernel
theorem dX8_number_30 : decode cX8_number 30 = .ok (.ireturn, 1) := by decide +kernel
theorem dX8_readOn_0 : decode cX8_readOn 0 = .ok (.iload_n 1, 1) := by decide +kernel
theorem dX8_readOn_1 : decode cX8_readOn 1 = .ok (.tableswitch 142 0 7 #[47, 53, 58, 67, 73, 82, 111, 120], 47) := by decide +kernel
theorem dX8_readOn_48 : decode cX8_readOn 48 = .ok (.aload_n 0, 1) := by decide +kernel
theorem dX8_readOn_49 : decode cX8_readOn 49 = .ok (.iload_n 2, 1) := by decide +kernel
theorem dX8_readOn_50 : decode cX8_readOn 50 = .ok (.invokevirtual 130, 3) := by decide +kernel
theorem dX8_readOn_53 : decode cX8_readOn 53 = .ok (.ireturn, 1) := by decide +kernel
theorem dX8_readOn_54 : decode cX8_readOn 54 = .ok (.iload_n 2, 1) := by decide +kernel
theorem dX8_readOn_55 : decode cX8_readOn 55 = .ok (.invokestatic 134, 3) := by decide +kernel
theorem dX8_readOn_58 : decode cX8_readOn 58 = .ok (.ireturn, 1) := by decide +kernel
theorem dX8_readOn_59 : decode cX8_readOn 59 = .ok (.aload_n 0, 1) := by decide +kernel
theorem dX8_readOn_60 : decode cX8_readOn 60 = .ok (.iconst 0, 1) := by decide +kernel
theorem dX8_readOn_61 : decode cX8_readOn 61 = .ok (.iload_n 2, 1) := by decide +kernel
theorem dX8_readOn_62 : decode cX8_readOn 62 = .ok (.bipush 100, 2) := by decide +kernel
theorem dX8_readOn_64 : decode cX8_readOn 64 = .ok (.invokevirtual 137, 3) := by decide +kernel
theorem dX8_readOn_67 : decode cX8_readOn 67 = .ok (.ireturn, 1) := by decide +kernel
theorem dX8_readOn_68 : decode cX8_readOn 68 = .ok (.aload_n 0, 1) := by decide +kernel
theorem dX8_readOn_69 : decode cX8_readOn 69 = .ok (.iload_n 2, 1) := by decide +kernel
theorem dX8_readOn_70 : decode cX8_readOn 70 = .ok (.invokevirtual 141, 3) := by decide +kernel
theorem dX8_readOn_73 : decode cX8_readOn 73 = .ok (.ireturn, 1) := by decide +kernel
theorem dX8_readOn_74 : decode cX8_readOn 74 = .ok (.aload_n 0, 1) := by decide +kernel
theorem dX8_readOn_75 : decode cX8_readOn 75 = .ok (.iconst 1, 1) := by decide +kernel
theorem dX8_readOn_76 : decode cX8_readOn 76 = .ok (.iload_n 2, 1) := by decide +kernel
theorem dX8_readOn_77 : decode cX8_readOn 77 = .ok (.bipush 100, 2) := by decide +kernel
theorem dX8_readOn_79 : decode cX8_readOn 79 = .ok (.invokevirtual 137, 3) := by decide +kernel
theorem dX8_readOn_82 : decode cX8_readOn 82 = .ok (.ireturn, 1) := by decide +kernel
theorem dX8_readOn_83 : decode cX8_readOn 83 = .ok (.iload_n 2, 1) := by decide +kernel
theorem dX8_readOn_84 : decode cX8_readOn 84 = .ok (.i2l, 1) := by decide +kernel
theorem dX8_readOn_85 : decode cX8_readOn 85 = .ok (.ldc2_w 144, 3) := by decide +kernel
theorem dX8_readOn_88 : decode cX8_readOn 88 = .ok (.ldc2_w 146, 3) := by decide +kernel
theorem dX8_readOn_91 : decode cX8_readOn 91 = .ok (.invokestatic 80, 3) := by decide +kernel
theorem dX8_readOn_94 : decode cX8_readOn 94 = .ok (.ifCond .eq 15, 3) := by decide +kernel
theorem dX8_readOn_97 : decode cX8_readOn 97 = .ok (.aload_n 0, 1) := by decide +kernel
theorem dX8_readOn_98 : decode cX8_readOn 98 = .ok (.iconst 2, 1) := by decide +kernel
theorem dX8_readOn_99 : decode cX8_readOn 99 = .ok (.iload_n 2, 1) := by decide +kernel
theorem dX8_readOn_100 : decode cX8_readOn 100 = .ok (.bipush 48, 2) := by decide +kernel
theorem dX8_readOn_102 : decode cX8_readOn 102 = .ok (.isub, 1) := by decide +kernel
theorem dX8_readOn_103 : decode cX8_readOn 103 = .ok (.invokevirtual 122, 3) := by decide +kernel
theorem dX8_readOn_106 : decode cX8_readOn 106 = .ok (.goto 5, 3) := by decide +kernel
theorem dX8_readOn_109 : decode cX8_readOn 109 = .ok (.bipush (-6), 2) := by decide +kernel
theorem dX8_readOn_111 : decode cX8_readOn 111 = .ok (.ireturn, 1) := by decide +kernel
theorem dX8_readOn_112 : decode cX8_readOn 112 = .ok (.aload_n 0, 1) := by decide +kernel
theorem dX8_readOn_113 : decode cX8_readOn 113 = .ok (.iconst 3, 1) := by decide +kernel
theorem dX8_readOn_114 : decode cX8_readOn 114 = .ok (.iload_n 2, 1) := by decide +kernel
theorem dX8_readOn_115 : decode cX8_readOn 115 = .ok (.bipush 10, 2) := by decide +kernel
theorem dX8_readOn_117 : decode cX8_readOn 117 = .ok (.invokevirtual 137, 3) := by decide +kernel
theorem dX8_readOn_120 : decode cX8_readOn 120 = .ok (.ireturn, 1) := by decide +kernel
theorem dX8_readOn_121 : decode cX8_readOn 121 = .ok (.iload_n 2, 1) := by decide +kernel
theorem dX8_readOn_122 : decode cX8_readOn 122 = .ok (.invokestatic 119, 3) := by decide +kernel
theorem dX8_readOn_125 : decode cX8_readOn 125 = .ok (.ifCond .eq 15, 3) := by decide +kernel
theorem dX8_readOn_128 : decode cX8_readOn 128 = .ok (.aload_n 0, 1) := by decide +kernel
theorem dX8_readOn_129 : decode cX8_readOn 129 = .ok (.iconst 4, 1) := by decide +kernel
theorem dX8_readOn_130 : decode cX8_readOn 130 = .ok (.iload_n 2, 1) := by decide +kernel
theorem dX8_readOn_131 : decode cX8_readOn 131 = .ok (.bipush 65, 2) := by decide +kernel
theorem dX8_readOn_133 : decode cX8_readOn 133 = .ok (.isub, 1) := by decide +kernel
theorem dX8_readOn_134 : decode cX8_readOn 134 = .ok (.invokevirtual 122, 3) := by decide +kernel
theorem dX8_readOn_137 : decode cX8_readOn 137 = .ok (.goto 5, 3) := by decide +kernel
theorem dX8_readOn_140 : decode cX8_readOn 140 = .ok (.bipush (-6), 2) := by decide +kernel
theorem dX8_readOn_142 : decode cX8_readOn 142 = .ok (.ireturn, 1) := by decide +kernel
theorem dX8_readOn_143 : decode cX8_readOn 143 = .ok (.aload_n 0, 1) := by decide +kernel
theorem dX8_readOn_144 : decode cX8_readOn 144 = .ok (.iconst 5, 1) := by decide +kernel
theorem dX8_readOn_145 : decode cX8_readOn 145 = .ok (.iload_n 2, 1) := by decide +kernel
theorem dX8_readOn_146 : decode cX8_readOn 146 = .ok (.bipush 100, 2) := by decide +kernel
theorem dX8_readOn_148 : decode cX8_readOn 148 = .ok (.invokevirtual 137, 3) := by decide +kernel
theorem dX8_readOn_151 : decode cX8_readOn 151 = .ok (.ireturn, 1) := by decide +kernel
theorem dX8_fault_0 : decode cX8_fault 0 = .ok (.aload_n 0, 1) := by decide +kernel
theorem dX8_fault_1 : decode cX8_fault 1 = .ok (.iconst 0, 1) := by decide +kernel
theorem dX8_fault_2 : decode cX8_fault 2 = .ok (.putfield 112, 3) := by decide +kernel
theorem dX8_fault_5 : decode cX8_fault 5 = .ok (.iconst 0, 1) := by decide +kernel
theorem dX8_fault_6 : decode cX8_fault 6 = .ok (.istore_n 1, 1) := by decide +kernel
theorem dX8_fault_7 : decode cX8_fault 7 = .ok (.iconst 0, 1) := by decide +kernel
theorem dX8_fault_8 : decode cX8_fault 8 = .ok (.istore_n 2, 1) := by decide +kernel
theorem dX8_fault_9 : decode cX8_fault 9 = .ok (.iload_n 2, 1) := by decide +kernel
theorem dX8_fault_10 : decode cX8_fault 10 = .ok (.aload_n 0, 1) := by decide +kernel
theorem dX8_fault_11 : decode cX8_fault 11 = .ok (.getfield 109, 3) := by decide +kernel
theorem dX8_fault_14 : decode cX8_fault 14 = .ok (.if_icmp .ge 27, 3) := by decide +kernel
theorem dX8_fault_17 : decode cX8_fault 17 = .ok (.aload_n 0, 1) := by decide +kernel
theorem dX8_fault_18 : decode cX8_fault 18 = .ok (.iload_n 1, 1) := by decide +kernel
theorem dX8_fault_19 : decode cX8_fault 19 = .ok (.aload_n 0, 1) := by decide +kernel
theorem dX8_fault_20 : decode cX8_fault 20 = .ok (.getfield 34, 3) := by decide +kernel
theorem dX8_fault_23 : decode cX8_fault 23 = .ok (.iload_n 2, 1) := by decide +kernel
theorem dX8_fault_24 : decode cX8_fault 24 = .ok (.iaload, 1) := by decide +kernel
theorem dX8_fault_25 : decode cX8_fault 25 = .ok (.invokevirtual 148, 3) := by decide +kernel
theorem dX8_fault_28 : decode cX8_fault 28 = .ok (.istore_n 1, 1) := by decide +kernel
theorem dX8_fault_29 : decode cX8_fault 29 = .ok (.iload_n 1, 1) := by decide +kernel
theorem dX8_fault_30 : decode cX8_fault 30 = .ok (.ifCond .ge 5, 3) := by decide +kernel
theorem dX8_fault_33 : decode cX8_fault 33 = .ok (.iload_n 2, 1) := by decide +kernel
theorem dX8_fault_34 : decode cX8_fault 34 = .ok (.ireturn, 1) := by decide +kernel
theorem dX8_fault_35 : decode cX8_fault 35 = .ok (.iinc 2 1, 3) := by decide +kernel
theorem dX8_fault_38 : decode cX8_fault 38 = .ok (.goto (-29), 3) := by decide +kernel
theorem dX8_fault_41 : decode cX8_fault 41 = .ok (.iload_n 1, 1) := by decide +kernel
theorem dX8_fault_42 : decode cX8_fault 42 = .ok (.ifCond .ne 8, 3) := by decide +kernel
theorem dX8_fault_45 : decode cX8_fault 45 = .ok (.bipush (-6), 2) := by decide +kernel
theorem dX8_fault_47 : decode cX8_fault 47 = .ok (.goto 7, 3) := by decide +kernel
theorem dX8_fault_50 : decode cX8_fault 50 = .ok (.aload_n 0, 1) := by decide +kernel
theorem dX8_fault_51 : decode cX8_fault 51 = .ok (.getfield 109, 3) := by decide +kernel
theorem dX8_fault_54 : decode cX8_fault 54 = .ok (.ireturn, 1) := by decide +kernel
theorem dX8_notes_0 : decode cX8_notes 0 = .ok (.aload_n 0, 1) := by decide +kernel
theorem dX8_notes_1 : decode cX8_notes 1 = .ok (.getfield 98, 3) := by decide +kernel
theorem dX8_notes_4 : decode cX8_notes 4 = .ok (.istore_n 1, 1) := by decide +kernel
theorem dX8_notes_5 : decode cX8_notes 5 = .ok (.iconst 0, 1) := by decide +kernel
theorem dX8_notes_6 : decode cX8_notes 6 = .ok (.istore_n 2, 1) := by decide +kernel
theorem dX8_notes_7 : decode cX8_notes 7 = .ok (.iload_n 2, 1) := by decide +kernel
theorem dX8_notes_8 : decode cX8_notes 8 = .ok (.bipush 6, 2) := by decide +kernel
theorem dX8_notes_10 : decode cX8_notes 10 = .ok (.if_icmp .ge 18, 3) := by decide +kernel
theorem dX8_notes_13 : decode cX8_notes 13 = .ok (.iload_n 1, 1) := by decide +kernel
theorem dX8_notes_14 : decode cX8_notes 14 = .ok (.aload_n 0, 1) := by decide +kernel
theorem dX8_notes_15 : decode cX8_notes 15 = .ok (.getfield 7, 3) := by decide +kernel
theorem dX8_notes_18 : decode cX8_notes 18 = .ok (.iload_n 2, 1) := by decide +kernel
theorem dX8_notes_19 : decode cX8_notes 19 = .ok (.iaload, 1) := by decide +kernel
theorem dX8_notes_20 : decode cX8_notes 20 = .ok (.iadd, 1) := by decide +kernel
theorem dX8_notes_21 : decode cX8_notes 21 = .ok (.istore_n 1, 1) := by decide +kernel
theorem dX8_notes_22 : decode cX8_notes 22 = .ok (.iinc 2 1, 3) := by decide +kernel
theorem dX8_notes_25 : decode cX8_notes 25 = .ok (.goto (-18), 3) := by decide +kernel
theorem dX8_notes_28 : decode cX8_notes 28 = .ok (.iload_n 1, 1) := by decide +kernel
theorem dX8_notes_29 : decode cX8_notes 29 = .ok (.ireturn, 1) := by decide +kernel
theorem dX8_land_0 : decode cX8_land 0 = .ok (.iconst 0, 1) := by decide +kernel
theorem dX8_land_1 : decode cX8_land 1 = .ok (.istore_n 1, 1) := by decide +kernel
theorem dX8_land_2 : decode cX8_land 2 = .ok (.iconst 0, 1) := by decide +kernel
theorem dX8_land_3 : decode cX8_land 3 = .ok (.istore_n 2, 1) := by decide +kernel
theorem dX8_land_4 : decode cX8_land 4 = .ok (.iload_n 2, 1) := by decide +kernel
theorem dX8_land_5 : decode cX8_land 5 = .ok (.bipush 8, 2) := by decide +kernel
theorem dX8_land_7 : decode cX8_land 7 = .ok (.if_icmp .ge 31, 3) := by decide +kernel
theorem dX8_land_10 : decode cX8_land 10 = .ok (.iload_n 1, 1) := by decide +kernel
theorem dX8_land_11 : decode cX8_land 11 = .ok (.aload_n 0, 1) := by decide +kernel
theorem dX8_land_12 : decode cX8_land 12 = .ok (.getfield 22, 3) := by decide +kernel
theorem dX8_land_15 : decode cX8_land 15 = .ok (.iload_n 2, 1) := by decide +kernel
theorem dX8_land_16 : decode cX8_land 16 = .ok (.iaload, 1) := by decide +kernel
theorem dX8_land_17 : decode cX8_land 17 = .ok (.ifCond .ge 12, 3) := by decide +kernel
theorem dX8_land_20 : decode cX8_land 20 = .ok (.aload_n 0, 1) := by decide +kernel
theorem dX8_land_21 : decode cX8_land 21 = .ok (.getfield 19, 3) := by decide +kernel
theorem dX8_land_24 : decode cX8_land 24 = .ok (.iload_n 2, 1) := by decide +kernel
theorem dX8_land_25 : decode cX8_land 25 = .ok (.iaload, 1) := by decide +kernel
theorem dX8_land_26 : decode cX8_land 26 = .ok (.goto 4, 3) := by decide +kernel
theorem dX8_land_29 : decode cX8_land 29 = .ok (.iconst 0, 1) := by decide +kernel
theorem dX8_land_30 : decode cX8_land 30 = .ok (.iadd, 1) := by decide +kernel
theorem dX8_land_31 : decode cX8_land 31 = .ok (.istore_n 1, 1) := by decide +kernel
theorem dX8_land_32 : decode cX8_land 32 = .ok (.iinc 2 1, 3) := by decide +kernel
theorem dX8_land_35 : decode cX8_land 35 = .ok (.goto (-31), 3) := by decide +kernel
theorem dX8_land_38 : decode cX8_land 38 = .ok (.iload_n 1, 1) := by decide +kernel
theorem dX8_land_39 : decode cX8_land 39 = .ok (.ireturn, 1) := by decide +kernel
theorem dX8_rateOf_0 : decode cX8_rateOf 0 = .ok (.lload_n 1, 1) := by decide +kernel
theorem dX8_rateOf_1 : decode cX8_rateOf 1 = .ok (.lconst 0, 1) := by decide +kernel
theorem dX8_rateOf_2 : decode cX8_rateOf 2 = .ok (.lcmp, 1) := by decide +kernel
theorem dX8_rateOf_3 : decode cX8_rateOf 3 = .ok (.ifCond .ne 9, 3) := by decide +kernel
theorem dX8_rateOf_6 : decode cX8_rateOf 6 = .ok (.ldc2_w 151, 3) := by decide +kernel
theorem dX8_rateOf_9 : decode cX8_rateOf 9 = .ok (.goto 11, 3) := by decide +kernel
theorem dX8_rateOf_12 : decode cX8_rateOf 12 = .ok (.ldc2_w 151, 3) := by decide +kernel
theorem dX8_rateOf_15 : decode cX8_rateOf 15 = .ok (.iload_n 0, 1) := by decide +kernel
theorem dX8_rateOf_16 : decode cX8_rateOf 16 = .ok (.i2l, 1) := by decide +kernel
theorem dX8_rateOf_17 : decode cX8_rateOf 17 = .ok (.lmul, 1) := by decide +kernel
theorem dX8_rateOf_18 : decode cX8_rateOf 18 = .ok (.lload_n 1, 1) := by decide +kernel
theorem dX8_rateOf_19 : decode cX8_rateOf 19 = .ok (.ldiv, 1) := by decide +kernel
theorem dX8_rateOf_20 : decode cX8_rateOf 20 = .ok (.lstore_n 3, 1) := by decide +kernel
theorem dX8_rateOf_21 : decode cX8_rateOf 21 = .ok (.lload_n 3, 1) := by decide +kernel
theorem dX8_rateOf_22 : decode cX8_rateOf 22 = .ok (.ldc2_w 151, 3) := by decide +kernel
theorem dX8_rateOf_25 : decode cX8_rateOf 25 = .ok (.lcmp, 1) := by decide +kernel
theorem dX8_rateOf_26 : decode cX8_rateOf 26 = .ok (.ifCond .le 8, 3) := by decide +kernel
theorem dX8_rateOf_29 : decode cX8_rateOf 29 = .ok (.bipush 100, 2) := by decide +kernel
theorem dX8_rateOf_31 : decode cX8_rateOf 31 = .ok (.goto 5, 3) := by decide +kernel
theorem dX8_rateOf_34 : decode cX8_rateOf 34 = .ok (.lload_n 3, 1) := by decide +kernel
theorem dX8_rateOf_35 : decode cX8_rateOf 35 = .ok (.l2i, 1) := by decide +kernel
theorem dX8_rateOf_36 : decode cX8_rateOf 36 = .ok (.ireturn, 1) := by decide +kernel
theorem dX8_rate_0 : decode cX8_rate 0 = .ok (.aload_n 0, 1) := by decide +kernel
theorem dX8_rate_1 : decode cX8_rate 1 = .ok (.invokevirtual 153, 3) := by decide +kernel
theorem dX8_rate_4 : decode cX8_rate 4 = .ok (.aload_n 0, 1) := by decide +kernel
theorem dX8_rate_5 : decode cX8_rate 5 = .ok (.invokevirtual 157, 3) := by decide +kernel
theorem dX8_rate_8 : decode cX8_rate 8 = .ok (.i2l, 1) := by decide +kernel
theorem dX8_rate_9 : decode cX8_rate 9 = .ok (.invokestatic 160, 3) := by decide +kernel
theorem dX8_rate_12 : decode cX8_rate 12 = .ok (.ireturn, 1) := by decide +kernel
theorem dX8_worth_0 : decode cX8_worth 0 = .ok (.iload_n 1, 1) := by decide +kernel
theorem dX8_worth_1 : decode cX8_worth 1 = .ok (.aload_n 0, 1) := by decide +kernel
theorem dX8_worth_2 : decode cX8_worth 2 = .ok (.invokevirtual 164, 3) := by decide +kernel
theorem dX8_worth_5 : decode cX8_worth 5 = .ok (.imul, 1) := by decide +kernel
theorem dX8_worth_6 : decode cX8_worth 6 = .ok (.bipush 100, 2) := by decide +kernel
theorem dX8_worth_8 : decode cX8_worth 8 = .ok (.idiv, 1) := by decide +kernel
theorem dX8_worth_9 : decode cX8_worth 9 = .ok (.ireturn, 1) := by decide +kernel
theorem dX8_payment_0 : decode cX8_payment 0 = .ok (.aload_n 0, 1) := by decide +kernel
theorem dX8_payment_1 : decode cX8_payment 1 = .ok (.getfield 16, 3) := by decide +kernel
theorem dX8_payment_4 : decode cX8_payment 4 = .ok (.bipush 6, 2) := by decide +kernel
theorem dX8_payment_6 : decode cX8_payment 6 = .ok (.iload_n 1, 1) := by decide +kernel
theorem dX8_payment_7 : decode cX8_payment 7 = .ok (.imul, 1) := by decide +kernel
theorem dX8_payment_8 : decode cX8_payment 8 = .ok (.iload_n 2, 1) := by decide +kernel
theorem dX8_payment_9 : decode cX8_payment 9 = .ok (.iadd, 1) := by decide +kernel
theorem dX8_payment_10 : decode cX8_payment 10 = .ok (.iaload, 1) := by decide +kernel
theorem dX8_payment_11 : decode cX8_payment 11 = .ok (.istore_n 3, 1) := by decide +kernel
theorem dX8_payment_12 : decode cX8_payment 12 = .ok (.iload_n 3, 1) := by decide +kernel
theorem dX8_payment_13 : decode cX8_payment 13 = .ok (.aload_n 0, 1) := by decide +kernel
theorem dX8_payment_14 : decode cX8_payment 14 = .ok (.getfield 7, 3) := by decide +kernel
theorem dX8_payment_17 : decode cX8_payment 17 = .ok (.iload_n 1, 1) := by decide +kernel
theorem dX8_payment_18 : decode cX8_payment 18 = .ok (.iaload, 1) := by decide +kernel
theorem dX8_payment_19 : decode cX8_payment 19 = .ok (.if_icmp .ge 7, 3) := by decide +kernel
theorem dX8_payment_22 : decode cX8_payment 22 = .ok (.iload_n 3, 1) := by decide +kernel
theorem dX8_payment_23 : decode cX8_payment 23 = .ok (.goto 9, 3) := by decide +kernel
theorem dX8_payment_26 : decode cX8_payment 26 = .ok (.aload_n 0, 1) := by decide +kernel
theorem dX8_payment_27 : decode cX8_payment 27 = .ok (.getfield 7, 3) := by decide +kernel
theorem dX8_payment_30 : decode cX8_payment 30 = .ok (.iload_n 1, 1) := by decide +kernel
theorem dX8_payment_31 : decode cX8_payment 31 = .ok (.iaload, 1) := by decide +kernel
theorem dX8_payment_32 : decode cX8_payment 32 = .ok (.ireturn, 1) := by decide +kernel
theorem dX8_whyNotChange_0 : decode cX8_whyNotChange 0 = .ok (.aload_n 0, 1) := by decide +kernel
theorem dX8_whyNotChange_1 : decode cX8_whyNotChange 1 = .ok (.getfield 7, 3) := by decide +kernel
theorem dX8_whyNotChange_4 : decode cX8_whyNotChange 4 = .ok (.iload_n 1, 1) := by decide +kernel
theorem dX8_whyNotChange_5 : decode cX8_whyNotChange 5 = .ok (.iaload, 1) := by decide +kernel
theorem dX8_whyNotChange_6 : decode cX8_whyNotChange 6 = .ok (.iload_n 2, 1) := by decide +kernel
theorem dX8_whyNotChange_7 : decode cX8_whyNotChange 7 = .ok (.if_icmp .ge 5, 3) := by decide +kernel
theorem dX8_whyNotChange_10 : decode cX8_whyNotChange 10 = .ok (.iconst 3, 1) := by decide +kernel
theorem dX8_whyNotChange_11 : decode cX8_whyNotChange 11 = .ok (.ireturn, 1) := by decide +kernel
theorem dX8_whyNotChange_12 : decode cX8_whyNotChange 12 = .ok (.aload_n 0, 1) := by decide +kernel
theorem dX8_whyNotChange_13 : decode cX8_whyNotChange 13 = .ok (.getfield 13, 3) := by decide +kernel
theorem dX8_whyNotChange_16 : decode cX8_whyNotChange 16 = .ok (.iload_n 1, 1) := by decide +kernel
theorem dX8_whyNotChange_17 : decode cX8_whyNotChange 17 = .ok (.iaload, 1) := by decide +kernel
theorem dX8_whyNotChange_18 : decode cX8_whyNotChange 18 = .ok (.aload_n 0, 1) := by decide +kernel
theorem dX8_whyNotChange_19 : decode cX8_whyNotChange 19 = .ok (.iload_n 2, 1) := by decide +kernel
theorem dX8_whyNotChange_20 : decode cX8_whyNotChange 20 = .ok (.invokevirtual 167, 3) := by decide +kernel
theorem dX8_whyNotChange_23 : decode cX8_whyNotChange 23 = .ok (.iadd, 1) := by decide +kernel
theorem dX8_whyNotChange_24 : decode cX8_whyNotChange 24 = .ok (.sipush 9999, 3) := by decide +kernel
theorem dX8_whyNotChange_27 : decode cX8_whyNotChange 27 = .ok (.if_icmp .gt 14, 3) := by decide +kernel
theorem dX8_whyNotChange_30 : decode cX8_whyNotChange 30 = .ok (.aload_n 0, 1) := by decide +kernel
theorem dX8_whyNotChange_31 : decode cX8_whyNotChange 31 = .ok (.getfield 98, 3) := by decide +kernel
theorem dX8_whyNotChange_34 : decode cX8_whyNotChange 34 = .ok (.iload_n 2, 1) := by decide +kernel
theorem dX8_whyNotChange_35 : decode cX8_whyNotChange 35 = .ok (.iadd, 1) := by decide +kernel
theorem dX8_whyNotChange_36 : decode cX8_whyNotChange 36 = .ok (.ldc 170, 2) := by decide +kernel
theorem dX8_whyNotChange_38 : decode cX8_whyNotChange 38 = .ok (.if_icmp .le 7, 3) := by decide +kernel
theorem dX8_whyNotChange_41 : decode cX8_whyNotChange 41 = .ok (.iconst 5, 1) := by decide +kernel
theorem dX8_whyNotChange_42 : decode cX8_whyNotChange 42 = .ok (.goto 4, 3) := by decide +kernel
theorem dX8_whyNotChange_45 : decode cX8_whyNotChange 45 = .ok (.iconst 0, 1) := by decide +kernel
theorem dX8_whyNotChange_46 : decode cX8_whyNotChange 46 = .ok (.ireturn, 1) := by decide +kernel
theorem dX8_whyNotPay_0 : decode cX8_whyNotPay 0 = .ok (.iload_n 1, 1) := by decide +kernel
theorem dX8_whyNotPay_1 : decode cX8_whyNotPay 1 = .ok (.iload_n 2, 1) := by decide +kernel
theorem dX8_whyNotPay_2 : decode cX8_whyNotPay 2 = .ok (.if_icmp .ne 5, 3) := by decide +kernel
theorem dX8_whyNotPay_5 : decode cX8_whyNotPay 5 = .ok (.iconst 1, 1) := by decide +kernel
theorem dX8_whyNotPay_6 : decode cX8_whyNotPay 6 = .ok (.ireturn, 1) := by decide +kernel
theorem dX8_whyNotPay_7 : decode cX8_whyNotPay 7 = .ok (.aload_n 0, 1) := by decide +kernel
theorem dX8_whyNotPay_8 : decode cX8_whyNotPay 8 = .ok (.iload_n 1, 1) := by decide +kernel
theorem dX8_whyNotPay_9 : decode cX8_whyNotPay 9 = .ok (.iload_n 2, 1) := by decide +kernel
theorem dX8_whyNotPay_10 : decode cX8_whyNotPay 10 = .ok (.invokevirtual 171, 3) := by decide +kernel
theorem dX8_whyNotPay_13 : decode cX8_whyNotPay 13 = .ok (.istore_n 3, 1) := by decide +kernel
theorem dX8_whyNotPay_14 : decode cX8_whyNotPay 14 = .ok (.iload_n 3, 1) := by decide +kernel
theorem dX8_whyNotPay_15 : decode cX8_whyNotPay 15 = .ok (.ifCond .ne 7, 3) := by decide +kernel
theorem dX8_whyNotPay_18 : decode cX8_whyNotPay 18 = .ok (.iconst 4, 1) := by decide +kernel
theorem dX8_whyNotPay_19 : decode cX8_whyNotPay 19 = .ok (.goto 22, 3) := by decide +kernel
theorem dX8_whyNotPay_22 : decode cX8_whyNotPay 22 = .ok (.aload_n 0, 1) := by decide +kernel
theorem dX8_whyNotPay_23 : decode cX8_whyNotPay 23 = .ok (.getfield 7, 3) := by decide +kernel
theorem dX8_whyNotPay_26 : decode cX8_whyNotPay 26 = .ok (.iload_n 2, 1) := by decide +kernel
theorem dX8_whyNotPay_27 : decode cX8_whyNotPay 27 = .ok (.iaload, 1) := by decide +kernel
theorem dX8_whyNotPay_28 : decode cX8_whyNotPay 28 = .ok (.iload_n 3, 1) := by decide +kernel
theorem dX8_whyNotPay_29 : decode cX8_whyNotPay 29 = .ok (.iadd, 1) := by decide +kernel
theorem dX8_whyNotPay_30 : decode cX8_whyNotPay 30 = .ok (.sipush 9999, 3) := by decide +kernel
theorem dX8_whyNotPay_33 : decode cX8_whyNotPay 33 = .ok (.if_icmp .le 7, 3) := by decide +kernel
theorem dX8_whyNotPay_36 : decode cX8_whyNotPay 36 = .ok (.iconst 5, 1) := by decide +kernel
theorem dX8_whyNotPay_37 : decode cX8_whyNotPay 37 = .ok (.goto 4, 3) := by decide +kernel
theorem dX8_whyNotPay_40 : decode cX8_whyNotPay 40 = .ok (.iconst 0, 1) := by decide +kernel
theorem dX8_whyNotPay_41 : decode cX8_whyNotPay 41 = .ok (.ireturn, 1) := by decide +kernel
theorem dX8_whyNot_0 : decode cX8_whyNot 0 = .ok (.iload_n 1, 1) := by decide +kernel
theorem dX8_whyNot_1 : decode cX8_whyNot 1 = .ok (.tableswitch 167 0 5 #[39, 56, 87, 121, 128, 135], 39) := by decide +kernel
theorem dX8_whyNot_40 : decode cX8_whyNot 40 = .ok (.aload_n 0, 1) := by decide +kernel
theorem dX8_whyNot_41 : decode cX8_whyNot 41 = .ok (.getfield 98, 3) := by decide +kernel
theorem dX8_whyNot_44 : decode cX8_whyNot 44 = .ok (.iload_n 3, 1) := by decide +kernel
theorem dX8_whyNot_45 : decode cX8_whyNot 45 = .ok (.iadd, 1) := by decide +kernel
theorem dX8_whyNot_46 : decode cX8_whyNot 46 = .ok (.ldc 170, 2) := by decide +kernel
theorem dX8_whyNot_48 : decode cX8_whyNot 48 = .ok (.if_icmp .le 7, 3) := by decide +kernel
theorem dX8_whyNot_51 : decode cX8_whyNot 51 = .ok (.iconst 5, 1) := by decide +kernel
theorem dX8_whyNot_52 : decode cX8_whyNot 52 = .ok (.goto 4, 3) := by decide +kernel
theorem dX8_whyNot_55 : decode cX8_whyNot 55 = .ok (.iconst 0, 1) := by decide +kernel
theorem dX8_whyNot_56 : decode cX8_whyNot 56 = .ok (.ireturn, 1) := by decide +kernel
theorem dX8_whyNot_57 : decode cX8_whyNot 57 = .ok (.aload_n 0, 1) := by decide +kernel
theorem dX8_whyNot_58 : decode cX8_whyNot 58 = .ok (.getfield 7, 3) := by decide +kernel
theorem dX8_whyNot_61 : decode cX8_whyNot 61 = .ok (.iload_n 2, 1) := by decide +kernel
theorem dX8_whyNot_62 : decode cX8_whyNot 62 = .ok (.iaload, 1) := by decide +kernel
theorem dX8_whyNot_63 : decode cX8_whyNot 63 = .ok (.iload_n 3, 1) := by decide +kernel
theorem dX8_whyNot_64 : decode cX8_whyNot 64 = .ok (.iadd, 1) := by decide +kernel
theorem dX8_whyNot_65 : decode cX8_whyNot 65 = .ok (.sipush 9999, 3) := by decide +kernel
theorem dX8_whyNot_68 : decode cX8_whyNot 68 = .ok (.if_icmp .gt 14, 3) := by decide +kernel
theorem dX8_whyNot_71 : decode cX8_whyNot 71 = .ok (.aload_n 0, 1) := by decide +kernel
theorem dX8_whyNot_72 : decode cX8_whyNot 72 = .ok (.getfield 102, 3) := by decide +kernel
theorem dX8_whyNot_75 : decode cX8_whyNot 75 = .ok (.iload_n 3, 1) := by decide +kernel
theorem dX8_whyNot_76 : decode cX8_whyNot 76 = .ok (.iadd, 1) := by decide +kernel
theorem dX8_whyNot_77 : decode cX8_whyNot 77 = .ok (.ldc 170, 2) := by decide +kernel
theorem dX8_whyNot_79 : decode cX8_whyNot 79 = .ok (.if_icmp .le 7, 3) := by decide +kernel
theorem dX8_whyNot_82 : decode cX8_whyNot 82 = .ok (.iconst 5, 1) := by decide +kernel
theorem dX8_whyNot_83 : decode cX8_whyNot 83 = .ok (.goto 4, 3) := by decide +kernel
theorem dX8_whyNot_86 : decode cX8_whyNot 86 = .ok (.iconst 0, 1) := by decide +kernel
theorem dX8_whyNot_87 : decode cX8_whyNot 87 = .ok (.ireturn, 1) := by decide +kernel
theorem dX8_whyNot_88 : decode cX8_whyNot 88 = .ok (.aload_n 0, 1) := by decide +kernel
theorem dX8_whyNot_89 : decode cX8_whyNot 89 = .ok (.getfield 22, 3) := by decide +kernel
theorem dX8_whyNot_92 : decode cX8_whyNot 92 = .ok (.iload_n 3, 1) := by decide +kernel
theorem dX8_whyNot_93 : decode cX8_whyNot 93 = .ok (.iaload, 1) := by decide +kernel
theorem dX8_whyNot_94 : decode cX8_whyNot 94 = .ok (.ifCond .lt 7, 3) := by decide +kernel
theorem dX8_whyNot_97 : decode cX8_whyNot 97 = .ok (.iconst 2, 1) := by decide +kernel
theorem dX8_whyNot_98 : decode cX8_whyNot 98 = .ok (.goto 23, 3) := by decide +kernel
theorem dX8_whyNot_101 : decode cX8_whyNot 101 = .ok (.aload_n 0, 1) := by decide +kernel
theorem dX8_whyNot_102 : decode cX8_whyNot 102 = .ok (.getfield 7, 3) := by decide +kernel
theorem dX8_whyNot_105 : decode cX8_whyNot 105 = .ok (.iload_n 2, 1) := by decide +kernel
theorem dX8_whyNot_106 : decode cX8_whyNot 106 = .ok (.iaload, 1) := by decide +kernel
theorem dX8_whyNot_107 : decode cX8_whyNot 107 = .ok (.aload_n 0, 1) := by decide +kernel
theorem dX8_whyNot_108 : decode cX8_whyNot 108 = .ok (.getfield 19, 3) := by decide +kernel
theorem dX8_whyNot_111 : decode cX8_whyNot 111 = .ok (.iload_n 3, 1) := by decide +kernel
theorem dX8_whyNot_112 : decode cX8_whyNot 112 = .ok (.iaload, 1) := by decide +kernel
theorem dX8_whyNot_113 : decode cX8_whyNot 113 = .ok (.if_icmp .ge 7, 3) := by decide +kernel
theorem dX8_whyNot_116 : decode cX8_whyNot 116 = .ok (.iconst 3, 1) := by decide +kernel
theorem dX8_whyNot_117 : decode cX8_whyNot 117 = .ok (.goto 4, 3) := by decide +kernel
theorem dX8_whyNot_120 : decode cX8_whyNot 120 = .ok (.iconst 0, 1) := by decide +kernel
theorem dX8_whyNot_121 : decode cX8_whyNot 121 = .ok (.ireturn, 1) := by decide +kernel
theorem dX8_whyNot_122 : decode cX8_whyNot 122 = .ok (.aload_n 0, 1) := by decide +kernel
theorem dX8_whyNot_123 : decode cX8_whyNot 123 = .ok (.iload_n 2, 1) := by decide +kernel
theorem dX8_whyNot_124 : decode cX8_whyNot 124 = .ok (.iload_n 3, 1) := by decide +kernel
theorem dX8_whyNot_125 : decode cX8_whyNot 125 = .ok (.invokevirtual 174, 3) := by decide +kernel
theorem dX8_whyNot_128 : decode cX8_whyNot 128 = .ok (.ireturn, 1) := by decide +kernel
theorem dX8_whyNot_129 : decode cX8_whyNot 129 = .ok (.aload_n 0, 1) := by decide +kernel
theorem dX8_whyNot_130 : decode cX8_whyNot 130 = .ok (.iload_n 2, 1) := by decide +kernel
theorem dX8_whyNot_131 : decode cX8_whyNot 131 = .ok (.iload_n 3, 1) := by decide +kernel
theorem dX8_whyNot_132 : decode cX8_whyNot 132 = .ok (.invokevirtual 177, 3) := by decide +kernel
theorem dX8_whyNot_135 : decode cX8_whyNot 135 = .ok (.ireturn, 1) := by decide +kernel
theorem dX8_whyNot_136 : decode cX8_whyNot 136 = .ok (.aload_n 0, 1) := by decide +kernel
theorem dX8_whyNot_137 : decode cX8_whyNot 137 = .ok (.getfield 98, 3) := by decide +kernel
theorem dX8_whyNot_140 : decode cX8_whyNot 140 = .ok (.iload_n 3, 1) := by decide +kernel
theorem dX8_whyNot_141 : decode cX8_whyNot 141 = .ok (.if_icmp .ge 7, 3) := by decide +kernel
theorem dX8_whyNot_144 : decode cX8_whyNot 144 = .ok (.iconst 3, 1) := by decide +kernel
theorem dX8_whyNot_145 : decode cX8_whyNot 145 = .ok (.goto 22, 3) := by decide +kernel
theorem dX8_whyNot_148 : decode cX8_whyNot 148 = .ok (.aload_n 0, 1) := by decide +kernel
theorem dX8_whyNot_149 : decode cX8_whyNot 149 = .ok (.getfield 7, 3) := by decide +kernel
theorem dX8_whyNot_152 : decode cX8_whyNot 152 = .ok (.iload_n 2, 1) := by decide +kernel
theorem dX8_whyNot_153 : decode cX8_whyNot 153 = .ok (.iaload, 1) := by decide +kernel
theorem dX8_whyNot_154 : decode cX8_whyNot 154 = .ok (.iload_n 3, 1) := by decide +kernel
theorem dX8_whyNot_155 : decode cX8_whyNot 155 = .ok (.iadd, 1) := by decide +kernel
theorem dX8_whyNot_156 : decode cX8_whyNot 156 = .ok (.sipush 9999, 3) := by decide +kernel
theorem dX8_whyNot_159 : decode cX8_whyNot 159 = .ok (.if_icmp .le 7, 3) := by decide +kernel
theorem dX8_whyNot_162 : decode cX8_whyNot 162 = .ok (.iconst 5, 1) := by decide +kernel
theorem dX8_whyNot_163 : decode cX8_whyNot 163 = .ok (.goto 4, 3) := by decide +kernel
theorem dX8_whyNot_166 : decode cX8_whyNot 166 = .ok (.iconst 0, 1) := by decide +kernel
theorem dX8_whyNot_167 : decode cX8_whyNot 167 = .ok (.ireturn, 1) := by decide +kernel
theorem dX8_whyNot_168 : decode cX8_whyNot 168 = .ok (.aload_n 0, 1) := by decide +kernel
theorem dX8_whyNot_169 : decode cX8_whyNot 169 = .ok (.getfield 180, 3) := by decide +kernel
theorem dX8_whyNot_172 : decode cX8_whyNot 172 = .ok (.bipush 99, 2) := by decide +kernel
theorem dX8_whyNot_174 : decode cX8_whyNot 174 = .ok (.if_icmp .ne 8, 3) := by decide +kernel
theorem dX8_whyNot_177 : decode cX8_whyNot 177 = .ok (.bipush 6, 2) := by decide +kernel
theorem dX8_whyNot_179 : decode cX8_whyNot 179 = .ok (.goto 4, 3) := by decide +kernel
theorem dX8_whyNot_182 : decode cX8_whyNot 182 = .ok (.iconst 0, 1) := by decide +kernel
theorem dX8_whyNot_183 : decode cX8_whyNot 183 = .ok (.ireturn, 1) := by decide +kernel
theorem dX8_swap_0 : decode cX8_swap 0 = .ok (.aload_n 0, 1) := by decide +kernel
theorem dX8_swap_1 : decode cX8_swap 1 = .ok (.getfield 13, 3) := by decide +kernel
theorem dX8_swap_4 : decode cX8_swap 4 = .ok (.iload_n 1, 1) := by decide +kernel
theorem dX8_swap_5 : decode cX8_swap 5 = .ok (.dup2, 1) := by decide +kernel
theorem dX8_swap_6 : decode cX8_swap 6 = .ok (.iaload, 1) := by decide +kernel
theorem dX8_swap_7 : decode cX8_swap 7 = .ok (.aload_n 0, 1) := by decide +kernel
theorem dX8_swap_8 : decode cX8_swap 8 = .ok (.iload_n 2, 1) := by decide +kernel
theorem dX8_swap_9 : decode cX8_swap 9 = .ok (.invokevirtual 167, 3) := by decide +kernel
theorem dX8_swap_12 : decode cX8_swap 12 = .ok (.iadd, 1) := by decide +kernel
theorem dX8_swap_13 : decode cX8_swap 13 = .ok (.iastore, 1) := by decide +kernel
theorem dX8_swap_14 : decode cX8_swap 14 = .ok (.aload_n 0, 1) := by decide +kernel
theorem dX8_swap_15 : decode cX8_swap 15 = .ok (.getfield 7, 3) := by decide +kernel
theorem dX8_swap_18 : decode cX8_swap 18 = .ok (.iload_n 1, 1) := by decide +kernel
theorem dX8_swap_19 : decode cX8_swap 19 = .ok (.dup2, 1) := by decide +kernel
theorem dX8_swap_20 : decode cX8_swap 20 = .ok (.iaload, 1) := by decide +kernel
theorem dX8_swap_21 : decode cX8_swap 21 = .ok (.iload_n 2, 1) := by decide +kernel
theorem dX8_swap_22 : decode cX8_swap 22 = .ok (.isub, 1) := by decide +kernel
theorem dX8_swap_23 : decode cX8_swap 23 = .ok (.iastore, 1) := by decide +kernel
theorem dX8_swap_24 : decode cX8_swap 24 = .ok (.aload_n 0, 1) := by decide +kernel
theorem dX8_swap_25 : decode cX8_swap 25 = .ok (.dup, 1) := by decide +kernel
theorem dX8_swap_26 : decode cX8_swap 26 = .ok (.getfield 98, 3) := by decide +kernel
theorem dX8_swap_29 : decode cX8_swap 29 = .ok (.iload_n 2, 1) := by decide +kernel
theorem dX8_swap_30 : decode cX8_swap 30 = .ok (.iadd, 1) := by decide +kernel
theorem dX8_swap_31 : decode cX8_swap 31 = .ok (.putfield 98, 3) := by decide +kernel
theorem dX8_swap_34 : decode cX8_swap 34 = .ok (.return_, 1) := by decide +kernel
theorem dX8_pay_0 : decode cX8_pay 0 = .ok (.aload_n 0, 1) := by decide +kernel
theorem dX8_pay_1 : decode cX8_pay 1 = .ok (.iload_n 1, 1) := by decide +kernel
theorem dX8_pay_2 : decode cX8_pay 2 = .ok (.iload_n 2, 1) := by decide +kernel
theorem dX8_pay_3 : decode cX8_pay 3 = .ok (.invokevirtual 171, 3) := by decide +kernel
theorem dX8_pay_6 : decode cX8_pay 6 = .ok (.istore_n 3, 1) := by decide +kernel
theorem dX8_pay_7 : decode cX8_pay 7 = .ok (.aload_n 0, 1) := by decide +kernel
theorem dX8_pay_8 : decode cX8_pay 8 = .ok (.getfield 16, 3) := by decide +kernel
theorem dX8_pay_11 : decode cX8_pay 11 = .ok (.bipush 6, 2) := by decide +kernel
theorem dX8_pay_13 : decode cX8_pay 13 = .ok (.iload_n 1, 1) := by decide +kernel
theorem dX8_pay_14 : decode cX8_pay 14 = .ok (.imul, 1) := by decide +kernel
theorem dX8_pay_15 : decode cX8_pay 15 = .ok (.iload_n 2, 1) := by decide +kernel
theorem dX8_pay_16 : decode cX8_pay 16 = .ok (.iadd, 1) := by decide +kernel
theorem dX8_pay_17 : decode cX8_pay 17 = .ok (.dup2, 1) := by decide +kernel
theorem dX8_pay_18 : decode cX8_pay 18 = .ok (.iaload, 1) := by decide +kernel
theorem dX8_pay_19 : decode cX8_pay 19 = .ok (.iload_n 3, 1) := by decide +kernel
theorem dX8_pay_20 : decode cX8_pay 20 = .ok (.isub, 1) := by decide +kernel
theorem dX8_pay_21 : decode cX8_pay 21 = .ok (.iastore, 1) := by decide +kernel
theorem dX8_pay_22 : decode cX8_pay 22 = .ok (.aload_n 0, 1) := by decide +kernel
theorem dX8_pay_23 : decode cX8_pay 23 = .ok (.getfield 7, 3) := by decide +kernel
theorem dX8_pay_26 : decode cX8_pay 26 = .ok (.iload_n 1, 1) := by decide +kernel
theorem dX8_pay_27 : decode cX8_pay 27 = .ok (.dup2, 1) := by decide +kernel
theorem dX8_pay_28 : decode cX8_pay 28 = .ok (.iaload, 1) := by decide +kernel
theorem dX8_pay_29 : decode cX8_pay 29 = .ok (.iload_n 3, 1) := by decide +kernel
theorem dX8_pay_30 : decode cX8_pay 30 = .ok (.isub, 1) := by decide +kernel
theorem dX8_pay_31 : decode cX8_pay 31 = .ok (.iastore, 1) := by decide +kernel
theorem dX8_pay_32 : decode cX8_pay 32 = .ok (.aload_n 0, 1) := by decide +kernel
theorem dX8_pay_33 : decode cX8_pay 33 = .ok (.getfield 7, 3) := by decide +kernel
theorem dX8_pay_36 : decode cX8_pay 36 = .ok (.iload_n 2, 1) := by decide +kernel
theorem dX8_pay_37 : decode cX8_pay 37 = .ok (.dup2, 1) := by decide +kernel
theorem dX8_pay_38 : decode cX8_pay 38 = .ok (.iaload, 1) := by decide +kernel
theorem dX8_pay_39 : decode cX8_pay 39 = .ok (.iload_n 3, 1) := by decide +kernel
theorem dX8_pay_40 : decode cX8_pay 40 = .ok (.iadd, 1) := by decide +kernel
theorem dX8_pay_41 : decode cX8_pay 41 = .ok (.iastore, 1) := by decide +kernel
theorem dX8_pay_42 : decode cX8_pay 42 = .ok (.return_, 1) := by decide +kernel
theorem dX8_buy_0 : decode cX8_buy 0 = .ok (.aload_n 0, 1) := by decide +kernel
theorem dX8_buy_1 : decode cX8_buy 1 = .ok (.getfield 22, 3) := by decide +kernel
theorem dX8_buy_4 : decode cX8_buy 4 = .ok (.iload_n 2, 1) := by decide +kernel
theorem dX8_buy_5 : decode cX8_buy 5 = .ok (.iload_n 1, 1) := by decide +kernel
theorem dX8_buy_6 : decode cX8_buy 6 = .ok (.iastore, 1) := by decide +kernel
theorem dX8_buy_7 : decode cX8_buy 7 = .ok (.aload_n 0, 1) := by decide +kernel
theorem dX8_buy_8 : decode cX8_buy 8 = .ok (.getfield 7, 3) := by decide +kernel
theorem dX8_buy_11 : decode cX8_buy 11 = .ok (.iload_n 1, 1) := by decide +kernel
theorem dX8_buy_12 : decode cX8_buy 12 = .ok (.dup2, 1) := by decide +kernel
theorem dX8_buy_13 : decode cX8_buy 13 = .ok (.iaload, 1) := by decide +kernel
theorem dX8_buy_14 : decode cX8_buy 14 = .ok (.aload_n 0, 1) := by decide +kernel
theorem dX8_buy_15 : decode cX8_buy 15 = .ok (.getfield 19, 3) := by decide +kernel
theorem dX8_buy_18 : decode cX8_buy 18 = .ok (.iload_n 2, 1) := by decide +kernel
theorem dX8_buy_19 : decode cX8_buy 19 = .ok (.iaload, 1) := by decide +kernel
theorem dX8_buy_20 : decode cX8_buy 20 = .ok (.isub, 1) := by decide +kernel
theorem dX8_buy_21 : decode cX8_buy 21 = .ok (.iastore, 1) := by decide +kernel
theorem dX8_buy_22 : decode cX8_buy 22 = .ok (.aload_n 0, 1) := by decide +kernel
theorem dX8_buy_23 : decode cX8_buy 23 = .ok (.dup, 1) := by decide +kernel
theorem dX8_buy_24 : decode cX8_buy 24 = .ok (.getfield 183, 3) := by decide +kernel
theorem dX8_buy_27 : decode cX8_buy 27 = .ok (.aload_n 0, 1) := by decide +kernel
theorem dX8_buy_28 : decode cX8_buy 28 = .ok (.getfield 19, 3) := by decide +kernel
theorem dX8_buy_31 : decode cX8_buy 31 = .ok (.iload_n 2, 1) := by decide +kernel
theorem dX8_buy_32 : decode cX8_buy 32 = .ok (.iaload, 1) := by decide +kernel
theorem dX8_buy_33 : decode cX8_buy 33 = .ok (.iadd, 1) := by decide +kernel
theorem dX8_buy_34 : decode cX8_buy 34 = .ok (.putfield 183, 3) := by decide +kernel
theorem dX8_buy_37 : decode cX8_buy 37 = .ok (.return_, 1) := by decide +kernel
theorem dX8_happen_0 : decode cX8_happen 0 = .ok (.iload_n 1, 1) := by decide +kernel
theorem dX8_happen_1 : decode cX8_happen 1 = .ok (.tableswitch 125 0 5 #[39, 52, 75, 84, 93, 102], 39) := by decide +kernel
theorem dX8_happen_40 : decode cX8_happen 40 = .ok (.aload_n 0, 1) := by decide +kernel
theorem dX8_happen_41 : decode cX8_happen 41 = .ok (.dup, 1) := by decide +kernel
theorem dX8_happen_42 : decode cX8_happen 42 = .ok (.getfield 98, 3) := by decide +kernel
theorem dX8_happen_45 : decode cX8_happen 45 = .ok (.iload_n 3, 1) := by decide +kernel
theorem dX8_happen_46 : decode cX8_happen 46 = .ok (.iadd, 1) := by decide +kernel
theorem dX8_happen_47 : decode cX8_happen 47 = .ok (.putfield 98, 3) := by decide +kernel
theorem dX8_happen_50 : decode cX8_happen 50 = .ok (.goto 86, 3) := by decide +kernel
theorem dX8_happen_53 : decode cX8_happen 53 = .ok (.aload_n 0, 1) := by decide +kernel
theorem dX8_happen_54 : decode cX8_happen 54 = .ok (.getfield 7, 3) := by decide +kernel
theorem dX8_happen_57 : decode cX8_happen 57 = .ok (.iload_n 2, 1) := by decide +kernel
theorem dX8_happen_58 : decode cX8_happen 58 = .ok (.dup2, 1) := by decide +kernel
theorem dX8_happen_59 : decode cX8_happen 59 = .ok (.iaload, 1) := by decide +kernel
theorem dX8_happen_60 : decode cX8_happen 60 = .ok (.iload_n 3, 1) := by decide +kernel
theorem dX8_happen_61 : decode cX8_happen 61 = .ok (.iadd, 1) := by decide +kernel
theorem dX8_happen_62 : decode cX8_happen 62 = .ok (.iastore, 1) := by decide +kernel
theorem dX8_happen_63 : decode cX8_happen 63 = .ok (.aload_n 0, 1) := by decide +kernel
theorem dX8_happen_64 : decode cX8_happen 64 = .ok (.dup, 1) := by decide +kernel
theorem dX8_happen_65 : decode cX8_happen 65 = .ok (.getfield 102, 3) := by decide +kernel
theorem dX8_happen_68 : decode cX8_happen 68 = .ok (.iload_n 3, 1) := by decide +kernel
theorem dX8_happen_69 : decode cX8_happen 69 = .ok (.iadd, 1) := by decide +kernel
theorem dX8_happen_70 : decode cX8_happen 70 = .ok (.putfield 102, 3) := by decide +kernel
theorem dX8_happen_73 : decode cX8_happen 73 = .ok (.goto 63, 3) := by decide +kernel
theorem dX8_happen_76 : decode cX8_happen 76 = .ok (.aload_n 0, 1) := by decide +kernel
theorem dX8_happen_77 : decode cX8_happen 77 = .ok (.iload_n 2, 1) := by decide +kernel
theorem dX8_happen_78 : decode cX8_happen 78 = .ok (.iload_n 3, 1) := by decide +kernel
theorem dX8_happen_79 : decode cX8_happen 79 = .ok (.invokevirtual 186, 3) := by decide +kernel
theorem dX8_happen_82 : decode cX8_happen 82 = .ok (.goto 54, 3) := by decide +kernel
theorem dX8_happen_85 : decode cX8_happen 85 = .ok (.aload_n 0, 1) := by decide +kernel
theorem dX8_happen_86 : decode cX8_happen 86 = .ok (.iload_n 2, 1) := by decide +kernel
theorem dX8_happen_87 : decode cX8_happen 87 = .ok (.iload_n 3, 1) := by decide +kernel
theorem dX8_happen_88 : decode cX8_happen 88 = .ok (.invokevirtual 190, 3) := by decide +kernel
theorem dX8_happen_91 : decode cX8_happen 91 = .ok (.goto 45, 3) := by decide +kernel
theorem dX8_happen_94 : decode cX8_happen 94 = .ok (.aload_n 0, 1) := by decide +kernel
theorem dX8_happen_95 : decode cX8_happen 95 = .ok (.iload_n 2, 1) := by decide +kernel
theorem dX8_happen_96 : decode cX8_happen 96 = .ok (.iload_n 3, 1) := by decide +kernel
theorem dX8_happen_97 : decode cX8_happen 97 = .ok (.invokevirtual 193, 3) := by decide +kernel
theorem dX8_happen_100 : decode cX8_happen 100 = .ok (.goto 36, 3) := by decide +kernel
theorem dX8_happen_103 : decode cX8_happen 103 = .ok (.aload_n 0, 1) := by decide +kernel
theorem dX8_happen_104 : decode cX8_happen 104 = .ok (.dup, 1) := by decide +kernel
theorem dX8_happen_105 : decode cX8_happen 105 = .ok (.getfield 98, 3) := by decide +kernel
theorem dX8_happen_108 : decode cX8_happen 108 = .ok (.iload_n 3, 1) := by decide +kernel
theorem dX8_happen_109 : decode cX8_happen 109 = .ok (.isub, 1) := by decide +kernel
theorem dX8_happen_110 : decode cX8_happen 110 = .ok (.putfield 98, 3) := by decide +kernel
theorem dX8_happen_113 : decode cX8_happen 113 = .ok (.aload_n 0, 1) := by decide +kernel
theorem dX8_happen_114 : decode cX8_happen 114 = .ok (.getfield 7, 3) := by decide +kernel
theorem dX8_happen_117 : decode cX8_happen 117 = .ok (.iload_n 2, 1) := by decide +kernel
theorem dX8_happen_118 : decode cX8_happen 118 = .ok (.dup2, 1) := by decide +kernel
theorem dX8_happen_119 : decode cX8_happen 119 = .ok (.iaload, 1) := by decide +kernel
theorem dX8_happen_120 : decode cX8_happen 120 = .ok (.iload_n 3, 1) := by decide +kernel
theorem dX8_happen_121 : decode cX8_happen 121 = .ok (.iadd, 1) := by decide +kernel
theorem dX8_happen_122 : decode cX8_happen 122 = .ok (.iastore, 1) := by decide +kernel
theorem dX8_happen_123 : decode cX8_happen 123 = .ok (.goto 13, 3) := by decide +kernel
theorem dX8_happen_126 : decode cX8_happen 126 = .ok (.aload_n 0, 1) := by decide +kernel
theorem dX8_happen_127 : decode cX8_happen 127 = .ok (.dup, 1) := by decide +kernel
theorem dX8_happen_128 : decode cX8_happen 128 = .ok (.getfield 180, 3) := by decide +kernel
theorem dX8_happen_131 : decode cX8_happen 131 = .ok (.iconst 1, 1) := by decide +kernel
theorem dX8_happen_132 : decode cX8_happen 132 = .ok (.iadd, 1) := by decide +kernel
theorem dX8_happen_133 : decode cX8_happen 133 = .ok (.putfield 180, 3) := by decide +kernel
theorem dX8_happen_136 : decode cX8_happen 136 = .ok (.return_, 1) := by decide +kernel
theorem dX8_keepNow_0 : decode cX8_keepNow 0 = .ok (.iconst 0, 1) := by decide +kernel
theorem dX8_keepNow_1 : decode cX8_keepNow 1 = .ok (.istore_n 1, 1) := by decide +kernel
theorem dX8_keepNow_2 : decode cX8_keepNow 2 = .ok (.iload_n 1, 1) := by decide +kernel
theorem dX8_keepNow_3 : decode cX8_keepNow 3 = .ok (.bipush 6, 2) := by decide +kernel
theorem dX8_keepNow_5 : decode cX8_keepNow 5 = .ok (.if_icmp .ge 36, 3) := by decide +kernel
theorem dX8_keepNow_8 : decode cX8_keepNow 8 = .ok (.aload_n 0, 1) := by decide +kernel
theorem dX8_keepNow_9 : decode cX8_keepNow 9 = .ok (.getfield 46, 3) := by decide +kernel
theorem dX8_keepNow_12 : decode cX8_keepNow 12 = .ok (.iload_n 1, 1) := by decide +kernel
theorem dX8_keepNow_13 : decode cX8_keepNow 13 = .ok (.aload_n 0, 1) := by decide +kernel
theorem dX8_keepNow_14 : decode cX8_keepNow 14 = .ok (.getfield 7, 3) := by decide +kernel
theorem dX8_keepNow_17 : decode cX8_keepNow 17 = .ok (.iload_n 1, 1) := by decide +kernel
theorem dX8_keepNow_18 : decode cX8_keepNow 18 = .ok (.iaload, 1) := by decide +kernel
theorem dX8_keepNow_19 : decode cX8_keepNow 19 = .ok (.iastore, 1) := by decide +kernel
theorem dX8_keepNow_20 : decode cX8_keepNow 20 = .ok (.aload_n 0, 1) := by decide +kernel
theorem dX8_keepNow_21 : decode cX8_keepNow 21 = .ok (.getfield 46, 3) := by decide +kernel
theorem dX8_keepNow_24 : decode cX8_keepNow 24 = .ok (.bipush 6, 2) := by decide +kernel
theorem dX8_keepNow_26 : decode cX8_keepNow 26 = .ok (.iload_n 1, 1) := by decide +kernel
theorem dX8_keepNow_27 : decode cX8_keepNow 27 = .ok (.iadd, 1) := by decide +kernel
theorem dX8_keepNow_28 : decode cX8_keepNow 28 = .ok (.aload_n 0, 1) := by decide +kernel
theorem dX8_keepNow_29 : decode cX8_keepNow 29 = .ok (.getfield 13, 3) := by decide +kernel
theorem dX8_keepNow_32 : decode cX8_keepNow 32 = .ok (.iload_n 1, 1) := by decide +kernel
theorem dX8_keepNow_33 : decode cX8_keepNow 33 = .ok (.iaload, 1) := by decide +kernel
theorem dX8_keepNow_34 : decode cX8_keepNow 34 = .ok (.iastore, 1) := by decide +kernel
theorem dX8_keepNow_35 : decode cX8_keepNow 35 = .ok (.iinc 1 1, 3) := by decide +kernel
theorem dX8_keepNow_38 : decode cX8_keepNow 38 = .ok (.goto (-36), 3) := by decide +kernel
theorem dX8_keepNow_41 : decode cX8_keepNow 41 = .ok (.iconst 0, 1) := by decide +kernel
theorem dX8_keepNow_42 : decode cX8_keepNow 42 = .ok (.istore_n 1, 1) := by decide +kernel
theorem dX8_keepNow_43 : decode cX8_keepNow 43 = .ok (.iload_n 1, 1) := by decide +kernel
theorem dX8_keepNow_44 : decode cX8_keepNow 44 = .ok (.bipush 36, 2) := by decide +kernel
theorem dX8_keepNow_46 : decode cX8_keepNow 46 = .ok (.if_icmp .ge 24, 3) := by decide +kernel
theorem dX8_keepNow_49 : decode cX8_keepNow 49 = .ok (.aload_n 0, 1) := by decide +kernel
theorem dX8_keepNow_50 : decode cX8_keepNow 50 = .ok (.getfield 46, 3) := by decide +kernel
theorem dX8_keepNow_53 : decode cX8_keepNow 53 = .ok (.bipush 12, 2) := by decide +kernel
theorem dX8_keepNow_55 : decode cX8_keepNow 55 = .ok (.iload_n 1, 1) := by decide +kernel
theorem dX8_keepNow_56 : decode cX8_keepNow 56 = .ok (.iadd, 1) := by decide +kernel
theorem dX8_keepNow_57 : decode cX8_keepNow 57 = .ok (.aload_n 0, 1) := by decide +kernel
theorem dX8_keepNow_58 : decode cX8_keepNow 58 = .ok (.getfield 16, 3) := by decide +kernel
theorem dX8_keepNow_61 : decode cX8_keepNow 61 = .ok (.iload_n 1, 1) := by decide +kernel
theorem dX8_keepNow_62 : decode cX8_keepNow 62 = .ok (.iaload, 1) := by decide +kernel
theorem dX8_keepNow_63 : decode cX8_keepNow 63 = .ok (.iastore, 1) := by decide +kernel
theorem dX8_keepNow_64 : decode cX8_keepNow 64 = .ok (.iinc 1 1, 3) := by decide +kernel
theorem dX8_keepNow_67 : decode cX8_keepNow 67 = .ok (.goto (-24), 3) := by decide +kernel
theorem dX8_keepNow_70 : decode cX8_keepNow 70 = .ok (.iconst 0, 1) := by decide +kernel
theorem dX8_keepNow_71 : decode cX8_keepNow 71 = .ok (.istore_n 1, 1) := by decide +kernel
theorem dX8_keepNow_72 : decode cX8_keepNow 72 = .ok (.iload_n 1, 1) := by decide +kernel
theorem dX8_keepNow_73 : decode cX8_keepNow 73 = .ok (.bipush 8, 2) := by decide +kernel
theorem dX8_keepNow_75 : decode cX8_keepNow 75 = .ok (.if_icmp .ge 24, 3) := by decide +kernel
theorem dX8_keepNow_78 : decode cX8_keepNow 78 = .ok (.aload_n 0, 1) := by decide +kernel
theorem dX8_keepNow_79 : decode cX8_keepNow 79 = .ok (.getfield 46, 3) := by decide +kernel
theorem dX8_keepNow_82 : decode cX8_keepNow 82 = .ok (.bipush 48, 2) := by decide +kernel
theorem dX8_keepNow_84 : decode cX8_keepNow 84 = .ok (.iload_n 1, 1) := by decide +kernel
theorem dX8_keepNow_85 : decode cX8_keepNow 85 = .ok (.iadd, 1) := by decide +kernel
theorem dX8_keepNow_86 : decode cX8_keepNow 86 = .ok (.aload_n 0, 1) := by decide +kernel
theorem dX8_keepNow_87 : decode cX8_keepNow 87 = .ok (.getfield 22, 3) := by decide +kernel
theorem dX8_keepNow_90 : decode cX8_keepNow 90 = .ok (.iload_n 1, 1) := by decide +kernel
theorem dX8_keepNow_91 : decode cX8_keepNow 91 = .ok (.iaload, 1) := by decide +kernel
theorem dX8_keepNow_92 : decode cX8_keepNow 92 = .ok (.iastore, 1) := by decide +kernel
theorem dX8_keepNow_93 : decode cX8_keepNow 93 = .ok (.iinc 1 1, 3) := by decide +kernel
theorem dX8_keepNow_96 : decode cX8_keepNow 96 = .ok (.goto (-24), 3) := by decide +kernel
theorem dX8_keepNow_99 : decode cX8_keepNow 99 = .ok (.aload_n 0, 1) := by decide +kernel
theorem dX8_keepNow_100 : decode cX8_keepNow 100 = .ok (.getfield 46, 3) := by decide +kernel
theorem dX8_keepNow_103 : decode cX8_keepNow 103 = .ok (.bipush 56, 2) := by decide +kernel
theorem dX8_keepNow_105 : decode cX8_keepNow 105 = .ok (.aload_n 0, 1) := by decide +kernel
theorem dX8_keepNow_106 : decode cX8_keepNow 106 = .ok (.getfield 98, 3) := by decide +kernel
theorem dX8_keepNow_109 : decode cX8_keepNow 109 = .ok (.iastore, 1) := by decide +kernel
theorem dX8_keepNow_110 : decode cX8_keepNow 110 = .ok (.aload_n 0, 1) := by decide +kernel
theorem dX8_keepNow_111 : decode cX8_keepNow 111 = .ok (.getfield 46, 3) := by decide +kernel
theorem dX8_keepNow_114 : decode cX8_keepNow 114 = .ok (.bipush 57, 2) := by decide +kernel
theorem dX8_keepNow_116 : decode cX8_keepNow 116 = .ok (.aload_n 0, 1) := by decide +kernel
theorem dX8_keepNow_117 : decode cX8_keepNow 117 = .ok (.getfield 102, 3) := by decide +kernel
theorem dX8_keepNow_120 : decode cX8_keepNow 120 = .ok (.iastore, 1) := by decide +kernel
theorem dX8_keepNow_121 : decode cX8_keepNow 121 = .ok (.aload_n 0, 1) := by decide +kernel
theorem dX8_keepNow_122 : decode cX8_keepNow 122 = .ok (.getfield 46, 3) := by decide +kernel
theorem dX8_keepNow_125 : decode cX8_keepNow 125 = .ok (.bipush 58, 2) := by decide +kernel
theorem dX8_keepNow_127 : decode cX8_keepNow 127 = .ok (.aload_n 0, 1) := by decide +kernel
theorem dX8_keepNow_128 : decode cX8_keepNow 128 = .ok (.getfield 183, 3) := by decide +kernel
theorem dX8_keepNow_131 : decode cX8_keepNow 131 = .ok (.iastore, 1) := by decide +kernel
theorem dX8_keepNow_132 : decode cX8_keepNow 132 = .ok (.aload_n 0, 1) := by decide +kernel
theorem dX8_keepNow_133 : decode cX8_keepNow 133 = .ok (.getfield 46, 3) := by decide +kernel
theorem dX8_keepNow_136 : decode cX8_keepNow 136 = .ok (.bipush 59, 2) := by decide +kernel
theorem dX8_keepNow_138 : decode cX8_keepNow 138 = .ok (.aload_n 0, 1) := by decide +kernel
theorem dX8_keepNow_139 : decode cX8_keepNow 139 = .ok (.getfield 180, 3) := by decide +kernel
theorem dX8_keepNow_142 : decode cX8_keepNow 142 = .ok (.iastore, 1) := by decide +kernel
theorem dX8_keepNow_143 : decode cX8_keepNow 143 = .ok (.return_, 1) := by decide +kernel
theorem dX8_back_0 : decode cX8_back 0 = .ok (.iconst 0, 1) := by decide +kernel
theorem dX8_back_1 : decode cX8_back 1 = .ok (.istore_n 2, 1) := by decide +kernel
theorem dX8_back_2 : decode cX8_back 2 = .ok (.iload_n 2, 1) := by decide +kernel
theorem dX8_back_3 : decode cX8_back 3 = .ok (.bipush 6, 2) := by decide +kernel
theorem dX8_back_5 : decode cX8_back 5 = .ok (.if_icmp .ge 36, 3) := by decide +kernel
theorem dX8_back_8 : decode cX8_back 8 = .ok (.aload_n 0, 1) := by decide +kernel
theorem dX8_back_9 : decode cX8_back 9 = .ok (.getfield 7, 3) := by decide +kernel
theorem dX8_back_12 : decode cX8_back 12 = .ok (.iload_n 2, 1) := by decide +kernel
theorem dX8_back_13 : decode cX8_back 13 = .ok (.aload_n 0, 1) := by decide +kernel
theorem dX8_back_14 : decode cX8_back 14 = .ok (.getfield 46, 3) := by decide +kernel
theorem dX8_back_17 : decode cX8_back 17 = .ok (.iload_n 2, 1) := by decide +kernel
theorem dX8_back_18 : decode cX8_back 18 = .ok (.iaload, 1) := by decide +kernel
theorem dX8_back_19 : decode cX8_back 19 = .ok (.iastore, 1) := by decide +kernel
theorem dX8_back_20 : decode cX8_back 20 = .ok (.aload_n 0, 1) := by decide +kernel
theorem dX8_back_21 : decode cX8_back 21 = .ok (.getfield 13, 3) := by decide +kernel
theorem dX8_back_24 : decode cX8_back 24 = .ok (.iload_n 2, 1) := by decide +kernel
theorem dX8_back_25 : decode cX8_back 25 = .ok (.aload_n 0, 1) := by decide +kernel
theorem dX8_back_26 : decode cX8_back 26 = .ok (.getfield 46, 3) := by decide +kernel
theorem dX8_back_29 : decode cX8_back 29 = .ok (.bipush 6, 2) := by decide +kernel
theorem dX8_back_31 : decode cX8_back 31 = .ok (.iload_n 2, 1) := by decide +kernel
theorem dX8_back_32 : decode cX8_back 32 = .ok (.iadd, 1) := by decide +kernel
theorem dX8_back_33 : decode cX8_back 33 = .ok (.iaload, 1) := by decide +kernel
theorem dX8_back_34 : decode cX8_back 34 = .ok (.iastore, 1) := by decide +kernel
theorem dX8_back_35 : decode cX8_back 35 = .ok (.iinc 2 1, 3) := by decide +kernel
theorem dX8_back_38 : decode cX8_back 38 = .ok (.goto (-36), 3) := by decide +kernel
theorem dX8_back_41 : decode cX8_back 41 = .ok (.iconst 0, 1) := by decide +kernel
theorem dX8_back_42 : decode cX8_back 42 = .ok (.istore_n 2, 1) := by decide +kernel
theorem dX8_back_43 : decode cX8_back 43 = .ok (.iload_n 2, 1) := by decide +kernel
theorem dX8_back_44 : decode cX8_back 44 = .ok (.bipush 36, 2) := by decide +kernel
theorem dX8_back_46 : decode cX8_back 46 = .ok (.if_icmp .ge 24, 3) := by decide +kernel
theorem dX8_back_49 : decode cX8_back 49 = .ok (.aload_n 0, 1) := by decide +kernel
theorem dX8_back_50 : decode cX8_back 50 = .ok (.getfield 16, 3) := by decide +kernel
theorem dX8_back_53 : decode cX8_back 53 = .ok (.iload_n 2, 1) := by decide +kernel
theorem dX8_back_54 : decode cX8_back 54 = .ok (.aload_n 0, 1) := by decide +kernel
theorem dX8_back_55 : decode cX8_back 55 = .ok (.getfield 46, 3) := by decide +kernel
theorem dX8_back_58 : decode cX8_back 58 = .ok (.bipush 12, 2) := by decide +kernel
theorem dX8_back_60 : decode cX8_back 60 = .ok (.iload_n 2, 1) := by decide +kernel
theorem dX8_back_61 : decode cX8_back 61 = .ok (.iadd, 1) := by decide +kernel
theorem dX8_back_62 : decode cX8_back 62 = .ok (.iaload, 1) := by decide +kernel
theorem dX8_back_63 : decode cX8_back 63 = .ok (.iastore, 1) := by decide +kernel
theorem dX8_back_64 : decode cX8_back 64 = .ok (.iinc 2 1, 3) := by decide +kernel
theorem dX8_back_67 : decode cX8_back 67 = .ok (.goto (-24), 3) := by decide +kernel
theorem dX8_back_70 : decode cX8_back 70 = .ok (.iconst 0, 1) := by decide +kernel
theorem dX8_back_71 : decode cX8_back 71 = .ok (.istore_n 2, 1) := by decide +kernel
theorem dX8_back_72 : decode cX8_back 72 = .ok (.iload_n 2, 1) := by decide +kernel
theorem dX8_back_73 : decode cX8_back 73 = .ok (.bipush 8, 2) := by decide +kernel
theorem dX8_back_75 : decode cX8_back 75 = .ok (.if_icmp .ge 24, 3) := by decide +kernel
theorem dX8_back_78 : decode cX8_back 78 = .ok (.aload_n 0, 1) := by decide +kernel
theorem dX8_back_79 : decode cX8_back 79 = .ok (.getfield 22, 3) := by decide +kernel
theorem dX8_back_82 : decode cX8_back 82 = .ok (.iload_n 2, 1) := by decide +kernel
theorem dX8_back_83 : decode cX8_back 83 = .ok (.aload_n 0, 1) := by decide +kernel
theorem dX8_back_84 : decode cX8_back 84 = .ok (.getfield 46, 3) := by decide +kernel
theorem dX8_back_87 : decode cX8_back 87 = .ok (.bipush 48, 2) := by decide +kernel
theorem dX8_back_89 : decode cX8_back 89 = .ok (.iload_n 2, 1) := by decide +kernel
theorem dX8_back_90 : decode cX8_back 90 = .ok (.iadd, 1) := by decide +kernel
theorem dX8_back_91 : decode cX8_back 91 = .ok (.iaload, 1) := by decide +kernel
theorem dX8_back_92 : decode cX8_back 92 = .ok (.iastore, 1) := by decide +kernel
theorem dX8_back_93 : decode cX8_back 93 = .ok (.iinc 2 1, 3) := by decide +kernel
theorem dX8_back_96 : decode cX8_back 96 = .ok (.goto (-24), 3) := by decide +kernel
theorem dX8_back_99 : decode cX8_back 99 = .ok (.aload_n 0, 1) := by decide +kernel
theorem dX8_back_100 : decode cX8_back 100 = .ok (.aload_n 0, 1) := by decide +kernel
theorem dX8_back_101 : decode cX8_back 101 = .ok (.getfield 46, 3) := by decide +kernel
theorem dX8_back_104 : decode cX8_back 104 = .ok (.bipush 56, 2) := by decide +kernel
theorem dX8_back_106 : decode cX8_back 106 = .ok (.iaload, 1) := by decide +kernel
theorem dX8_back_107 : decode cX8_back 107 = .ok (.putfield 98, 3) := by decide +kernel
theorem dX8_back_110 : decode cX8_back 110 = .ok (.aload_n 0, 1) := by decide +kernel
theorem dX8_back_111 : decode cX8_back 111 = .ok (.aload_n 0, 1) := by decide +kernel
theorem dX8_back_112 : decode cX8_back 112 = .ok (.getfield 46, 3) := by decide +kernel
theorem dX8_back_115 : decode cX8_back 115 = .ok (.bipush 57, 2) := by decide +kernel
theorem dX8_back_117 : decode cX8_back 117 = .ok (.iaload, 1) := by decide +kernel
theorem dX8_back_118 : decode cX8_back 118 = .ok (.putfield 102, 3) := by decide +kernel
theorem dX8_back_121 : decode cX8_back 121 = .ok (.aload_n 0, 1) := by decide +kernel
theorem dX8_back_122 : decode cX8_back 122 = .ok (.aload_n 0, 1) := by decide +kernel
theorem dX8_back_123 : decode cX8_back 123 = .ok (.getfield 46, 3) := by decide +kernel
theorem dX8_back_126 : decode cX8_back 126 = .ok (.bipush 58, 2) := by decide +kernel
theorem dX8_back_128 : decode cX8_back 128 = .ok (.iaload, 1) := by decide +kernel
theorem dX8_back_129 : decode cX8_back 129 = .ok (.putfield 183, 3) := by decide +kernel
theorem dX8_back_132 : decode cX8_back 132 = .ok (.aload_n 0, 1) := by decide +kernel
theorem dX8_back_133 : decode cX8_back 133 = .ok (.aload_n 0, 1) := by decide +kernel
theorem dX8_back_134 : decode cX8_back 134 = .ok (.getfield 46, 3) := by decide +kernel
theorem dX8_back_137 : decode cX8_back 137 = .ok (.bipush 59, 2) := by decide +kernel
theorem dX8_back_139 : decode cX8_back 139 = .ok (.iaload, 1) := by decide +kernel
theorem dX8_back_140 : decode cX8_back 140 = .ok (.putfield 180, 3) := by decide +kernel
theorem dX8_back_143 : decode cX8_back 143 = .ok (.iload_n 1, 1) := by decide +kernel
theorem dX8_back_144 : decode cX8_back 144 = .ok (.ireturn, 1) := by decide +kernel
theorem dX8_goMonths_0 : decode cX8_goMonths 0 = .ok (.aload_n 0, 1) := by decide +kernel
theorem dX8_goMonths_1 : decode cX8_goMonths 1 = .ok (.bipush (-6), 2) := by decide +kernel
theorem dX8_goMonths_3 : decode cX8_goMonths 3 = .ok (.putfield 196, 3) := by decide +kernel
theorem dX8_goMonths_6 : decode cX8_goMonths 6 = .ok (.aload_n 0, 1) := by decide +kernel
theorem dX8_goMonths_7 : decode cX8_goMonths 7 = .ok (.bipush (-6), 2) := by decide +kernel
theorem dX8_goMonths_9 : decode cX8_goMonths 9 = .ok (.putfield 199, 3) := by decide +kernel
theorem dX8_goMonths_12 : decode cX8_goMonths 12 = .ok (.aload_n 0, 1) := by decide +kernel
theorem dX8_goMonths_13 : decode cX8_goMonths 13 = .ok (.iconst 0, 1) := by decide +kernel
theorem dX8_goMonths_14 : decode cX8_goMonths 14 = .ok (.putfield 202, 3) := by decide +kernel
theorem dX8_goMonths_17 : decode cX8_goMonths 17 = .ok (.iconst 0, 1) := by decide +kernel
theorem dX8_goMonths_18 : decode cX8_goMonths 18 = .ok (.istore_n 1, 1) := by decide +kernel
theorem dX8_goMonths_19 : decode cX8_goMonths 19 = .ok (.iload_n 1, 1) := by decide +kernel
theorem dX8_goMonths_20 : decode cX8_goMonths 20 = .ok (.aload_n 0, 1) := by decide +kernel
theorem dX8_goMonths_21 : decode cX8_goMonths 21 = .ok (.getfield 112, 3) := by decide +kernel
theorem dX8_goMonths_24 : decode cX8_goMonths 24 = .ok (.if_icmp .ge 131, 3) := by decide +kernel
theorem dX8_goMonths_27 : decode cX8_goMonths 27 = .ok (.aload_n 0, 1) := by decide +kernel
theorem dX8_goMonths_28 : decode cX8_goMonths 28 = .ok (.getfield 196, 3) := by decide +kernel
theorem dX8_goMonths_31 : decode cX8_goMonths 31 = .ok (.ifCond .ge 124, 3) := by decide +kernel
theorem dX8_goMonths_34 : decode cX8_goMonths 34 = .ok (.aload_n 0, 1) := by decide +kernel
theorem dX8_goMonths_35 : decode cX8_goMonths 35 = .ok (.aload_n 0, 1) := by decide +kernel
theorem dX8_goMonths_36 : decode cX8_goMonths 36 = .ok (.getfield 37, 3) := by decide +kernel
theorem dX8_goMonths_39 : decode cX8_goMonths 39 = .ok (.iload_n 1, 1) := by decide +kernel
theorem dX8_goMonths_40 : decode cX8_goMonths 40 = .ok (.iaload, 1) := by decide +kernel
theorem dX8_goMonths_41 : decode cX8_goMonths 41 = .ok (.aload_n 0, 1) := by decide +kernel
theorem dX8_goMonths_42 : decode cX8_goMonths 42 = .ok (.getfield 40, 3) := by decide +kernel
theorem dX8_goMonths_45 : decode cX8_goMonths 45 = .ok (.iload_n 1, 1) := by decide +kernel
theorem dX8_goMonths_46 : decode cX8_goMonths 46 = .ok (.iaload, 1) := by decide +kernel
theorem dX8_goMonths_47 : decode cX8_goMonths 47 = .ok (.aload_n 0, 1) := by decide +kernel
theorem dX8_goMonths_48 : decode cX8_goMonths 48 = .ok (.getfield 43, 3) := by decide +kernel
theorem dX8_goMonths_51 : decode cX8_goMonths 51 = .ok (.iload_n 1, 1) := by decide +kernel
theorem dX8_goMonths_52 : decode cX8_goMonths 52 = .ok (.iaload, 1) := by decide +kernel
theorem dX8_goMonths_53 : decode cX8_goMonths 53 = .ok (.invokevirtual 205, 3) := by decide +kernel
theorem dX8_goMonths_56 : decode cX8_goMonths 56 = .ok (.istore_n 2, 1) := by decide +kernel
theorem dX8_goMonths_57 : decode cX8_goMonths 57 = .ok (.aload_n 0, 1) := by decide +kernel
theorem dX8_goMonths_58 : decode cX8_goMonths 58 = .ok (.iload_n 2, 1) := by decide +kernel
theorem dX8_goMonths_59 : decode cX8_goMonths 59 = .ok (.ifCond .le 7, 3) := by decide +kernel
theorem dX8_goMonths_62 : decode cX8_goMonths 62 = .ok (.iload_n 1, 1) := by decide +kernel
theorem dX8_goMonths_63 : decode cX8_goMonths 63 = .ok (.goto 5, 3) := by decide +kernel
theorem dX8_goMonths_66 : decode cX8_goMonths 66 = .ok (.bipush (-6), 2) := by decide +kernel
theorem dX8_goMonths_68 : decode cX8_goMonths 68 = .ok (.putfield 196, 3) := by decide +kernel
theorem dX8_goMonths_71 : decode cX8_goMonths 71 = .ok (.aload_n 0, 1) := by decide +kernel
theorem dX8_goMonths_72 : decode cX8_goMonths 72 = .ok (.iload_n 2, 1) := by decide +kernel
theorem dX8_goMonths_73 : decode cX8_goMonths 73 = .ok (.ifCond .le 7, 3) := by decide +kernel
theorem dX8_goMonths_76 : decode cX8_goMonths 76 = .ok (.iload_n 2, 1) := by decide +kernel
theorem dX8_goMonths_77 : decode cX8_goMonths 77 = .ok (.goto 5, 3) := by decide +kernel
theorem dX8_goMonths_80 : decode cX8_goMonths 80 = .ok (.bipush (-6), 2) := by decide +kernel
theorem dX8_goMonths_82 : decode cX8_goMonths 82 = .ok (.putfield 199, 3) := by decide +kernel
theorem dX8_goMonths_85 : decode cX8_goMonths 85 = .ok (.iload_n 2, 1) := by decide +kernel
theorem dX8_goMonths_86 : decode cX8_goMonths 86 = .ok (.ifCond .ne 63, 3) := by decide +kernel
theorem dX8_goMonths_89 : decode cX8_goMonths 89 = .ok (.aload_n 0, 1) := by decide +kernel
theorem dX8_goMonths_90 : decode cX8_goMonths 90 = .ok (.aload_n 0, 1) := by decide +kernel
theorem dX8_goMonths_91 : decode cX8_goMonths 91 = .ok (.getfield 37, 3) := by decide +kernel
theorem dX8_goMonths_94 : decode cX8_goMonths 94 = .ok (.iload_n 1, 1) := by decide +kernel
theorem dX8_goMonths_95 : decode cX8_goMonths 95 = .ok (.iaload, 1) := by decide +kernel
theorem dX8_goMonths_96 : decode cX8_goMonths 96 = .ok (.aload_n 0, 1) := by decide +kernel
theorem dX8_goMonths_97 : decode cX8_goMonths 97 = .ok (.getfield 40, 3) := by decide +kernel
theorem dX8_goMonths_100 : decode cX8_goMonths 100 = .ok (.iload_n 1, 1) := by decide +kernel
theorem dX8_goMonths_101 : decode cX8_goMonths 101 = .ok (.iaload, 1) := by decide +kernel
theorem dX8_goMonths_102 : decode cX8_goMonths 102 = .ok (.aload_n 0, 1) := by decide +kernel
theorem dX8_goMonths_103 : decode cX8_goMonths 103 = .ok (.getfield 43, 3) := by decide +kernel
theorem dX8_goMonths_106 : decode cX8_goMonths 106 = .ok (.iload_n 1, 1) := by decide +kernel
theorem dX8_goMonths_107 : decode cX8_goMonths 107 = .ok (.iaload, 1) := by decide +kernel
theorem dX8_goMonths_108 : decode cX8_goMonths 108 = .ok (.invokevirtual 208, 3) := by decide +kernel
theorem dX8_goMonths_111 : decode cX8_goMonths 111 = .ok (.aload_n 0, 1) := by decide +kernel
theorem dX8_goMonths_112 : decode cX8_goMonths 112 = .ok (.getfield 49, 3) := by decide +kernel
theorem dX8_goMonths_115 : decode cX8_goMonths 115 = .ok (.aload_n 0, 1) := by decide +kernel
theorem dX8_goMonths_116 : decode cX8_goMonths 116 = .ok (.getfield 202, 3) := by decide +kernel
theorem dX8_goMonths_119 : decode cX8_goMonths 119 = .ok (.aload_n 0, 1) := by decide +kernel
theorem dX8_goMonths_120 : decode cX8_goMonths 120 = .ok (.invokevirtual 164, 3) := by decide +kernel
theorem dX8_goMonths_123 : decode cX8_goMonths 123 = .ok (.iastore, 1) := by decide +kernel
theorem dX8_goMonths_124 : decode cX8_goMonths 124 = .ok (.aload_n 0, 1) := by decide +kernel
theorem dX8_goMonths_125 : decode cX8_goMonths 125 = .ok (.dup, 1) := by decide +kernel
theorem dX8_goMonths_126 : decode cX8_goMonths 126 = .ok (.getfield 202, 3) := by decide +kernel
theorem dX8_goMonths_129 : decode cX8_goMonths 129 = .ok (.aload_n 0, 1) := by decide +kernel
theorem dX8_goMonths_130 : decode cX8_goMonths 130 = .ok (.getfield 37, 3) := by decide +kernel
theorem dX8_goMonths_133 : decode cX8_goMonths 133 = .ok (.iload_n 1, 1) := by decide +kernel
theorem dX8_goMonths_134 : decode cX8_goMonths 134 = .ok (.iaload, 1) := by decide +kernel
theorem dX8_goMonths_135 : decode cX8_goMonths 135 = .ok (.bipush 6, 2) := by decide +kernel
theorem dX8_goMonths_137 : decode cX8_goMonths 137 = .ok (.if_icmp .ne 7, 3) := by decide +kernel
theorem dX8_goMonths_140 : decode cX8_goMonths 140 = .ok (.iconst 1, 1) := by decide +kernel
theorem dX8_goMonths_141 : decode cX8_goMonths 141 = .ok (.goto 4, 3) := by decide +kernel
theorem dX8_goMonths_144 : decode cX8_goMonths 144 = .ok (.iconst 0, 1) := by decide +kernel
theorem dX8_goMonths_145 : decode cX8_goMonths 145 = .ok (.iadd, 1) := by decide +kernel
theorem dX8_goMonths_146 : decode cX8_goMonths 146 = .ok (.putfield 202, 3) := by decide +kernel
theorem dX8_goMonths_149 : decode cX8_goMonths 149 = .ok (.iinc 1 1, 3) := by decide +kernel
theorem dX8_goMonths_152 : decode cX8_goMonths 152 = .ok (.goto (-133), 3) := by decide +kernel
theorem dX8_goMonths_155 : decode cX8_goMonths 155 = .ok (.return_, 1) := by decide +kernel
theorem dX8_refusal_0 : decode cX8_refusal 0 = .ok (.aload_n 0, 1) := by decide +kernel
theorem dX8_refusal_1 : decode cX8_refusal 1 = .ok (.invokevirtual 212, 3) := by decide +kernel
theorem dX8_refusal_4 : decode cX8_refusal 4 = .ok (.aload_n 0, 1) := by decide +kernel
theorem dX8_refusal_5 : decode cX8_refusal 5 = .ok (.invokevirtual 215, 3) := by decide +kernel
theorem dX8_refusal_8 : decode cX8_refusal 8 = .ok (.ifCond .lt 6, 3) := by decide +kernel
theorem dX8_refusal_11 : decode cX8_refusal 11 = .ok (.bipush (-5), 2) := by decide +kernel
theorem dX8_refusal_13 : decode cX8_refusal 13 = .ok (.ireturn, 1) := by decide +kernel
theorem dX8_refusal_14 : decode cX8_refusal 14 = .ok (.aload_n 0, 1) := by decide +kernel
theorem dX8_refusal_15 : decode cX8_refusal 15 = .ok (.invokevirtual 218, 3) := by decide +kernel
theorem dX8_refusal_18 : decode cX8_refusal 18 = .ok (.aload_n 0, 1) := by decide +kernel
theorem dX8_refusal_19 : decode cX8_refusal 19 = .ok (.getfield 196, 3) := by decide +kernel
theorem dX8_refusal_22 : decode cX8_refusal 22 = .ok (.ifCond .lt 8, 3) := by decide +kernel
theorem dX8_refusal_25 : decode cX8_refusal 25 = .ok (.bipush (-3), 2) := by decide +kernel
theorem dX8_refusal_27 : decode cX8_refusal 27 = .ok (.goto 5, 3) := by decide +kernel
theorem dX8_refusal_30 : decode cX8_refusal 30 = .ok (.bipush (-6), 2) := by decide +kernel
theorem dX8_refusal_32 : decode cX8_refusal 32 = .ok (.ireturn, 1) := by decide +kernel
theorem dX8_judge_0 : decode cX8_judge 0 = .ok (.iload_n 1, 1) := by decide +kernel
theorem dX8_judge_1 : decode cX8_judge 1 = .ok (.i2l, 1) := by decide +kernel
theorem dX8_judge_2 : decode cX8_judge 2 = .ok (.lconst 0, 1) := by decide +kernel
theorem dX8_judge_3 : decode cX8_judge 3 = .ok (.ldc2_w 221, 3) := by decide +kernel
theorem dX8_judge_6 : decode cX8_judge 6 = .ok (.invokestatic 80, 3) := by decide +kernel
theorem dX8_judge_9 : decode cX8_judge 9 = .ok (.ifCond .ne 6, 3) := by decide +kernel
theorem dX8_judge_12 : decode cX8_judge 12 = .ok (.bipush (-2), 2) := by decide +kernel
theorem dX8_judge_14 : decode cX8_judge 14 = .ok (.ireturn, 1) := by decide +kernel
theorem dX8_judge_15 : decode cX8_judge 15 = .ok (.aload_n 0, 1) := by decide +kernel
theorem dX8_judge_16 : decode cX8_judge 16 = .ok (.aload_n 0, 1) := by decide +kernel
theorem dX8_judge_17 : decode cX8_judge 17 = .ok (.invokevirtual 223, 3) := by decide +kernel
theorem dX8_judge_20 : decode cX8_judge 20 = .ok (.invokevirtual 226, 3) := by decide +kernel
theorem dX8_judge_23 : decode cX8_judge 23 = .ok (.istore_n 2, 1) := by decide +kernel
theorem dX8_judge_24 : decode cX8_judge 24 = .ok (.iload_n 2, 1) := by decide +kernel
theorem dX8_judge_25 : decode cX8_judge 25 = .ok (.bipush (-5), 2) := by decide +kernel
theorem dX8_judge_27 : decode cX8_judge 27 = .ok (.if_icmp .eq 14, 3) := by decide +kernel
theorem dX8_judge_30 : decode cX8_judge 30 = .ok (.iload_n 1, 1) := by decide +kernel
theorem dX8_judge_31 : decode cX8_judge 31 = .ok (.iconst 1, 1) := by decide +kernel
theorem dX8_judge_32 : decode cX8_judge 32 = .ok (.if_icmp .le 11, 3) := by decide +kernel
theorem dX8_judge_35 : decode cX8_judge 35 = .ok (.iload_n 2, 1) := by decide +kernel
theorem dX8_judge_36 : decode cX8_judge 36 = .ok (.bipush (-3), 2) := by decide +kernel
theorem dX8_judge_38 : decode cX8_judge 38 = .ok (.if_icmp .ne 5, 3) := by decide +kernel
theorem dX8_judge_41 : decode cX8_judge 41 = .ok (.iload_n 2, 1) := by decide +kernel
theorem dX8_judge_42 : decode cX8_judge 42 = .ok (.ireturn, 1) := by decide +kernel
theorem dX8_judge_43 : decode cX8_judge 43 = .ok (.iload_n 1, 1) := by decide +kernel
theorem dX8_judge_44 : decode cX8_judge 44 = .ok (.ifCond .ne 10, 3) := by decide +kernel
theorem dX8_judge_47 : decode cX8_judge 47 = .ok (.aload_n 0, 1) := by decide +kernel
theorem dX8_judge_48 : decode cX8_judge 48 = .ok (.getfield 196, 3) := by decide +kernel
theorem dX8_judge_51 : decode cX8_judge 51 = .ok (.goto 19, 3) := by decide +kernel
theorem dX8_judge_54 : decode cX8_judge 54 = .ok (.iload_n 1, 1) := by decide +kernel
theorem dX8_judge_55 : decode cX8_judge 55 = .ok (.iconst 1, 1) := by decide +kernel
theorem dX8_judge_56 : decode cX8_judge 56 = .ok (.if_icmp .ne 10, 3) := by decide +kernel
theorem dX8_judge_59 : decode cX8_judge 59 = .ok (.aload_n 0, 1) := by decide +kernel
theorem dX8_judge_60 : decode cX8_judge 60 = .ok (.getfield 199, 3) := by decide +kernel
theorem dX8_judge_63 : decode cX8_judge 63 = .ok (.goto 7, 3) := by decide +kernel
theorem dX8_judge_66 : decode cX8_judge 66 = .ok (.aload_n 0, 1) := by decide +kernel
theorem dX8_judge_67 : decode cX8_judge 67 = .ok (.getfield 202, 3) := by decide +kernel
theorem dX8_judge_70 : decode cX8_judge 70 = .ok (.ireturn, 1) := by decide +kernel
theorem dX8_lotsOf_0 : decode cX8_lotsOf 0 = .ok (.iconst 0, 1) := by decide +kernel
theorem dX8_lotsOf_1 : decode cX8_lotsOf 1 = .ok (.istore_n 2, 1) := by decide +kernel
theorem dX8_lotsOf_2 : decode cX8_lotsOf 2 = .ok (.iconst 0, 1) := by decide +kernel
theorem dX8_lotsOf_3 : decode cX8_lotsOf 3 = .ok (.istore_n 3, 1) := by decide +kernel
theorem dX8_lotsOf_4 : decode cX8_lotsOf 4 = .ok (.iload_n 3, 1) := by decide +kernel
theorem dX8_lotsOf_5 : decode cX8_lotsOf 5 = .ok (.bipush 8, 2) := by decide +kernel
theorem dX8_lotsOf_7 : decode cX8_lotsOf 7 = .ok (.if_icmp .ge 29, 3) := by decide +kernel
theorem dX8_lotsOf_10 : decode cX8_lotsOf 10 = .ok (.iload_n 2, 1) := by decide +kernel
theorem dX8_lotsOf_11 : decode cX8_lotsOf 11 = .ok (.aload_n 0, 1) := by decide +kernel
theorem dX8_lotsOf_12 : decode cX8_lotsOf 12 = .ok (.getfield 22, 3) := by decide +kernel
theorem dX8_lotsOf_15 : decode cX8_lotsOf 15 = .ok (.iload_n 3, 1) := by decide +kernel
theorem dX8_lotsOf_16 : decode cX8_lotsOf 16 = .ok (.iaload, 1) := by decide +kernel
theorem dX8_lotsOf_17 : decode cX8_lotsOf 17 = .ok (.iload_n 1, 1) := by decide +kernel
theorem dX8_lotsOf_18 : decode cX8_lotsOf 18 = .ok (.if_icmp .ne 9, 3) := by decide +kernel
theorem dX8_lotsOf_21 : decode cX8_lotsOf 21 = .ok (.iconst 1, 1) := by decide +kernel
theorem dX8_lotsOf_22 : decode cX8_lotsOf 22 = .ok (.iload_n 3, 1) := by decide +kernel
theorem dX8_lotsOf_23 : decode cX8_lotsOf 23 = .ok (.ishl, 1) := by decide +kernel
theorem dX8_lotsOf_24 : decode cX8_lotsOf 24 = .ok (.goto 4, 3) := by decide +kernel
theorem dX8_lotsOf_27 : decode cX8_lotsOf 27 = .ok (.iconst 0, 1) := by decide +kernel
theorem dX8_lotsOf_28 : decode cX8_lotsOf 28 = .ok (.ior, 1) := by decide +kernel
theorem dX8_lotsOf_29 : decode cX8_lotsOf 29 = .ok (.istore_n 2, 1) := by decide +kernel
theorem dX8_lotsOf_30 : decode cX8_lotsOf 30 = .ok (.iinc 3 1, 3) := by decide +kernel
theorem dX8_lotsOf_33 : decode cX8_lotsOf 33 = .ok (.goto (-29), 3) := by decide +kernel
theorem dX8_lotsOf_36 : decode cX8_lotsOf 36 = .ok (.iload_n 2, 1) := by decide +kernel
theorem dX8_lotsOf_37 : decode cX8_lotsOf 37 = .ok (.ireturn, 1) := by decide +kernel
theorem dX8_owesInAll_0 : decode cX8_owesInAll 0 = .ok (.iconst 0, 1) := by decide +kernel
theorem dX8_owesInAll_1 : decode cX8_owesInAll 1 = .ok (.istore_n 2, 1) := by decide +kernel
theorem dX8_owesInAll_2 : decode cX8_owesInAll 2 = .ok (.iconst 0, 1) := by decide +kernel
theorem dX8_owesInAll_3 : decode cX8_owesInAll 3 = .ok (.istore_n 3, 1) := by decide +kernel
theorem dX8_owesInAll_4 : decode cX8_owesInAll 4 = .ok (.iload_n 3, 1) := by decide +kernel
theorem dX8_owesInAll_5 : decode cX8_owesInAll 5 = .ok (.bipush 6, 2) := by decide +kernel
theorem dX8_owesInAll_7 : decode cX8_owesInAll 7 = .ok (.if_icmp .ge 23, 3) := by decide +kernel
theorem dX8_owesInAll_10 : decode cX8_owesInAll 10 = .ok (.iload_n 2, 1) := by decide +kernel
theorem dX8_owesInAll_11 : decode cX8_owesInAll 11 = .ok (.aload_n 0, 1) := by decide +kernel
theorem dX8_owesInAll_12 : decode cX8_owesInAll 12 = .ok (.getfield 16, 3) := by decide +kernel
theorem dX8_owesInAll_15 : decode cX8_owesInAll 15 = .ok (.bipush 6, 2) := by decide +kernel
theorem dX8_owesInAll_17 : decode cX8_owesInAll 17 = .ok (.iload_n 1, 1) := by decide +kernel
theorem dX8_owesInAll_18 : decode cX8_owesInAll 18 = .ok (.imul, 1) := by decide +kernel
theorem dX8_owesInAll_19 : decode cX8_owesInAll 19 = .ok (.iload_n 3, 1) := by decide +kernel
theorem dX8_owesInAll_20 : decode cX8_owesInAll 20 = .ok (.iadd, 1) := by decide +kernel
theorem dX8_owesInAll_21 : decode cX8_owesInAll 21 = .ok (.iaload, 1) := by decide +kernel
theorem dX8_owesInAll_22 : decode cX8_owesInAll 22 = .ok (.iadd, 1) := by decide +kernel
theorem dX8_owesInAll_23 : decode cX8_owesInAll 23 = .ok (.istore_n 2, 1) := by decide +kernel
theorem dX8_owesInAll_24 : decode cX8_owesInAll 24 = .ok (.iinc 3 1, 3) := by decide +kernel
theorem dX8_owesInAll_27 : decode cX8_owesInAll 27 = .ok (.goto (-23), 3) := by decide +kernel
theorem dX8_owesInAll_30 : decode cX8_owesInAll 30 = .ok (.iload_n 2, 1) := by decide +kernel
theorem dX8_owesInAll_31 : decode cX8_owesInAll 31 = .ok (.ireturn, 1) := by decide +kernel
theorem dX8_ofOne_0 : decode cX8_ofOne 0 = .ok (.iload_n 2, 1) := by decide +kernel
theorem dX8_ofOne_1 : decode cX8_ofOne 1 = .ok (.tableswitch 47 0 2 #[27, 34, 41], 27) := by decide +kernel
theorem dX8_ofOne_28 : decode cX8_ofOne 28 = .ok (.aload_n 0, 1) := by decide +kernel
theorem dX8_ofOne_29 : decode cX8_ofOne 29 = .ok (.getfield 7, 3) := by decide +kernel
theorem dX8_ofOne_32 : decode cX8_ofOne 32 = .ok (.iload_n 1, 1) := by decide +kernel
theorem dX8_ofOne_33 : decode cX8_ofOne 33 = .ok (.iaload, 1) := by decide +kernel
theorem dX8_ofOne_34 : decode cX8_ofOne 34 = .ok (.ireturn, 1) := by decide +kernel
theorem dX8_ofOne_35 : decode cX8_ofOne 35 = .ok (.aload_n 0, 1) := by decide +kernel
theorem dX8_ofOne_36 : decode cX8_ofOne 36 = .ok (.getfield 13, 3) := by decide +kernel
theorem dX8_ofOne_39 : decode cX8_ofOne 39 = .ok (.iload_n 1, 1) := by decide +kernel
theorem dX8_ofOne_40 : decode cX8_ofOne 40 = .ok (.iaload, 1) := by decide +kernel
theorem dX8_ofOne_41 : decode cX8_ofOne 41 = .ok (.ireturn, 1) := by decide +kernel
theorem dX8_ofOne_42 : decode cX8_ofOne 42 = .ok (.aload_n 0, 1) := by decide +kernel
theorem dX8_ofOne_43 : decode cX8_ofOne 43 = .ok (.iload_n 1, 1) := by decide +kernel
theorem dX8_ofOne_44 : decode cX8_ofOne 44 = .ok (.invokevirtual 229, 3) := by decide +kernel
theorem dX8_ofOne_47 : decode cX8_ofOne 47 = .ok (.ireturn, 1) := by decide +kernel
theorem dX8_ofOne_48 : decode cX8_ofOne 48 = .ok (.aload_n 0, 1) := by decide +kernel
theorem dX8_ofOne_49 : decode cX8_ofOne 49 = .ok (.iload_n 1, 1) := by decide +kernel
theorem dX8_ofOne_50 : decode cX8_ofOne 50 = .ok (.invokevirtual 232, 3) := by decide +kernel
theorem dX8_ofOne_53 : decode cX8_ofOne 53 = .ok (.ireturn, 1) := by decide +kernel
theorem dX8_behind_0 : decode cX8_behind 0 = .ok (.iload_n 1, 1) := by decide +kernel
theorem dX8_behind_1 : decode cX8_behind 1 = .ok (.invokestatic 84, 3) := by decide +kernel
theorem dX8_behind_4 : decode cX8_behind 4 = .ok (.ifCond .ne 5, 3) := by decide +kernel
theorem dX8_behind_7 : decode cX8_behind 7 = .ok (.iconst (-1), 1) := by decide +kernel
theorem dX8_behind_8 : decode cX8_behind 8 = .ok (.ireturn, 1) := by decide +kernel
theorem dX8_behind_9 : decode cX8_behind 9 = .ok (.iload_n 2, 1) := by decide +kernel
theorem dX8_behind_10 : decode cX8_behind 10 = .ok (.i2l, 1) := by decide +kernel
theorem dX8_behind_11 : decode cX8_behind 11 = .ok (.lconst 0, 1) := by decide +kernel
theorem dX8_behind_12 : decode cX8_behind 12 = .ok (.ldc2_w 235, 3) := by decide +kernel
theorem dX8_behind_15 : decode cX8_behind 15 = .ok (.invokestatic 80, 3) := by decide +kernel
theorem dX8_behind_18 : decode cX8_behind 18 = .ok (.ifCond .ne 6, 3) := by decide +kernel
theorem dX8_behind_21 : decode cX8_behind 21 = .ok (.bipush (-2), 2) := by decide +kernel
theorem dX8_behind_23 : decode cX8_behind 23 = .ok (.ireturn, 1) := by decide +kernel
theorem dX8_behind_24 : decode cX8_behind 24 = .ok (.aload_n 0, 1) := by decide +kernel
theorem dX8_behind_25 : decode cX8_behind 25 = .ok (.invokevirtual 223, 3) := by decide +kernel
theorem dX8_behind_28 : decode cX8_behind 28 = .ok (.istore_n 3, 1) := by decide +kernel
theorem dX8_behind_29 : decode cX8_behind 29 = .ok (.aload_n 0, 1) := by decide +kernel
theorem dX8_behind_30 : decode cX8_behind 30 = .ok (.iload_n 3, 1) := by decide +kernel
theorem dX8_behind_31 : decode cX8_behind 31 = .ok (.bipush (-6), 2) := by decide +kernel
theorem dX8_behind_33 : decode cX8_behind 33 = .ok (.if_icmp .eq 7, 3) := by decide +kernel
theorem dX8_behind_36 : decode cX8_behind 36 = .ok (.iload_n 3, 1) := by decide +kernel
theorem dX8_behind_37 : decode cX8_behind 37 = .ok (.goto 9, 3) := by decide +kernel
theorem dX8_behind_40 : decode cX8_behind 40 = .ok (.aload_n 0, 1) := by decide +kernel
theorem dX8_behind_41 : decode cX8_behind 41 = .ok (.iload_n 1, 1) := by decide +kernel
theorem dX8_behind_42 : decode cX8_behind 42 = .ok (.iload_n 2, 1) := by decide +kernel
theorem dX8_behind_43 : decode cX8_behind 43 = .ok (.invokevirtual 237, 3) := by decide +kernel
theorem dX8_behind_46 : decode cX8_behind 46 = .ok (.invokevirtual 226, 3) := by decide +kernel
theorem dX8_behind_49 : decode cX8_behind 49 = .ok (.ireturn, 1) := by decide +kernel
theorem dX8_ofAll_0 : decode cX8_ofAll 0 = .ok (.iload_n 1, 1) := by decide +kernel
theorem dX8_ofAll_1 : decode cX8_ofAll 1 = .ok (.tableswitch 60 0 4 #[35, 40, 45, 50, 55], 35) := by decide +kernel
theorem dX8_ofAll_36 : decode cX8_ofAll 36 = .ok (.aload_n 0, 1) := by decide +kernel
theorem dX8_ofAll_37 : decode cX8_ofAll 37 = .ok (.invokevirtual 157, 3) := by decide +kernel
theorem dX8_ofAll_40 : decode cX8_ofAll 40 = .ok (.ireturn, 1) := by decide +kernel
theorem dX8_ofAll_41 : decode cX8_ofAll 41 = .ok (.aload_n 0, 1) := by decide +kernel
theorem dX8_ofAll_42 : decode cX8_ofAll 42 = .ok (.invokevirtual 153, 3) := by decide +kernel
theorem dX8_ofAll_45 : decode cX8_ofAll 45 = .ok (.ireturn, 1) := by decide +kernel
theorem dX8_ofAll_46 : decode cX8_ofAll 46 = .ok (.aload_n 0, 1) := by decide +kernel
theorem dX8_ofAll_47 : decode cX8_ofAll 47 = .ok (.invokevirtual 164, 3) := by decide +kernel
theorem dX8_ofAll_50 : decode cX8_ofAll 50 = .ok (.ireturn, 1) := by decide +kernel
theorem dX8_ofAll_51 : decode cX8_ofAll 51 = .ok (.aload_n 0, 1) := by decide +kernel
theorem dX8_ofAll_52 : decode cX8_ofAll 52 = .ok (.getfield 183, 3) := by decide +kernel
theorem dX8_ofAll_55 : decode cX8_ofAll 55 = .ok (.ireturn, 1) := by decide +kernel
theorem dX8_ofAll_56 : decode cX8_ofAll 56 = .ok (.aload_n 0, 1) := by decide +kernel
theorem dX8_ofAll_57 : decode cX8_ofAll 57 = .ok (.getfield 102, 3) := by decide +kernel
theorem dX8_ofAll_60 : decode cX8_ofAll 60 = .ok (.ireturn, 1) := by decide +kernel
theorem dX8_ofAll_61 : decode cX8_ofAll 61 = .ok (.aload_n 0, 1) := by decide +kernel
theorem dX8_ofAll_62 : decode cX8_ofAll 62 = .ok (.getfield 180, 3) := by decide +kernel
theorem dX8_ofAll_65 : decode cX8_ofAll 65 = .ok (.ireturn, 1) := by decide +kernel
theorem dX8_total_0 : decode cX8_total 0 = .ok (.iload_n 1, 1) := by decide +kernel
theorem dX8_total_1 : decode cX8_total 1 = .ok (.i2l, 1) := by decide +kernel
theorem dX8_total_2 : decode cX8_total 2 = .ok (.lconst 0, 1) := by decide +kernel
theorem dX8_total_3 : decode cX8_total 3 = .ok (.ldc2_w 78, 3) := by decide +kernel
theorem dX8_total_6 : decode cX8_total 6 = .ok (.invokestatic 80, 3) := by decide +kernel
theorem dX8_total_9 : decode cX8_total 9 = .ok (.ifCond .ne 6, 3) := by decide +kernel
theorem dX8_total_12 : decode cX8_total 12 = .ok (.bipush (-2), 2) := by decide +kernel
theorem dX8_total_14 : decode cX8_total 14 = .ok (.ireturn, 1) := by decide +kernel
theorem dX8_total_15 : decode cX8_total 15 = .ok (.aload_n 0, 1) := by decide +kernel
theorem dX8_total_16 : decode cX8_total 16 = .ok (.invokevirtual 223, 3) := by decide +kernel
theorem dX8_total_19 : decode cX8_total 19 = .ok (.istore_n 2, 1) := by decide +kernel
theorem dX8_total_20 : decode cX8_total 20 = .ok (.aload_n 0, 1) := by decide +kernel
theorem dX8_total_21 : decode cX8_total 21 = .ok (.iload_n 2, 1) := by decide +kernel
theorem dX8_total_22 : decode cX8_total 22 = .ok (.bipush (-6), 2) := by decide +kernel
theorem dX8_total_24 : decode cX8_total 24 = .ok (.if_icmp .eq 7, 3) := by decide +kernel
theorem dX8_total_27 : decode cX8_total 27 = .ok (.iload_n 2, 1) := by decide +kernel
theorem dX8_total_28 : decode cX8_total 28 = .ok (.goto 8, 3) := by decide +kernel
theorem dX8_total_31 : decode cX8_total 31 = .ok (.aload_n 0, 1) := by decide +kernel
theorem dX8_total_32 : decode cX8_total 32 = .ok (.iload_n 1, 1) := by decide +kernel
theorem dX8_total_33 : decode cX8_total 33 = .ok (.invokevirtual 240, 3) := by decide +kernel
theorem dX8_total_36 : decode cX8_total 36 = .ok (.invokevirtual 226, 3) := by decide +kernel
theorem dX8_total_39 : decode cX8_total 39 = .ok (.ireturn, 1) := by decide +kernel
theorem dX8_fell_0 : decode cX8_fell 0 = .ok (.iload_n 1, 1) := by decide +kernel
theorem dX8_fell_1 : decode cX8_fell 1 = .ok (.i2l, 1) := by decide +kernel
theorem dX8_fell_2 : decode cX8_fell 2 = .ok (.lconst 0, 1) := by decide +kernel
theorem dX8_fell_3 : decode cX8_fell 3 = .ok (.ldc2_w 151, 3) := by decide +kernel
theorem dX8_fell_6 : decode cX8_fell 6 = .ok (.invokestatic 80, 3) := by decide +kernel
theorem dX8_fell_9 : decode cX8_fell 9 = .ok (.ifCond .ne 6, 3) := by decide +kernel
theorem dX8_fell_12 : decode cX8_fell 12 = .ok (.bipush (-2), 2) := by decide +kernel
theorem dX8_fell_14 : decode cX8_fell 14 = .ok (.ireturn, 1) := by decide +kernel
theorem dX8_fell_15 : decode cX8_fell 15 = .ok (.aload_n 0, 1) := by decide +kernel
theorem dX8_fell_16 : decode cX8_fell 16 = .ok (.aload_n 0, 1) := by decide +kernel
theorem dX8_fell_17 : decode cX8_fell 17 = .ok (.invokevirtual 223, 3) := by decide +kernel
theorem dX8_fell_20 : decode cX8_fell 20 = .ok (.invokevirtual 226, 3) := by decide +kernel
theorem dX8_fell_23 : decode cX8_fell 23 = .ok (.istore_n 2, 1) := by decide +kernel
theorem dX8_fell_24 : decode cX8_fell 24 = .ok (.iload_n 2, 1) := by decide +kernel
theorem dX8_fell_25 : decode cX8_fell 25 = .ok (.bipush (-6), 2) := by decide +kernel
theorem dX8_fell_27 : decode cX8_fell 27 = .ok (.if_icmp .eq 5, 3) := by decide +kernel
theorem dX8_fell_30 : decode cX8_fell 30 = .ok (.iload_n 2, 1) := by decide +kernel
theorem dX8_fell_31 : decode cX8_fell 31 = .ok (.ireturn, 1) := by decide +kernel
theorem dX8_fell_32 : decode cX8_fell 32 = .ok (.iconst 0, 1) := by decide +kernel
theorem dX8_fell_33 : decode cX8_fell 33 = .ok (.istore_n 3, 1) := by decide +kernel
theorem dX8_fell_34 : decode cX8_fell 34 = .ok (.iload_n 3, 1) := by decide +kernel
theorem dX8_fell_35 : decode cX8_fell 35 = .ok (.aload_n 0, 1) := by decide +kernel
theorem dX8_fell_36 : decode cX8_fell 36 = .ok (.getfield 202, 3) := by decide +kernel
theorem dX8_fell_39 : decode cX8_fell 39 = .ok (.if_icmp .ge 21, 3) := by decide +kernel
theorem dX8_fell_42 : decode cX8_fell 42 = .ok (.aload_n 0, 1) := by decide +kernel
theorem dX8_fell_43 : decode cX8_fell 43 = .ok (.getfield 49, 3) := by decide +kernel
theorem dX8_fell_46 : decode cX8_fell 46 = .ok (.iload_n 3, 1) := by decide +kernel
theorem dX8_fell_47 : decode cX8_fell 47 = .ok (.iaload, 1) := by decide +kernel
theorem dX8_fell_48 : decode cX8_fell 48 = .ok (.iload_n 1, 1) := by decide +kernel
theorem dX8_fell_49 : decode cX8_fell 49 = .ok (.if_icmp .ge 5, 3) := by decide +kernel
theorem dX8_fell_52 : decode cX8_fell 52 = .ok (.iload_n 3, 1) := by decide +kernel
theorem dX8_fell_53 : decode cX8_fell 53 = .ok (.ireturn, 1) := by decide +kernel
theorem dX8_fell_54 : decode cX8_fell 54 = .ok (.iinc 3 1, 3) := by decide +kernel
theorem dX8_fell_57 : decode cX8_fell 57 = .ok (.goto (-23), 3) := by decide +kernel
theorem dX8_fell_60 : decode cX8_fell 60 = .ok (.bipush (-6), 2) := by decide +kernel
theorem dX8_fell_62 : decode cX8_fell 62 = .ok (.ireturn, 1) := by decide +kernel
theorem dX8_done_0 : decode cX8_done 0 = .ok (.aload_n 0, 1) := by decide +kernel
theorem dX8_done_1 : decode cX8_done 1 = .ok (.invokevirtual 223, 3) := by decide +kernel
theorem dX8_done_4 : decode cX8_done 4 = .ok (.istore_n 1, 1) := by decide +kernel
theorem dX8_done_5 : decode cX8_done 5 = .ok (.iload_n 1, 1) := by decide +kernel
theorem dX8_done_6 : decode cX8_done 6 = .ok (.bipush (-6), 2) := by decide +kernel
theorem dX8_done_8 : decode cX8_done 8 = .ok (.if_icmp .eq 9, 3) := by decide +kernel
theorem dX8_done_11 : decode cX8_done 11 = .ok (.aload_n 0, 1) := by decide +kernel
theorem dX8_done_12 : decode cX8_done 12 = .ok (.iload_n 1, 1) := by decide +kernel
theorem dX8_done_13 : decode cX8_done 13 = .ok (.invokevirtual 226, 3) := by decide +kernel
theorem dX8_done_16 : decode cX8_done 16 = .ok (.ireturn, 1) := by decide +kernel
theorem dX8_done_17 : decode cX8_done 17 = .ok (.aload_n 0, 1) := by decide +kernel
theorem dX8_done_18 : decode cX8_done 18 = .ok (.iconst 0, 1) := by decide +kernel
theorem dX8_done_19 : decode cX8_done 19 = .ok (.putfield 109, 3) := by decide +kernel
theorem dX8_done_22 : decode cX8_done 22 = .ok (.aload_n 0, 1) := by decide +kernel
theorem dX8_done_23 : decode cX8_done 23 = .ok (.getfield 112, 3) := by decide +kernel
theorem dX8_done_26 : decode cX8_done 26 = .ok (.ireturn, 1) := by decide +kernel
theorem dX8_netOf_0 : decode cX8_netOf 0 = .ok (.iconst 0, 1) := by decide +kernel
theorem dX8_netOf_1 : decode cX8_netOf 1 = .ok (.istore_n 2, 1) := by decide +kernel
theorem dX8_netOf_2 : decode cX8_netOf 2 = .ok (.iconst 0, 1) := by decide +kernel
theorem dX8_netOf_3 : decode cX8_netOf 3 = .ok (.istore_n 3, 1) := by decide +kernel
theorem dX8_netOf_4 : decode cX8_netOf 4 = .ok (.iload_n 3, 1) := by decide +kernel
theorem dX8_netOf_5 : decode cX8_netOf 5 = .ok (.bipush 6, 2) := by decide +kernel
theorem dX8_netOf_7 : decode cX8_netOf 7 = .ok (.if_icmp .ge 31, 3) := by decide +kernel
theorem dX8_netOf_10 : decode cX8_netOf 10 = .ok (.iload_n 2, 1) := by decide +kernel
theorem dX8_netOf_11 : decode cX8_netOf 11 = .ok (.iload_n 1, 1) := by decide +kernel
theorem dX8_netOf_12 : decode cX8_netOf 12 = .ok (.iload_n 3, 1) := by decide +kernel
theorem dX8_netOf_13 : decode cX8_netOf 13 = .ok (.ishr, 1) := by decide +kernel
theorem dX8_netOf_14 : decode cX8_netOf 14 = .ok (.iconst 1, 1) := by decide +kernel
theorem dX8_netOf_15 : decode cX8_netOf 15 = .ok (.iand, 1) := by decide +kernel
theorem dX8_netOf_16 : decode cX8_netOf 16 = .ok (.iconst 1, 1) := by decide +kernel
theorem dX8_netOf_17 : decode cX8_netOf 17 = .ok (.if_icmp .ne 12, 3) := by decide +kernel
theorem dX8_netOf_20 : decode cX8_netOf 20 = .ok (.aload_n 0, 1) := by decide +kernel
theorem dX8_netOf_21 : decode cX8_netOf 21 = .ok (.getfield 52, 3) := by decide +kernel
theorem dX8_netOf_24 : decode cX8_netOf 24 = .ok (.iload_n 3, 1) := by decide +kernel
theorem dX8_netOf_25 : decode cX8_netOf 25 = .ok (.iaload, 1) := by decide +kernel
theorem dX8_netOf_26 : decode cX8_netOf 26 = .ok (.goto 4, 3) := by decide +kernel
theorem dX8_netOf_29 : decode cX8_netOf 29 = .ok (.iconst 0, 1) := by decide +kernel
theorem dX8_netOf_30 : decode cX8_netOf 30 = .ok (.iadd, 1) := by decide +kernel
theorem dX8_netOf_31 : decode cX8_netOf 31 = .ok (.istore_n 2, 1) := by decide +kernel
theorem dX8_netOf_32 : decode cX8_netOf 32 = .ok (.iinc 3 1, 3) := by decide +kernel
theorem dX8_netOf_35 : decode cX8_netOf 35 = .ok (.goto (-31), 3) := by decide +kernel
theorem dX8_netOf_38 : decode cX8_netOf 38 = .ok (.iload_n 2, 1) := by decide +kernel
theorem dX8_netOf_39 : decode cX8_netOf 39 = .ok (.ireturn, 1) := by decide +kernel
theorem dX8_mostEven_0 : decode cX8_mostEven 0 = .ok (.aload_n 0, 1) := by decide +kernel
theorem dX8_mostEven_1 : decode cX8_mostEven 1 = .ok (.iload_n 1, 1) := by decide +kernel
theorem dX8_mostEven_2 : decode cX8_mostEven 2 = .ok (.invokevirtual 243, 3) := by decide +kernel
theorem dX8_mostEven_5 : decode cX8_mostEven 5 = .ok (.ifCond .ne 7, 3) := by decide +kernel
theorem dX8_mostEven_8 : decode cX8_mostEven 8 = .ok (.iconst 1, 1) := by decide +kernel
theorem dX8_mostEven_9 : decode cX8_mostEven 9 = .ok (.goto 5, 3) := by decide +kernel
theorem dX8_mostEven_12 : decode cX8_mostEven 12 = .ok (.bipush (-6), 2) := by decide +kernel
theorem dX8_mostEven_14 : decode cX8_mostEven 14 = .ok (.istore_n 2, 1) := by decide +kernel
theorem dX8_mostEven_15 : decode cX8_mostEven 15 = .ok (.iconst 1, 1) := by decide +kernel
theorem dX8_mostEven_16 : decode cX8_mostEven 16 = .ok (.istore_n 3, 1) := by decide +kernel
theorem dX8_mostEven_17 : decode cX8_mostEven 17 = .ok (.iload_n 3, 1) := by decide +kernel
theorem dX8_mostEven_18 : decode cX8_mostEven 18 = .ok (.iload_n 1, 1) := by decide +kernel
theorem dX8_mostEven_19 : decode cX8_mostEven 19 = .ok (.if_icmp .ge 88, 3) := by decide +kernel
theorem dX8_mostEven_22 : decode cX8_mostEven 22 = .ok (.iload_n 3, 1) := by decide +kernel
theorem dX8_mostEven_23 : decode cX8_mostEven 23 = .ok (.iload_n 1, 1) := by decide +kernel
theorem dX8_mostEven_24 : decode cX8_mostEven 24 = .ok (.iconst (-1), 1) := by decide +kernel
theorem dX8_mostEven_25 : decode cX8_mostEven 25 = .ok (.ixor, 1) := by decide +kernel
theorem dX8_mostEven_26 : decode cX8_mostEven 26 = .ok (.iand, 1) := by decide +kernel
theorem dX8_mostEven_27 : decode cX8_mostEven 27 = .ok (.ifCond .ne 29, 3) := by decide +kernel
theorem dX8_mostEven_30 : decode cX8_mostEven 30 = .ok (.aload_n 0, 1) := by decide +kernel
theorem dX8_mostEven_31 : decode cX8_mostEven 31 = .ok (.getfield 55, 3) := by decide +kernel
theorem dX8_mostEven_34 : decode cX8_mostEven 34 = .ok (.iload_n 3, 1) := by decide +kernel
theorem dX8_mostEven_35 : decode cX8_mostEven 35 = .ok (.iaload, 1) := by decide +kernel
theorem dX8_mostEven_36 : decode cX8_mostEven 36 = .ok (.ifCond .le 20, 3) := by decide +kernel
theorem dX8_mostEven_39 : decode cX8_mostEven 39 = .ok (.aload_n 0, 1) := by decide +kernel
theorem dX8_mostEven_40 : decode cX8_mostEven 40 = .ok (.getfield 55, 3) := by decide +kernel
theorem dX8_mostEven_43 : decode cX8_mostEven 43 = .ok (.iload_n 1, 1) := by decide +kernel
theorem dX8_mostEven_44 : decode cX8_mostEven 44 = .ok (.iload_n 3, 1) := by decide +kernel
theorem dX8_mostEven_45 : decode cX8_mostEven 45 = .ok (.iconst (-1), 1) := by decide +kernel
theorem dX8_mostEven_46 : decode cX8_mostEven 46 = .ok (.ixor, 1) := by decide +kernel
theorem dX8_mostEven_47 : decode cX8_mostEven 47 = .ok (.iand, 1) := by decide +kernel
theorem dX8_mostEven_48 : decode cX8_mostEven 48 = .ok (.iaload, 1) := by decide +kernel
theorem dX8_mostEven_49 : decode cX8_mostEven 49 = .ok (.ifCond .le 7, 3) := by decide +kernel
theorem dX8_mostEven_52 : decode cX8_mostEven 52 = .ok (.iconst 1, 1) := by decide +kernel
theorem dX8_mostEven_53 : decode cX8_mostEven 53 = .ok (.goto 4, 3) := by decide +kernel
theorem dX8_mostEven_56 : decode cX8_mostEven 56 = .ok (.iconst 0, 1) := by decide +kernel
theorem dX8_mostEven_57 : decode cX8_mostEven 57 = .ok (.istore 4, 2) := by decide +kernel
theorem dX8_mostEven_59 : decode cX8_mostEven 59 = .ok (.iload 4, 2) := by decide +kernel
theorem dX8_mostEven_61 : decode cX8_mostEven 61 = .ok (.ifCond .eq 23, 3) := by decide +kernel
theorem dX8_mostEven_64 : decode cX8_mostEven 64 = .ok (.aload_n 0, 1) := by decide +kernel
theorem dX8_mostEven_65 : decode cX8_mostEven 65 = .ok (.getfield 55, 3) := by decide +kernel
theorem dX8_mostEven_68 : decode cX8_mostEven 68 = .ok (.iload_n 3, 1) := by decide +kernel
theorem dX8_mostEven_69 : decode cX8_mostEven 69 = .ok (.iaload, 1) := by decide +kernel
theorem dX8_mostEven_70 : decode cX8_mostEven 70 = .ok (.aload_n 0, 1) := by decide +kernel
theorem dX8_mostEven_71 : decode cX8_mostEven 71 = .ok (.getfield 55, 3) := by decide +kernel
theorem dX8_mostEven_74 : decode cX8_mostEven 74 = .ok (.iload_n 1, 1) := by decide +kernel
theorem dX8_mostEven_75 : decode cX8_mostEven 75 = .ok (.iload_n 3, 1) := by decide +kernel
theorem dX8_mostEven_76 : decode cX8_mostEven 76 = .ok (.iconst (-1), 1) := by decide +kernel
theorem dX8_mostEven_77 : decode cX8_mostEven 77 = .ok (.ixor, 1) := by decide +kernel
theorem dX8_mostEven_78 : decode cX8_mostEven 78 = .ok (.iand, 1) := by decide +kernel
theorem dX8_mostEven_79 : decode cX8_mostEven 79 = .ok (.iaload, 1) := by decide +kernel
theorem dX8_mostEven_80 : decode cX8_mostEven 80 = .ok (.iadd, 1) := by decide +kernel
theorem dX8_mostEven_81 : decode cX8_mostEven 81 = .ok (.goto 5, 3) := by decide +kernel
theorem dX8_mostEven_84 : decode cX8_mostEven 84 = .ok (.bipush (-6), 2) := by decide +kernel
theorem dX8_mostEven_86 : decode cX8_mostEven 86 = .ok (.istore 5, 2) := by decide +kernel
theorem dX8_mostEven_88 : decode cX8_mostEven 88 = .ok (.iload 5, 2) := by decide +kernel
theorem dX8_mostEven_90 : decode cX8_mostEven 90 = .ok (.iload_n 2, 1) := by decide +kernel
theorem dX8_mostEven_91 : decode cX8_mostEven 91 = .ok (.if_icmp .le 8, 3) := by decide +kernel
theorem dX8_mostEven_94 : decode cX8_mostEven 94 = .ok (.iload 5, 2) := by decide +kernel
theorem dX8_mostEven_96 : decode cX8_mostEven 96 = .ok (.goto 4, 3) := by decide +kernel
theorem dX8_mostEven_99 : decode cX8_mostEven 99 = .ok (.iload_n 2, 1) := by decide +kernel
theorem dX8_mostEven_100 : decode cX8_mostEven 100 = .ok (.istore_n 2, 1) := by decide +kernel
theorem dX8_mostEven_101 : decode cX8_mostEven 101 = .ok (.iinc 3 1, 3) := by decide +kernel
theorem dX8_mostEven_104 : decode cX8_mostEven 104 = .ok (.goto (-87), 3) := by decide +kernel
theorem dX8_mostEven_107 : decode cX8_mostEven 107 = .ok (.iload_n 2, 1) := by decide +kernel
theorem dX8_mostEven_108 : decode cX8_mostEven 108 = .ok (.ireturn, 1) := by decide +kernel
theorem dX8_struck_0 : decode cX8_struck 0 = .ok (.iload_n 1, 1) := by decide +kernel
theorem dX8_struck_1 : decode cX8_struck 1 = .ok (.i2l, 1) := by decide +kernel
theorem dX8_struck_2 : decode cX8_struck 2 = .ok (.lconst 0, 1) := by decide +kernel
theorem dX8_struck_3 : decode cX8_struck 3 = .ok (.lconst 1, 1) := by decide +kernel
theorem dX8_struck_4 : decode cX8_struck 4 = .ok (.invokestatic 80, 3) := by decide +kernel
theorem dX8_struck_7 : decode cX8_struck 7 = .ok (.ifCond .ne 6, 3) := by decide +kernel
theorem dX8_struck_10 : decode cX8_struck 10 = .ok (.bipush (-2), 2) := by decide +kernel
theorem dX8_struck_12 : decode cX8_struck 12 = .ok (.ireturn, 1) := by decide +kernel
theorem dX8_struck_13 : decode cX8_struck 13 = .ok (.iconst 0, 1) := by decide +kernel
theorem dX8_struck_14 : decode cX8_struck 14 = .ok (.istore_n 2, 1) := by decide +kernel
theorem dX8_struck_15 : decode cX8_struck 15 = .ok (.iconst 0, 1) := by decide +kernel
theorem dX8_struck_16 : decode cX8_struck 16 = .ok (.istore_n 3, 1) := by decide +kernel
theorem dX8_struck_17 : decode cX8_struck 17 = .ok (.iload_n 3, 1) := by decide +kernel
theorem dX8_struck_18 : decode cX8_struck 18 = .ok (.bipush 6, 2) := by decide +kernel
theorem dX8_struck_20 : decode cX8_struck 20 = .ok (.if_icmp .ge 80, 3) := by decide +kernel
theorem dX8_struck_23 : decode cX8_struck 23 = .ok (.aload_n 0, 1) := by decide +kernel
theorem dX8_struck_24 : decode cX8_struck 24 = .ok (.getfield 52, 3) := by decide +kernel
theorem dX8_struck_27 : decode cX8_struck 27 = .ok (.iload_n 3, 1) := by decide +kernel
theorem dX8_struck_28 : decode cX8_struck 28 = .ok (.aload_n 0, 1) := by decide +kernel
theorem dX8_struck_29 : decode cX8_struck 29 = .ok (.iload_n 3, 1) := by decide +kernel
theorem dX8_struck_30 : decode cX8_struck 30 = .ok (.invokevirtual 232, 3) := by decide +kernel
theorem dX8_struck_33 : decode cX8_struck 33 = .ok (.ineg, 1) := by decide +kernel
theorem dX8_struck_34 : decode cX8_struck 34 = .ok (.iastore, 1) := by decide +kernel
theorem dX8_struck_35 : decode cX8_struck 35 = .ok (.iconst 0, 1) := by decide +kernel
theorem dX8_struck_36 : decode cX8_struck 36 = .ok (.istore 4, 2) := by decide +kernel
theorem dX8_struck_38 : decode cX8_struck 38 = .ok (.iload 4, 2) := by decide +kernel
theorem dX8_struck_40 : decode cX8_struck 40 = .ok (.bipush 6, 2) := by decide +kernel
theorem dX8_struck_42 : decode cX8_struck 42 = .ok (.if_icmp .ge 30, 3) := by decide +kernel
theorem dX8_struck_45 : decode cX8_struck 45 = .ok (.aload_n 0, 1) := by decide +kernel
theorem dX8_struck_46 : decode cX8_struck 46 = .ok (.getfield 52, 3) := by decide +kernel
theorem dX8_struck_49 : decode cX8_struck 49 = .ok (.iload_n 3, 1) := by decide +kernel
theorem dX8_struck_50 : decode cX8_struck 50 = .ok (.dup2, 1) := by decide +kernel
theorem dX8_struck_51 : decode cX8_struck 51 = .ok (.iaload, 1) := by decide +kernel
theorem dX8_struck_52 : decode cX8_struck 52 = .ok (.aload_n 0, 1) := by decide +kernel
theorem dX8_struck_53 : decode cX8_struck 53 = .ok (.getfield 16, 3) := by decide +kernel
theorem dX8_struck_56 : decode cX8_struck 56 = .ok (.bipush 6, 2) := by decide +kernel
theorem dX8_struck_58 : decode cX8_struck 58 = .ok (.iload 4, 2) := by decide +kernel
theorem dX8_struck_60 : decode cX8_struck 60 = .ok (.imul, 1) := by decide +kernel
theorem dX8_struck_61 : decode cX8_struck 61 = .ok (.iload_n 3, 1) := by decide +kernel
theorem dX8_struck_62 : decode cX8_struck 62 = .ok (.iadd, 1) := by decide +kernel
theorem dX8_struck_63 : decode cX8_struck 63 = .ok (.iaload, 1) := by decide +kernel
theorem dX8_struck_64 : decode cX8_struck 64 = .ok (.iadd, 1) := by decide +kernel
theorem dX8_struck_65 : decode cX8_struck 65 = .ok (.iastore, 1) := by decide +kernel
theorem dX8_struck_66 : decode cX8_struck 66 = .ok (.iinc 4 1, 3) := by decide +kernel
theorem dX8_struck_69 : decode cX8_struck 69 = .ok (.goto (-31), 3) := by decide +kernel
theorem dX8_struck_72 : decode cX8_struck 72 = .ok (.iload_n 2, 1) := by decide +kernel
theorem dX8_struck_73 : decode cX8_struck 73 = .ok (.aload_n 0, 1) := by decide +kernel
theorem dX8_struck_74 : decode cX8_struck 74 = .ok (.getfield 52, 3) := by decide +kernel
theorem dX8_struck_77 : decode cX8_struck 77 = .ok (.iload_n 3, 1) := by decide +kernel
theorem dX8_struck_78 : decode cX8_struck 78 = .ok (.iaload, 1) := by decide +kernel
theorem dX8_struck_79 : decode cX8_struck 79 = .ok (.ifCond .le 12, 3) := by decide +kernel
theorem dX8_struck_82 : decode cX8_struck 82 = .ok (.aload_n 0, 1) := by decide +kernel
theorem dX8_struck_83 : decode cX8_struck 83 = .ok (.getfield 52, 3) := by decide +kernel
theorem dX8_struck_86 : decode cX8_struck 86 = .ok (.iload_n 3, 1) := by decide +kernel
theorem dX8_struck_87 : decode cX8_struck 87 = .ok (.iaload, 1) := by decide +kernel
theorem dX8_struck_88 : decode cX8_struck 88 = .ok (.goto 4, 3) := by decide +kernel
theorem dX8_struck_91 : decode cX8_struck 91 = .ok (.iconst 0, 1) := by decide +kernel
theorem dX8_struck_92 : decode cX8_struck 92 = .ok (.iadd, 1) := by decide +kernel
theorem dX8_struck_93 : decode cX8_struck 93 = .ok (.istore_n 2, 1) := by decide +kernel
theorem dX8_struck_94 : decode cX8_struck 94 = .ok (.iinc 3 1, 3) := by decide +kernel
theorem dX8_struck_97 : decode cX8_struck 97 = .ok (.goto (-80), 3) := by decide +kernel
theorem dX8_struck_100 : decode cX8_struck 100 = .ok (.iload_n 1, 1) := by decide +kernel
theorem dX8_struck_101 : decode cX8_struck 101 = .ok (.iconst 1, 1) := by decide +kernel
theorem dX8_struck_102 : decode cX8_struck 102 = .ok (.if_icmp .ne 5, 3) := by decide +kernel
theorem dX8_struck_105 : decode cX8_struck 105 = .ok (.iload_n 2, 1) := by decide +kernel
theorem dX8_struck_106 : decode cX8_struck 106 = .ok (.ireturn, 1) := by decide +kernel
theorem dX8_struck_107 : decode cX8_struck 107 = .ok (.iconst 1, 1) := by decide +kernel
theorem dX8_struck_108 : decode cX8_struck 108 = .ok (.istore_n 3, 1) := by decide +kernel
theorem dX8_struck_109 : decode cX8_struck 109 = .ok (.iload_n 3, 1) := by decide +kernel
theorem dX8_struck_110 : decode cX8_struck 110 = .ok (.bipush 64, 2) := by decide +kernel
theorem dX8_struck_112 : decode cX8_struck 112 = .ok (.if_icmp .ge 20, 3) := by decide +kernel
theorem dX8_struck_115 : decode cX8_struck 115 = .ok (.aload_n 0, 1) := by decide +kernel
theorem dX8_struck_116 : decode cX8_struck 116 = .ok (.getfield 55, 3) := by decide +kernel
theorem dX8_struck_119 : decode cX8_struck 119 = .ok (.iload_n 3, 1) := by decide +kernel
theorem dX8_struck_120 : decode cX8_struck 120 = .ok (.aload_n 0, 1) := by decide +kernel
theorem dX8_struck_121 : decode cX8_struck 121 = .ok (.iload_n 3, 1) := by decide +kernel
theorem dX8_struck_122 : decode cX8_struck 122 = .ok (.invokevirtual 246, 3) := by decide +kernel
theorem dX8_struck_125 : decode cX8_struck 125 = .ok (.iastore, 1) := by decide +kernel
theorem dX8_struck_126 : decode cX8_struck 126 = .ok (.iinc 3 1, 3) := by decide +kernel
theorem dX8_struck_129 : decode cX8_struck 129 = .ok (.goto (-20), 3) := by decide +kernel
theorem dX8_struck_132 : decode cX8_struck 132 = .ok (.bipush 6, 2) := by decide +kernel
theorem dX8_struck_134 : decode cX8_struck 134 = .ok (.aload_n 0, 1) := by decide +kernel
theorem dX8_struck_135 : decode cX8_struck 135 = .ok (.getfield 55, 3) := by decide +kernel
theorem dX8_struck_138 : decode cX8_struck 138 = .ok (.bipush 63, 2) := by decide +kernel
theorem dX8_struck_140 : decode cX8_struck 140 = .ok (.iaload, 1) := by decide +kernel
theorem dX8_struck_141 : decode cX8_struck 141 = .ok (.isub, 1) := by decide +kernel
theorem dX8_struck_142 : decode cX8_struck 142 = .ok (.ireturn, 1) := by decide +kernel
theorem dX8_prints_0 : decode cX8_prints 0 = .ok (.iload_n 1, 1) := by decide +kernel
theorem dX8_prints_1 : decode cX8_prints 1 = .ok (.i2l, 1) := by decide +kernel
theorem dX8_prints_2 : decode cX8_prints 2 = .ok (.lconst 1, 1) := by decide +kernel
theorem dX8_prints_3 : decode cX8_prints 3 = .ok (.ldc2_w 151, 3) := by decide +kernel
theorem dX8_prints_6 : decode cX8_prints 6 = .ok (.invokestatic 80, 3) := by decide +kernel
theorem dX8_prints_9 : decode cX8_prints 9 = .ok (.ifCond .ne 6, 3) := by decide +kernel
theorem dX8_prints_12 : decode cX8_prints 12 = .ok (.bipush (-2), 2) := by decide +kernel
theorem dX8_prints_14 : decode cX8_prints 14 = .ok (.ireturn, 1) := by decide +kernel
theorem dX8_prints_15 : decode cX8_prints 15 = .ok (.bipush (-6), 2) := by decide +kernel
theorem dX8_prints_17 : decode cX8_prints 17 = .ok (.istore_n 2, 1) := by decide +kernel
theorem dX8_prints_18 : decode cX8_prints 18 = .ok (.iconst 0, 1) := by decide +kernel
theorem dX8_prints_19 : decode cX8_prints 19 = .ok (.istore_n 3, 1) := by decide +kernel
theorem dX8_prints_20 : decode cX8_prints 20 = .ok (.iload_n 3, 1) := by decide +kernel
theorem dX8_prints_21 : decode cX8_prints 21 = .ok (.sipush 999, 3) := by decide +kernel
theorem dX8_prints_24 : decode cX8_prints 24 = .ok (.if_icmp .gt 38, 3) := by decide +kernel
theorem dX8_prints_27 : decode cX8_prints 27 = .ok (.aload_n 0, 1) := by decide +kernel
theorem dX8_prints_28 : decode cX8_prints 28 = .ok (.invokevirtual 153, 3) := by decide +kernel
theorem dX8_prints_31 : decode cX8_prints 31 = .ok (.aload_n 0, 1) := by decide +kernel
theorem dX8_prints_32 : decode cX8_prints 32 = .ok (.invokevirtual 157, 3) := by decide +kernel
theorem dX8_prints_35 : decode cX8_prints 35 = .ok (.i2l, 1) := by decide +kernel
theorem dX8_prints_36 : decode cX8_prints 36 = .ok (.ldc2_w 151, 3) := by decide +kernel
theorem dX8_prints_39 : decode cX8_prints 39 = .ok (.iload_n 3, 1) := by decide +kernel
theorem dX8_prints_40 : decode cX8_prints 40 = .ok (.i2l, 1) := by decide +kernel
theorem dX8_prints_41 : decode cX8_prints 41 = .ok (.lmul, 1) := by decide +kernel
theorem dX8_prints_42 : decode cX8_prints 42 = .ok (.ladd, 1) := by decide +kernel
theorem dX8_prints_43 : decode cX8_prints 43 = .ok (.invokestatic 160, 3) := by decide +kernel
theorem dX8_prints_46 : decode cX8_prints 46 = .ok (.iload_n 1, 1) := by decide +kernel
theorem dX8_prints_47 : decode cX8_prints 47 = .ok (.if_icmp .lt 7, 3) := by decide +kernel
theorem dX8_prints_50 : decode cX8_prints 50 = .ok (.iload_n 3, 1) := by decide +kernel
theorem dX8_prints_51 : decode cX8_prints 51 = .ok (.goto 4, 3) := by decide +kernel
theorem dX8_prints_54 : decode cX8_prints 54 = .ok (.iload_n 2, 1) := by decide +kernel
theorem dX8_prints_55 : decode cX8_prints 55 = .ok (.istore_n 2, 1) := by decide +kernel
theorem dX8_prints_56 : decode cX8_prints 56 = .ok (.iinc 3 1, 3) := by decide +kernel
theorem dX8_prints_59 : decode cX8_prints 59 = .ok (.goto (-39), 3) := by decide +kernel
theorem dX8_prints_62 : decode cX8_prints 62 = .ok (.iload_n 2, 1) := by decide +kernel
theorem dX8_prints_63 : decode cX8_prints 63 = .ok (.ireturn, 1) := by decide +kernel
theorem dX8_pricesOf_0 : decode cX8_pricesOf 0 = .ok (.iconst 0, 1) := by decide +kernel
theorem dX8_pricesOf_1 : decode cX8_pricesOf 1 = .ok (.istore_n 2, 1) := by decide +kernel
theorem dX8_pricesOf_2 : decode cX8_pricesOf 2 = .ok (.iconst 0, 1) := by decide +kernel
theorem dX8_pricesOf_3 : decode cX8_pricesOf 3 = .ok (.istore_n 3, 1) := by decide +kernel
theorem dX8_pricesOf_4 : decode cX8_pricesOf 4 = .ok (.iload_n 3, 1) := by decide +kernel
theorem dX8_pricesOf_5 : decode cX8_pricesOf 5 = .ok (.bipush 8, 2) := by decide +kernel
theorem dX8_pricesOf_7 : decode cX8_pricesOf 7 = .ok (.if_icmp .ge 31, 3) := by decide +kernel
theorem dX8_pricesOf_10 : decode cX8_pricesOf 10 = .ok (.iload_n 2, 1) := by decide +kernel
theorem dX8_pricesOf_11 : decode cX8_pricesOf 11 = .ok (.iload_n 1, 1) := by decide +kernel
theorem dX8_pricesOf_12 : decode cX8_pricesOf 12 = .ok (.iload_n 3, 1) := by decide +kernel
theorem dX8_pricesOf_13 : decode cX8_pricesOf 13 = .ok (.ishr, 1) := by decide +kernel
theorem dX8_pricesOf_14 : decode cX8_pricesOf 14 = .ok (.iconst 1, 1) := by decide +kernel
theorem dX8_pricesOf_15 : decode cX8_pricesOf 15 = .ok (.iand, 1) := by decide +kernel
theorem dX8_pricesOf_16 : decode cX8_pricesOf 16 = .ok (.iconst 1, 1) := by decide +kernel
theorem dX8_pricesOf_17 : decode cX8_pricesOf 17 = .ok (.if_icmp .ne 12, 3) := by decide +kernel
theorem dX8_pricesOf_20 : decode cX8_pricesOf 20 = .ok (.aload_n 0, 1) := by decide +kernel
theorem dX8_pricesOf_21 : decode cX8_pricesOf 21 = .ok (.getfield 19, 3) := by decide +kernel
theorem dX8_pricesOf_24 : decode cX8_pricesOf 24 = .ok (.iload_n 3, 1) := by decide +kernel
theorem dX8_pricesOf_25 : decode cX8_pricesOf 25 = .ok (.iaload, 1) := by decide +kernel
theorem dX8_pricesOf_26 : decode cX8_pricesOf 26 = .ok (.goto 4, 3) := by decide +kernel
theorem dX8_pricesOf_29 : decode cX8_pricesOf 29 = .ok (.iconst 0, 1) := by decide +kernel
theorem dX8_pricesOf_30 : decode cX8_pricesOf 30 = .ok (.iadd, 1) := by decide +kernel
theorem dX8_pricesOf_31 : decode cX8_pricesOf 31 = .ok (.istore_n 2, 1) := by decide +kernel
theorem dX8_pricesOf_32 : decode cX8_pricesOf 32 = .ok (.iinc 3 1, 3) := by decide +kernel
theorem dX8_pricesOf_35 : decode cX8_pricesOf 35 = .ok (.goto (-31), 3) := by decide +kernel
theorem dX8_pricesOf_38 : decode cX8_pricesOf 38 = .ok (.iload_n 2, 1) := by decide +kernel
theorem dX8_pricesOf_39 : decode cX8_pricesOf 39 = .ok (.ireturn, 1) := by decide +kernel
theorem dX8_buys_0 : decode cX8_buys 0 = .ok (.iload_n 1, 1) := by decide +kernel
theorem dX8_buys_1 : decode cX8_buys 1 = .ok (.i2l, 1) := by decide +kernel
theorem dX8_buys_2 : decode cX8_buys 2 = .ok (.lconst 0, 1) := by decide +kernel
theorem dX8_buys_3 : decode cX8_buys 3 = .ok (.ldc2_w 88, 3) := by decide +kernel
theorem dX8_buys_6 : decode cX8_buys 6 = .ok (.invokestatic 80, 3) := by decide +kernel
theorem dX8_buys_9 : decode cX8_buys 9 = .ok (.ifCond .eq 13, 3) := by decide +kernel
theorem dX8_buys_12 : decode cX8_buys 12 = .ok (.iload_n 2, 1) := by decide +kernel
theorem dX8_buys_13 : decode cX8_buys 13 = .ok (.i2l, 1) := by decide +kernel
theorem dX8_buys_14 : decode cX8_buys 14 = .ok (.lconst 0, 1) := by decide +kernel
theorem dX8_buys_15 : decode cX8_buys 15 = .ok (.lconst 1, 1) := by decide +kernel
theorem dX8_buys_16 : decode cX8_buys 16 = .ok (.invokestatic 80, 3) := by decide +kernel
theorem dX8_buys_19 : decode cX8_buys 19 = .ok (.ifCond .ne 6, 3) := by decide +kernel
theorem dX8_buys_22 : decode cX8_buys 22 = .ok (.bipush (-2), 2) := by decide +kernel
theorem dX8_buys_24 : decode cX8_buys 24 = .ok (.ireturn, 1) := by decide +kernel
theorem dX8_buys_25 : decode cX8_buys 25 = .ok (.aload_n 0, 1) := by decide +kernel
theorem dX8_buys_26 : decode cX8_buys 26 = .ok (.bipush (-6), 2) := by decide +kernel
theorem dX8_buys_28 : decode cX8_buys 28 = .ok (.invokevirtual 229, 3) := by decide +kernel
theorem dX8_buys_31 : decode cX8_buys 31 = .ok (.istore_n 3, 1) := by decide +kernel
theorem dX8_buys_32 : decode cX8_buys 32 = .ok (.iconst 0, 1) := by decide +kernel
theorem dX8_buys_33 : decode cX8_buys 33 = .ok (.istore 4, 2) := by decide +kernel
theorem dX8_buys_35 : decode cX8_buys 35 = .ok (.iconst 1, 1) := by decide +kernel
theorem dX8_buys_36 : decode cX8_buys 36 = .ok (.istore 5, 2) := by decide +kernel
theorem dX8_buys_38 : decode cX8_buys 38 = .ok (.iload 5, 2) := by decide +kernel
theorem dX8_buys_40 : decode cX8_buys 40 = .ok (.sipush 256, 3) := by decide +kernel
theorem dX8_buys_43 : decode cX8_buys 43 = .ok (.if_icmp .ge 64, 3) := by decide +kernel
theorem dX8_buys_46 : decode cX8_buys 46 = .ok (.iload 5, 2) := by decide +kernel
theorem dX8_buys_48 : decode cX8_buys 48 = .ok (.iload_n 3, 1) := by decide +kernel
theorem dX8_buys_49 : decode cX8_buys 49 = .ok (.iconst (-1), 1) := by decide +kernel
theorem dX8_buys_50 : decode cX8_buys 50 = .ok (.ixor, 1) := by decide +kernel
theorem dX8_buys_51 : decode cX8_buys 51 = .ok (.iand, 1) := by decide +kernel
theorem dX8_buys_52 : decode cX8_buys 52 = .ok (.ifCond .ne 17, 3) := by decide +kernel
theorem dX8_buys_55 : decode cX8_buys 55 = .ok (.aload_n 0, 1) := by decide +kernel
theorem dX8_buys_56 : decode cX8_buys 56 = .ok (.iload 5, 2) := by decide +kernel
theorem dX8_buys_58 : decode cX8_buys 58 = .ok (.invokevirtual 249, 3) := by decide +kernel
theorem dX8_buys_61 : decode cX8_buys 61 = .ok (.iload_n 1, 1) := by decide +kernel
theorem dX8_buys_62 : decode cX8_buys 62 = .ok (.if_icmp .gt 7, 3) := by decide +kernel
theorem dX8_buys_65 : decode cX8_buys 65 = .ok (.iconst 1, 1) := by decide +kernel
theorem dX8_buys_66 : decode cX8_buys 66 = .ok (.goto 4, 3) := by decide +kernel
theorem dX8_buys_69 : decode cX8_buys 69 = .ok (.iconst 0, 1) := by decide +kernel
theorem dX8_buys_70 : decode cX8_buys 70 = .ok (.istore 6, 2) := by decide +kernel
theorem dX8_buys_72 : decode cX8_buys 72 = .ok (.iload 6, 2) := by decide +kernel
theorem dX8_buys_74 : decode cX8_buys 74 = .ok (.ifCond .eq 23, 3) := by decide +kernel
theorem dX8_buys_77 : decode cX8_buys 77 = .ok (.aload_n 0, 1) := by decide +kernel
theorem dX8_buys_78 : decode cX8_buys 78 = .ok (.iload 5, 2) := by decide +kernel
theorem dX8_buys_80 : decode cX8_buys 80 = .ok (.invokevirtual 249, 3) := by decide +kernel
theorem dX8_buys_83 : decode cX8_buys 83 = .ok (.aload_n 0, 1) := by decide +kernel
theorem dX8_buys_84 : decode cX8_buys 84 = .ok (.iload 4, 2) := by decide +kernel
theorem dX8_buys_86 : decode cX8_buys 86 = .ok (.invokevirtual 249, 3) := by decide +kernel
theorem dX8_buys_89 : decode cX8_buys 89 = .ok (.if_icmp .le 8, 3) := by decide +kernel
theorem dX8_buys_92 : decode cX8_buys 92 = .ok (.iload 5, 2) := by decide +kernel
theorem dX8_buys_94 : decode cX8_buys 94 = .ok (.goto 5, 3) := by decide +kernel
theorem dX8_buys_97 : decode cX8_buys 97 = .ok (.iload 4, 2) := by decide +kernel
theorem dX8_buys_99 : decode cX8_buys 99 = .ok (.istore 4, 2) := by decide +kernel
theorem dX8_buys_101 : decode cX8_buys 101 = .ok (.iinc 5 1, 3) := by decide +kernel
theorem dX8_buys_104 : decode cX8_buys 104 = .ok (.goto (-66), 3) := by decide +kernel
theorem dX8_buys_107 : decode cX8_buys 107 = .ok (.iload_n 2, 1) := by decide +kernel
theorem dX8_buys_108 : decode cX8_buys 108 = .ok (.ifCond .ne 12, 3) := by decide +kernel
theorem dX8_buys_111 : decode cX8_buys 111 = .ok (.aload_n 0, 1) := by decide +kernel
theorem dX8_buys_112 : decode cX8_buys 112 = .ok (.iload 4, 2) := by decide +kernel
theorem dX8_buys_114 : decode cX8_buys 114 = .ok (.invokevirtual 249, 3) := by decide +kernel
theorem dX8_buys_117 : decode cX8_buys 117 = .ok (.goto 5, 3) := by decide +kernel
theorem dX8_buys_120 : decode cX8_buys 120 = .ok (.iload 4, 2) := by decide +kernel
theorem dX8_buys_122 : decode cX8_buys 122 = .ok (.ireturn, 1) := by decide +kernel
theorem dX8_runs_0 : decode cX8_runs 0 = .ok (.iload_n 1, 1) := by decide +kernel
theorem dX8_runs_1 : decode cX8_runs 1 = .ok (.i2l, 1) := by decide +kernel
theorem dX8_runs_2 : decode cX8_runs 2 = .ok (.lconst 1, 1) := by decide +kernel
theorem dX8_runs_3 : decode cX8_runs 3 = .ok (.ldc2_w 96, 3) := by decide +kernel
theorem dX8_runs_6 : decode cX8_runs 6 = .ok (.invokestatic 80, 3) := by decide +kernel
theorem dX8_runs_9 : decode cX8_runs 9 = .ok (.ifCond .eq 27, 3) := by decide +kernel
theorem dX8_runs_12 : decode cX8_runs 12 = .ok (.iload_n 2, 1) := by decide +kernel
theorem dX8_runs_13 : decode cX8_runs 13 = .ok (.i2l, 1) := by decide +kernel
theorem dX8_runs_14 : decode cX8_runs 14 = .ok (.lconst 0, 1) := by decide +kernel
theorem dX8_runs_15 : decode cX8_runs 15 = .ok (.ldc2_w 252, 3) := by decide +kernel
theorem dX8_runs_18 : decode cX8_runs 18 = .ok (.invokestatic 80, 3) := by decide +kernel
theorem dX8_runs_21 : decode cX8_runs 21 = .ok (.ifCond .eq 15, 3) := by decide +kernel
theorem dX8_runs_24 : decode cX8_runs 24 = .ok (.iload_n 3, 1) := by decide +kernel
theorem dX8_runs_25 : decode cX8_runs 25 = .ok (.i2l, 1) := by decide +kernel
theorem dX8_runs_26 : decode cX8_runs 26 = .ok (.lconst 1, 1) := by decide +kernel
theorem dX8_runs_27 : decode cX8_runs 27 = .ok (.ldc2_w 151, 3) := by decide +kernel
theorem dX8_runs_30 : decode cX8_runs 30 = .ok (.invokestatic 80, 3) := by decide +kernel
theorem dX8_runs_33 : decode cX8_runs 33 = .ok (.ifCond .ne 6, 3) := by decide +kernel
theorem dX8_runs_36 : decode cX8_runs 36 = .ok (.bipush (-2), 2) := by decide +kernel
theorem dX8_runs_38 : decode cX8_runs 38 = .ok (.ireturn, 1) := by decide +kernel
theorem dX8_runs_39 : decode cX8_runs 39 = .ok (.iload_n 1, 1) := by decide +kernel
theorem dX8_runs_40 : decode cX8_runs 40 = .ok (.i2l, 1) := by decide +kernel
theorem dX8_runs_41 : decode cX8_runs 41 = .ok (.lstore 4, 2) := by decide +kernel
theorem dX8_runs_43 : decode cX8_runs 43 = .ok (.iconst 0, 1) := by decide +kernel
theorem dX8_runs_44 : decode cX8_runs 44 = .ok (.istore 6, 2) := by decide +kernel
theorem dX8_runs_46 : decode cX8_runs 46 = .ok (.iload 6, 2) := by decide +kernel
theorem dX8_runs_48 : decode cX8_runs 48 = .ok (.bipush 100, 2) := by decide +kernel
theorem dX8_runs_50 : decode cX8_runs 50 = .ok (.if_icmp .gt 54, 3) := by decide +kernel
theorem dX8_runs_53 : decode cX8_runs 53 = .ok (.aload_n 0, 1) := by decide +kernel
theorem dX8_runs_54 : decode cX8_runs 54 = .ok (.invokevirtual 153, 3) := by decide +kernel
theorem dX8_runs_57 : decode cX8_runs 57 = .ok (.lload 4, 2) := by decide +kernel
theorem dX8_runs_59 : decode cX8_runs 59 = .ok (.invokestatic 160, 3) := by decide +kernel
theorem dX8_runs_62 : decode cX8_runs 62 = .ok (.istore 7, 2) := by decide +kernel
theorem dX8_runs_64 : decode cX8_runs 64 = .ok (.iload 7, 2) := by decide +kernel
theorem dX8_runs_66 : decode cX8_runs 66 = .ok (.iload_n 3, 1) := by decide +kernel
theorem dX8_runs_67 : decode cX8_runs 67 = .ok (.if_icmp .ge 6, 3) := by decide +kernel
theorem dX8_runs_70 : decode cX8_runs 70 = .ok (.iload 6, 2) := by decide +kernel
theorem dX8_runs_72 : decode cX8_runs 72 = .ok (.ireturn, 1) := by decide +kernel
theorem dX8_runs_73 : decode cX8_runs 73 = .ok (.lload 4, 2) := by decide +kernel
theorem dX8_runs_75 : decode cX8_runs 75 = .ok (.lload 4, 2) := by decide +kernel
theorem dX8_runs_77 : decode cX8_runs 77 = .ok (.iload_n 2, 1) := by decide +kernel
theorem dX8_runs_78 : decode cX8_runs 78 = .ok (.i2l, 1) := by decide +kernel
theorem dX8_runs_79 : decode cX8_runs 79 = .ok (.lmul, 1) := by decide +kernel
theorem dX8_runs_80 : decode cX8_runs 80 = .ok (.ldc2_w 151, 3) := by decide +kernel
theorem dX8_runs_83 : decode cX8_runs 83 = .ok (.ldiv, 1) := by decide +kernel
theorem dX8_runs_84 : decode cX8_runs 84 = .ok (.ldc2_w 151, 3) := by decide +kernel
theorem dX8_runs_87 : decode cX8_runs 87 = .ok (.bipush 100, 2) := by decide +kernel
theorem dX8_runs_89 : decode cX8_runs 89 = .ok (.iload 7, 2) := by decide +kernel
theorem dX8_runs_91 : decode cX8_runs 91 = .ok (.isub, 1) := by decide +kernel
theorem dX8_runs_92 : decode cX8_runs 92 = .ok (.i2l, 1) := by decide +kernel
theorem dX8_runs_93 : decode cX8_runs 93 = .ok (.lmul, 1) := by decide +kernel
theorem dX8_runs_94 : decode cX8_runs 94 = .ok (.ladd, 1) := by decide +kernel
theorem dX8_runs_95 : decode cX8_runs 95 = .ok (.ladd, 1) := by decide +kernel
theorem dX8_runs_96 : decode cX8_runs 96 = .ok (.lstore 4, 2) := by decide +kernel
theorem dX8_runs_98 : decode cX8_runs 98 = .ok (.iinc 6 1, 3) := by decide +kernel
theorem dX8_runs_101 : decode cX8_runs 101 = .ok (.goto (-55), 3) := by decide +kernel
theorem dX8_runs_104 : decode cX8_runs 104 = .ok (.bipush (-6), 2) := by decide +kernel
theorem dX8_runs_106 : decode cX8_runs 106 = .ok (.ireturn, 1) := by decide +kernel
theorem dX8_wages_0 : decode cX8_wages 0 = .ok (.iload_n 1, 1) := by decide +kernel
theorem dX8_wages_1 : decode cX8_wages 1 = .ok (.i2l, 1) := by decide +kernel
theorem dX8_wages_2 : decode cX8_wages 2 = .ok (.lconst 0, 1) := by decide +kernel
theorem dX8_wages_3 : decode cX8_wages 3 = .ok (.ldc2_w 254, 3) := by decide +kernel
theorem dX8_wages_6 : decode cX8_wages 6 = .ok (.invokestatic 80, 3) := by decide +kernel
theorem dX8_wages_9 : decode cX8_wages 9 = .ok (.ifCond .eq 15, 3) := by decide +kernel
theorem dX8_wages_12 : decode cX8_wages 12 = .ok (.iload_n 2, 1) := by decide +kernel
theorem dX8_wages_13 : decode cX8_wages 13 = .ok (.i2l, 1) := by decide +kernel
theorem dX8_wages_14 : decode cX8_wages 14 = .ok (.lconst 0, 1) := by decide +kernel
theorem dX8_wages_15 : decode cX8_wages 15 = .ok (.ldc2_w 256, 3) := by decide +kernel
theorem dX8_wages_18 : decode cX8_wages 18 = .ok (.invokestatic 80, 3) := by decide +kernel
theorem dX8_wages_21 : decode cX8_wages 21 = .ok (.ifCond .ne 6, 3) := by decide +kernel
theorem dX8_wages_24 : decode cX8_wages 24 = .ok (.bipush (-2), 2) := by decide +kernel
theorem dX8_wages_26 : decode cX8_wages 26 = .ok (.ireturn, 1) := by decide +kernel
theorem dX8_wages_27 : decode cX8_wages 27 = .ok (.iload_n 1, 1) := by decide +kernel
theorem dX8_wages_28 : decode cX8_wages 28 = .ok (.istore_n 3, 1) := by decide +kernel
theorem dX8_wages_29 : decode cX8_wages 29 = .ok (.bipush 8, 2) := by decide +kernel
theorem dX8_wages_31 : decode cX8_wages 31 = .ok (.istore 4, 2) := by decide +kernel
theorem dX8_wages_33 : decode cX8_wages 33 = .ok (.iload 4, 2) := by decide +kernel
theorem dX8_wages_35 : decode cX8_wages 35 = .ok (.ifCond .lt 25, 3) := by decide +kernel
theorem dX8_wages_38 : decode cX8_wages 38 = .ok (.aload_n 0, 1) := by decide +kernel
theorem dX8_wages_39 : decode cX8_wages 39 = .ok (.getfield 58, 3) := by decide +kernel
theorem dX8_wages_42 : decode cX8_wages 42 = .ok (.iload 4, 2) := by decide +kernel
theorem dX8_wages_44 : decode cX8_wages 44 = .ok (.iload_n 3, 1) := by decide +kernel
theorem dX8_wages_45 : decode cX8_wages 45 = .ok (.bipush 10, 2) := by decide +kernel
theorem dX8_wages_47 : decode cX8_wages 47 = .ok (.irem, 1) := by decide +kernel
theorem dX8_wages_48 : decode cX8_wages 48 = .ok (.iastore, 1) := by decide +kernel
theorem dX8_wages_49 : decode cX8_wages 49 = .ok (.iload_n 3, 1) := by decide +kernel
theorem dX8_wages_50 : decode cX8_wages 50 = .ok (.bipush 10, 2) := by decide +kernel
theorem dX8_wages_52 : decode cX8_wages 52 = .ok (.idiv, 1) := by decide +kernel
theorem dX8_wages_53 : decode cX8_wages 53 = .ok (.istore_n 3, 1) := by decide +kernel
theorem dX8_wages_54 : decode cX8_wages 54 = .ok (.iinc 4 (-1), 3) := by decide +kernel
theorem dX8_wages_57 : decode cX8_wages 57 = .ok (.goto (-24), 3) := by decide +kernel
theorem dX8_wages_60 : decode cX8_wages 60 = .ok (.iconst 0, 1) := by decide +kernel
theorem dX8_wages_61 : decode cX8_wages 61 = .ok (.istore 4, 2) := by decide +kernel
theorem dX8_wages_63 : decode cX8_wages 63 = .ok (.iconst 0, 1) := by decide +kernel
theorem dX8_wages_64 : decode cX8_wages 64 = .ok (.istore 5, 2) := by decide +kernel
theorem dX8_wages_66 : decode cX8_wages 66 = .ok (.iload 5, 2) := by decide +kernel
theorem dX8_wages_68 : decode cX8_wages 68 = .ok (.bipush 9, 2) := by decide +kernel
theorem dX8_wages_70 : decode cX8_wages 70 = .ok (.if_icmp .ge 61, 3) := by decide +kernel
theorem dX8_wages_73 : decode cX8_wages 73 = .ok (.iload 5, 2) := by decide +kernel
theorem dX8_wages_75 : decode cX8_wages 75 = .ok (.iload_n 2, 1) := by decide +kernel
theorem dX8_wages_76 : decode cX8_wages 76 = .ok (.if_icmp .ge 7, 3) := by decide +kernel
theorem dX8_wages_79 : decode cX8_wages 79 = .ok (.iconst 0, 1) := by decide +kernel
theorem dX8_wages_80 : decode cX8_wages 80 = .ok (.goto 12, 3) := by decide +kernel
theorem dX8_wages_83 : decode cX8_wages 83 = .ok (.aload_n 0, 1) := by decide +kernel
theorem dX8_wages_84 : decode cX8_wages 84 = .ok (.getfield 58, 3) := by decide +kernel
theorem dX8_wages_87 : decode cX8_wages 87 = .ok (.iload 5, 2) := by decide +kernel
theorem dX8_wages_89 : decode cX8_wages 89 = .ok (.iload_n 2, 1) := by decide +kernel
theorem dX8_wages_90 : decode cX8_wages 90 = .ok (.isub, 1) := by decide +kernel
theorem dX8_wages_91 : decode cX8_wages 91 = .ok (.iaload, 1) := by decide +kernel
theorem dX8_wages_92 : decode cX8_wages 92 = .ok (.istore 6, 2) := by decide +kernel
theorem dX8_wages_94 : decode cX8_wages 94 = .ok (.iload 4, 2) := by decide +kernel
theorem dX8_wages_96 : decode cX8_wages 96 = .ok (.aload_n 0, 1) := by decide +kernel
theorem dX8_wages_97 : decode cX8_wages 97 = .ok (.getfield 58, 3) := by decide +kernel
theorem dX8_wages_100 : decode cX8_wages 100 = .ok (.iload 5, 2) := by decide +kernel
theorem dX8_wages_102 : decode cX8_wages 102 = .ok (.iaload, 1) := by decide +kernel
theorem dX8_wages_103 : decode cX8_wages 103 = .ok (.iload 6, 2) := by decide +kernel
theorem dX8_wages_105 : decode cX8_wages 105 = .ok (.if_icmp .le 16, 3) := by decide +kernel
theorem dX8_wages_108 : decode cX8_wages 108 = .ok (.aload_n 0, 1) := by decide +kernel
theorem dX8_wages_109 : decode cX8_wages 109 = .ok (.getfield 58, 3) := by decide +kernel
theorem dX8_wages_112 : decode cX8_wages 112 = .ok (.iload 5, 2) := by decide +kernel
theorem dX8_wages_114 : decode cX8_wages 114 = .ok (.iaload, 1) := by decide +kernel
theorem dX8_wages_115 : decode cX8_wages 115 = .ok (.iload 6, 2) := by decide +kernel
theorem dX8_wages_117 : decode cX8_wages 117 = .ok (.isub, 1) := by decide +kernel
theorem dX8_wages_118 : decode cX8_wages 118 = .ok (.goto 4, 3) := by decide +kernel
theorem dX8_wages_121 : decode cX8_wages 121 = .ok (.iconst 0, 1) := by decide +kernel
theorem dX8_wages_122 : decode cX8_wages 122 = .ok (.iadd, 1) := by decide +kernel
theorem dX8_wages_123 : decode cX8_wages 123 = .ok (.istore 4, 2) := by decide +kernel
theorem dX8_wages_125 : decode cX8_wages 125 = .ok (.iinc 5 1, 3) := by decide +kernel
theorem dX8_wages_128 : decode cX8_wages 128 = .ok (.goto (-62), 3) := by decide +kernel
theorem dX8_wages_131 : decode cX8_wages 131 = .ok (.iload 4, 2) := by decide +kernel
theorem dX8_wages_133 : decode cX8_wages 133 = .ok (.ireturn, 1) := by decide +kernel
theorem dX8_lowest_0 : decode cX8_lowest 0 = .ok (.lload_n 2, 1) := by decide +kernel
theorem dX8_lowest_1 : decode cX8_lowest 1 = .ok (.lstore 5, 2) := by decide +kernel
theorem dX8_lowest_3 : decode cX8_lowest 3 = .ok (.lload_n 0, 1) := by decide +kernel
theorem dX8_lowest_4 : decode cX8_lowest 4 = .ok (.lstore 7, 2) := by decide +kernel
theorem dX8_lowest_6 : decode cX8_lowest 6 = .ok (.lload 7, 2) := by decide +kernel
theorem dX8_lowest_8 : decode cX8_lowest 8 = .ok (.lconst 0, 1) := by decide +kernel
theorem dX8_lowest_9 : decode cX8_lowest 9 = .ok (.lcmp, 1) := by decide +kernel
theorem dX8_lowest_10 : decode cX8_lowest 10 = .ok (.ifCond .eq 21, 3) := by decide +kernel
theorem dX8_lowest_13 : decode cX8_lowest 13 = .ok (.lload 5, 2) := by decide +kernel
theorem dX8_lowest_15 : decode cX8_lowest 15 = .ok (.lload 7, 2) := by decide +kernel
theorem dX8_lowest_17 : decode cX8_lowest 17 = .ok (.lrem, 1) := by decide +kernel
theorem dX8_lowest_18 : decode cX8_lowest 18 = .ok (.lstore 9, 2) := by decide +kernel
theorem dX8_lowest_20 : decode cX8_lowest 20 = .ok (.lload 7, 2) := by decide +kernel
theorem dX8_lowest_22 : decode cX8_lowest 22 = .ok (.lstore 5, 2) := by decide +kernel
theorem dX8_lowest_24 : decode cX8_lowest 24 = .ok (.lload 9, 2) := by decide +kernel
theorem dX8_lowest_26 : decode cX8_lowest 26 = .ok (.lstore 7, 2) := by decide +kernel
theorem dX8_lowest_28 : decode cX8_lowest 28 = .ok (.goto (-22), 3) := by decide +kernel
theorem dX8_lowest_31 : decode cX8_lowest 31 = .ok (.iload 4, 2) := by decide +kernel
theorem dX8_lowest_33 : decode cX8_lowest 33 = .ok (.ifCond .ne 10, 3) := by decide +kernel
theorem dX8_lowest_36 : decode cX8_lowest 36 = .ok (.lload_n 0, 1) := by decide +kernel
theorem dX8_lowest_37 : decode cX8_lowest 37 = .ok (.lload 5, 2) := by decide +kernel
theorem dX8_lowest_39 : decode cX8_lowest 39 = .ok (.ldiv, 1) := by decide +kernel
theorem dX8_lowest_40 : decode cX8_lowest 40 = .ok (.goto 7, 3) := by decide +kernel
theorem dX8_lowest_43 : decode cX8_lowest 43 = .ok (.lload_n 2, 1) := by decide +kernel
theorem dX8_lowest_44 : decode cX8_lowest 44 = .ok (.lload 5, 2) := by decide +kernel
theorem dX8_lowest_46 : decode cX8_lowest 46 = .ok (.ldiv, 1) := by decide +kernel
theorem dX8_lowest_47 : decode cX8_lowest 47 = .ok (.lreturn, 1) := by decide +kernel
theorem dX8_change_0 : decode cX8_change 0 = .ok (.iload_n 1, 1) := by decide +kernel
theorem dX8_change_1 : decode cX8_change 1 = .ok (.i2l, 1) := by decide +kernel
theorem dX8_change_2 : decode cX8_change 2 = .ok (.lconst 0, 1) := by decide +kernel
theorem dX8_change_3 : decode cX8_change 3 = .ok (.ldc2_w 258, 3) := by decide +kernel
theorem dX8_change_6 : decode cX8_change 6 = .ok (.invokestatic 80, 3) := by decide +kernel
theorem dX8_change_9 : decode cX8_change 9 = .ok (.ifCond .eq 49, 3) := by decide +kernel
theorem dX8_change_12 : decode cX8_change 12 = .ok (.iload_n 2, 1) := by decide +kernel
theorem dX8_change_13 : decode cX8_change 13 = .ok (.i2l, 1) := by decide +kernel
theorem dX8_change_14 : decode cX8_change 14 = .ok (.lconst 0, 1) := by decide +kernel
theorem dX8_change_15 : decode cX8_change 15 = .ok (.ldc2_w 256, 3) := by decide +kernel
theorem dX8_change_18 : decode cX8_change 18 = .ok (.invokestatic 80, 3) := by decide +kernel
theorem dX8_change_21 : decode cX8_change 21 = .ok (.ifCond .eq 37, 3) := by decide +kernel
theorem dX8_change_24 : decode cX8_change 24 = .ok (.iload_n 3, 1) := by decide +kernel
theorem dX8_change_25 : decode cX8_change 25 = .ok (.i2l, 1) := by decide +kernel
theorem dX8_change_26 : decode cX8_change 26 = .ok (.lconst 0, 1) := by decide +kernel
theorem dX8_change_27 : decode cX8_change 27 = .ok (.ldc2_w 260, 3) := by decide +kernel
theorem dX8_change_30 : decode cX8_change 30 = .ok (.invokestatic 80, 3) := by decide +kernel
theorem dX8_change_33 : decode cX8_change 33 = .ok (.ifCond .eq 25, 3) := by decide +kernel
theorem dX8_change_36 : decode cX8_change 36 = .ok (.iload 4, 2) := by decide +kernel
theorem dX8_change_38 : decode cX8_change 38 = .ok (.i2l, 1) := by decide +kernel
theorem dX8_change_39 : decode cX8_change 39 = .ok (.lconst 0, 1) := by decide +kernel
theorem dX8_change_40 : decode cX8_change 40 = .ok (.lconst 1, 1) := by decide +kernel
theorem dX8_change_41 : decode cX8_change 41 = .ok (.invokestatic 80, 3) := by decide +kernel
theorem dX8_change_44 : decode cX8_change 44 = .ok (.ifCond .eq 14, 3) := by decide +kernel
theorem dX8_change_47 : decode cX8_change 47 = .ok (.iload 5, 2) := by decide +kernel
theorem dX8_change_49 : decode cX8_change 49 = .ok (.i2l, 1) := by decide +kernel
theorem dX8_change_50 : decode cX8_change 50 = .ok (.lconst 0, 1) := by decide +kernel
theorem dX8_change_51 : decode cX8_change 51 = .ok (.lconst 1, 1) := by decide +kernel
theorem dX8_change_52 : decode cX8_change 52 = .ok (.invokestatic 80, 3) := by decide +kernel
theorem dX8_change_55 : decode cX8_change 55 = .ok (.ifCond .ne 7, 3) := by decide +kernel
theorem dX8_change_58 : decode cX8_change 58 = .ok (.ldc2_w 262, 3) := by decide +kernel
theorem dX8_change_61 : decode cX8_change 61 = .ok (.lreturn, 1) := by decide +kernel
theorem dX8_change_62 : decode cX8_change 62 = .ok (.iconst 0, 1) := by decide +kernel
theorem dX8_change_63 : decode cX8_change 63 = .ok (.istore 6, 2) := by decide +kernel
theorem dX8_change_65 : decode cX8_change 65 = .ok (.iload 6, 2) := by decide +kernel
theorem dX8_change_67 : decode cX8_change 67 = .ok (.bipush 70, 2) := by decide +kernel
theorem dX8_change_69 : decode cX8_change 69 = .ok (.if_icmp .ge 19, 3) := by decide +kernel
theorem dX8_change_72 : decode cX8_change 72 = .ok (.aload_n 0, 1) := by decide +kernel
theorem dX8_change_73 : decode cX8_change 73 = .ok (.getfield 61, 3) := by decide +kernel
theorem dX8_change_76 : decode cX8_change 76 = .ok (.iload 6, 2) := by decide +kernel
theorem dX8_change_78 : decode cX8_change 78 = .ok (.iload 6, 2) := by decide +kernel
theorem dX8_change_80 : decode cX8_change 80 = .ok (.i2l, 1) := by decide +kernel
theorem dX8_change_81 : decode cX8_change 81 = .ok (.lastore, 1) := by decide +kernel
theorem dX8_change_82 : decode cX8_change 82 = .ok (.iinc 6 1, 3) := by decide +kernel
theorem dX8_change_85 : decode cX8_change 85 = .ok (.goto (-20), 3) := by decide +kernel
theorem dX8_change_88 : decode cX8_change 88 = .ok (.lconst 1, 1) := by decide +kernel
theorem dX8_change_89 : decode cX8_change 89 = .ok (.lstore 6, 2) := by decide +kernel
theorem dX8_change_91 : decode cX8_change 91 = .ok (.iconst 1, 1) := by decide +kernel
theorem dX8_change_92 : decode cX8_change 92 = .ok (.istore 8, 2) := by decide +kernel
theorem dX8_change_94 : decode cX8_change 94 = .ok (.iconst 1, 1) := by decide +kernel
theorem dX8_change_95 : decode cX8_change 95 = .ok (.istore 9, 2) := by decide +kernel
theorem dX8_change_97 : decode cX8_change 97 = .ok (.iload 9, 2) := by decide +kernel
theorem dX8_change_99 : decode cX8_change 99 = .ok (.iload_n 2, 1) := by decide +kernel
theorem dX8_change_100 : decode cX8_change 100 = .ok (.if_icmp .gt 170, 3) := by decide +kernel
theorem dX8_change_103 : decode cX8_change 103 = .ok (.lload 6, 2) := by decide +kernel
theorem dX8_change_105 : decode cX8_change 105 = .ok (.ldc2_w 260, 3) := by decide +kernel
theorem dX8_change_108 : decode cX8_change 108 = .ok (.lmul, 1) := by decide +kernel
theorem dX8_change_109 : decode cX8_change 109 = .ok (.lstore 6, 2) := by decide +kernel
theorem dX8_change_111 : decode cX8_change 111 = .ok (.iconst 0, 1) := by decide +kernel
theorem dX8_change_112 : decode cX8_change 112 = .ok (.istore 10, 2) := by decide +kernel
theorem dX8_change_114 : decode cX8_change 114 = .ok (.iload 10, 2) := by decide +kernel
theorem dX8_change_116 : decode cX8_change 116 = .ok (.bipush 69, 2) := by decide +kernel
theorem dX8_change_118 : decode cX8_change 118 = .ok (.iload 9, 2) := by decide +kernel
theorem dX8_change_120 : decode cX8_change 120 = .ok (.isub, 1) := by decide +kernel
theorem dX8_change_121 : decode cX8_change 121 = .ok (.if_icmp .ge 110, 3) := by decide +kernel
theorem dX8_change_124 : decode cX8_change 124 = .ok (.iload_n 3, 1) := by decide +kernel
theorem dX8_change_125 : decode cX8_change 125 = .ok (.i2l, 1) := by decide +kernel
theorem dX8_change_126 : decode cX8_change 126 = .ok (.aload_n 0, 1) := by decide +kernel
theorem dX8_change_127 : decode cX8_change 127 = .ok (.getfield 61, 3) := by decide +kernel
theorem dX8_change_130 : decode cX8_change 130 = .ok (.iload 10, 2) := by decide +kernel
theorem dX8_change_132 : decode cX8_change 132 = .ok (.iconst 3, 1) := by decide +kernel
theorem dX8_change_133 : decode cX8_change 133 = .ok (.if_icmp .le 10, 3) := by decide +kernel
theorem dX8_change_136 : decode cX8_change 136 = .ok (.iload 10, 2) := by decide +kernel
theorem dX8_change_138 : decode cX8_change 138 = .ok (.iconst 3, 1) := by decide +kernel
theorem dX8_change_139 : decode cX8_change 139 = .ok (.isub, 1) := by decide +kernel
theorem dX8_change_140 : decode cX8_change 140 = .ok (.goto 4, 3) := by decide +kernel
theorem dX8_change_143 : decode cX8_change 143 = .ok (.iconst 0, 1) := by decide +kernel
theorem dX8_change_144 : decode cX8_change 144 = .ok (.laload, 1) := by decide +kernel
theorem dX8_change_145 : decode cX8_change 145 = .ok (.lmul, 1) := by decide +kernel
theorem dX8_change_146 : decode cX8_change 146 = .ok (.ldc2_w 260, 3) := by decide +kernel
theorem dX8_change_149 : decode cX8_change 149 = .ok (.iload_n 3, 1) := by decide +kernel
theorem dX8_change_150 : decode cX8_change 150 = .ok (.i2l, 1) := by decide +kernel
theorem dX8_change_151 : decode cX8_change 151 = .ok (.lsub, 1) := by decide +kernel
theorem dX8_change_152 : decode cX8_change 152 = .ok (.aload_n 0, 1) := by decide +kernel
theorem dX8_change_153 : decode cX8_change 153 = .ok (.getfield 61, 3) := by decide +kernel
theorem dX8_change_156 : decode cX8_change 156 = .ok (.iload 10, 2) := by decide +kernel
theorem dX8_change_158 : decode cX8_change 158 = .ok (.iconst 1, 1) := by decide +kernel
theorem dX8_change_159 : decode cX8_change 159 = .ok (.iadd, 1) := by decide +kernel
theorem dX8_change_160 : decode cX8_change 160 = .ok (.laload, 1) := by decide +kernel
theorem dX8_change_161 : decode cX8_change 161 = .ok (.lmul, 1) := by decide +kernel
theorem dX8_change_162 : decode cX8_change 162 = .ok (.ladd, 1) := by decide +kernel
theorem dX8_change_163 : decode cX8_change 163 = .ok (.lstore 11, 2) := by decide +kernel
theorem dX8_change_165 : decode cX8_change 165 = .ok (.iload 10, 2) := by decide +kernel
theorem dX8_change_167 : decode cX8_change 167 = .ok (.iload_n 1, 1) := by decide +kernel
theorem dX8_change_168 : decode cX8_change 168 = .ok (.if_icmp .ne 23, 3) := by decide +kernel
theorem dX8_change_171 : decode cX8_change 171 = .ok (.iload 10, 2) := by decide +kernel
theorem dX8_change_173 : decode cX8_change 173 = .ok (.i2l, 1) := by decide +kernel
theorem dX8_change_174 : decode cX8_change 174 = .ok (.lload 6, 2) := by decide +kernel
theorem dX8_change_176 : decode cX8_change 176 = .ok (.lmul, 1) := by decide +kernel
theorem dX8_change_177 : decode cX8_change 177 = .ok (.lload 11, 2) := by decide +kernel
theorem dX8_change_179 : decode cX8_change 179 = .ok (.lcmp, 1) := by decide +kernel
theorem dX8_change_180 : decode cX8_change 180 = .ok (.ifCond .lt 7, 3) := by decide +kernel
theorem dX8_change_183 : decode cX8_change 183 = .ok (.iconst 1, 1) := by decide +kernel
theorem dX8_change_184 : decode cX8_change 184 = .ok (.goto 9, 3) := by decide +kernel
theorem dX8_change_187 : decode cX8_change 187 = .ok (.iconst 0, 1) := by decide +kernel
theorem dX8_change_188 : decode cX8_change 188 = .ok (.goto 5, 3) := by decide +kernel
theorem dX8_change_191 : decode cX8_change 191 = .ok (.iload 8, 2) := by decide +kernel
theorem dX8_change_193 : decode cX8_change 193 = .ok (.istore 8, 2) := by decide +kernel
theorem dX8_change_195 : decode cX8_change 195 = .ok (.aload_n 0, 1) := by decide +kernel
theorem dX8_change_196 : decode cX8_change 196 = .ok (.getfield 65, 3) := by decide +kernel
theorem dX8_change_199 : decode cX8_change 199 = .ok (.iload 10, 2) := by decide +kernel
theorem dX8_change_201 : decode cX8_change 201 = .ok (.iload 10, 2) := by decide +kernel
theorem dX8_change_203 : decode cX8_change 203 = .ok (.i2l, 1) := by decide +kernel
theorem dX8_change_204 : decode cX8_change 204 = .ok (.lload 6, 2) := by decide +kernel
theorem dX8_change_206 : decode cX8_change 206 = .ok (.lmul, 1) := by decide +kernel
theorem dX8_change_207 : decode cX8_change 207 = .ok (.lload 11, 2) := by decide +kernel
theorem dX8_change_209 : decode cX8_change 209 = .ok (.lcmp, 1) := by decide +kernel
theorem dX8_change_210 : decode cX8_change 210 = .ok (.ifCond .lt 12, 3) := by decide +kernel
theorem dX8_change_213 : decode cX8_change 213 = .ok (.iload 10, 2) := by decide +kernel
theorem dX8_change_215 : decode cX8_change 215 = .ok (.i2l, 1) := by decide +kernel
theorem dX8_change_216 : decode cX8_change 216 = .ok (.lload 6, 2) := by decide +kernel
theorem dX8_change_218 : decode cX8_change 218 = .ok (.lmul, 1) := by decide +kernel
theorem dX8_change_219 : decode cX8_change 219 = .ok (.goto 5, 3) := by decide +kernel
theorem dX8_change_222 : decode cX8_change 222 = .ok (.lload 11, 2) := by decide +kernel
theorem dX8_change_224 : decode cX8_change 224 = .ok (.lastore, 1) := by decide +kernel
theorem dX8_change_225 : decode cX8_change 225 = .ok (.iinc 10 1, 3) := by decide +kernel
theorem dX8_change_228 : decode cX8_change 228 = .ok (.goto (-114), 3) := by decide +kernel
theorem dX8_change_231 : decode cX8_change 231 = .ok (.iconst 0, 1) := by decide +kernel
theorem dX8_change_232 : decode cX8_change 232 = .ok (.istore 10, 2) := by decide +kernel
theorem dX8_change_234 : decode cX8_change 234 = .ok (.iload 10, 2) := by decide +kernel
theorem dX8_change_236 : decode cX8_change 236 = .ok (.bipush 69, 2) := by decide +kernel
theorem dX8_change_238 : decode cX8_change 238 = .ok (.iload 9, 2) := by decide +kernel
theorem dX8_change_240 : decode cX8_change 240 = .ok (.isub, 1) := by decide +kernel
theorem dX8_change_241 : decode cX8_change 241 = .ok (.if_icmp .ge 23, 3) := by decide +kernel
theorem dX8_change_244 : decode cX8_change 244 = .ok (.aload_n 0, 1) := by decide +kernel
theorem dX8_change_245 : decode cX8_change 245 = .ok (.getfield 61, 3) := by decide +kernel
theorem dX8_change_248 : decode cX8_change 248 = .ok (.iload 10, 2) := by decide +kernel
theorem dX8_change_250 : decode cX8_change 250 = .ok (.aload_n 0, 1) := by decide +kernel
theorem dX8_change_251 : decode cX8_change 251 = .ok (.getfield 65, 3) := by decide +kernel
theorem dX8_change_254 : decode cX8_change 254 = .ok (.iload 10, 2) := by decide +kernel
theorem dX8_change_256 : decode cX8_change 256 = .ok (.laload, 1) := by decide +kernel
theorem dX8_change_257 : decode cX8_change 257 = .ok (.lastore, 1) := by decide +kernel
theorem dX8_change_258 : decode cX8_change 258 = .ok (.iinc 10 1, 3) := by decide +kernel
theorem dX8_change_261 : decode cX8_change 261 = .ok (.goto (-27), 3) := by decide +kernel
theorem dX8_change_264 : decode cX8_change 264 = .ok (.iinc 9 1, 3) := by decide +kernel
theorem dX8_change_267 : decode cX8_change 267 = .ok (.goto (-170), 3) := by decide +kernel
theorem dX8_change_270 : decode cX8_change 270 = .ok (.iload 4, 2) := by decide +kernel
theorem dX8_change_272 : decode cX8_change 272 = .ok (.iconst 1, 1) := by decide +kernel
theorem dX8_change_273 : decode cX8_change 273 = .ok (.if_icmp .ne 16, 3) := by decide +kernel
theorem dX8_change_276 : decode cX8_change 276 = .ok (.iload 8, 2) := by decide +kernel
theorem dX8_change_278 : decode cX8_change 278 = .ok (.ifCond .eq 7, 3) := by decide +kernel
theorem dX8_change_281 : decode cX8_change 281 = .ok (.lconst 1, 1) := by decide +kernel
theorem dX8_change_282 : decode cX8_change 282 = .ok (.goto 20, 3) := by decide +kernel
theorem dX8_change_285 : decode cX8_change 285 = .ok (.lconst 0, 1) := by decide +kernel
theorem dX8_change_286 : decode cX8_change 286 = .ok (.goto 16, 3) := by decide +kernel
theorem dX8_change_289 : decode cX8_change 289 = .ok (.aload_n 0, 1) := by decide +kernel
theorem dX8_change_290 : decode cX8_change 290 = .ok (.getfield 61, 3) := by decide +kernel
theorem dX8_change_293 : decode cX8_change 293 = .ok (.iload_n 1, 1) := by decide +kernel
theorem dX8_change_294 : decode cX8_change 294 = .ok (.laload, 1) := by decide +kernel
theorem dX8_change_295 : decode cX8_change 295 = .ok (.lload 6, 2) := by decide +kernel
theorem dX8_change_297 : decode cX8_change 297 = .ok (.iload 5, 2) := by decide +kernel
theorem dX8_change_299 : decode cX8_change 299 = .ok (.invokestatic 264, 3) := by decide +kernel
theorem dX8_change_302 : decode cX8_change 302 = .ok (.lreturn, 1) := by decide +kernel
theorem dX8_chooseOf_0 : decode cX8_chooseOf 0 = .ok (.iconst 0, 1) := by decide +kernel
theorem dX8_chooseOf_1 : decode cX8_chooseOf 1 = .ok (.istore_n 3, 1) := by decide +kernel
theorem dX8_chooseOf_2 : decode cX8_chooseOf 2 = .ok (.iload_n 3, 1) := by decide +kernel
theorem dX8_chooseOf_3 : decode cX8_chooseOf 3 = .ok (.bipush 30, 2) := by decide +kernel
theorem dX8_chooseOf_5 : decode cX8_chooseOf 5 = .ok (.if_icmp .gt 24, 3) := by decide +kernel
theorem dX8_chooseOf_8 : decode cX8_chooseOf 8 = .ok (.aload_n 0, 1) := by decide +kernel
theorem dX8_chooseOf_9 : decode cX8_chooseOf 9 = .ok (.getfield 68, 3) := by decide +kernel
theorem dX8_chooseOf_12 : decode cX8_chooseOf 12 = .ok (.iload_n 3, 1) := by decide +kernel
theorem dX8_chooseOf_13 : decode cX8_chooseOf 13 = .ok (.iload_n 3, 1) := by decide +kernel
theorem dX8_chooseOf_14 : decode cX8_chooseOf 14 = .ok (.ifCond .ne 7, 3) := by decide +kernel
theorem dX8_chooseOf_17 : decode cX8_chooseOf 17 = .ok (.lconst 1, 1) := by decide +kernel
theorem dX8_chooseOf_18 : decode cX8_chooseOf 18 = .ok (.goto 4, 3) := by decide +kernel
theorem dX8_chooseOf_21 : decode cX8_chooseOf 21 = .ok (.lconst 0, 1) := by decide +kernel
theorem dX8_chooseOf_22 : decode cX8_chooseOf 22 = .ok (.lastore, 1) := by decide +kernel
theorem dX8_chooseOf_23 : decode cX8_chooseOf 23 = .ok (.iinc 3 1, 3) := by decide +kernel
theorem dX8_chooseOf_26 : decode cX8_chooseOf 26 = .ok (.goto (-24), 3) := by decide +kernel
theorem dX8_chooseOf_29 : decode cX8_chooseOf 29 = .ok (.iconst 0, 1) := by decide +kernel
theorem dX8_chooseOf_30 : decode cX8_chooseOf 30 = .ok (.istore_n 3, 1) := by decide +kernel
theorem dX8_chooseOf_31 : decode cX8_chooseOf 31 = .ok (.iload_n 3, 1) := by decide +kernel
theorem dX8_chooseOf_32 : decode cX8_chooseOf 32 = .ok (.iload_n 1, 1) := by decide +kernel
theorem dX8_chooseOf_33 : decode cX8_chooseOf 33 = .ok (.if_icmp .ge 43, 3) := by decide +kernel
theorem dX8_chooseOf_36 : decode cX8_chooseOf 36 = .ok (.bipush 30, 2) := by decide +kernel
theorem dX8_chooseOf_38 : decode cX8_chooseOf 38 = .ok (.istore 4, 2) := by decide +kernel
theorem dX8_chooseOf_40 : decode cX8_chooseOf 40 = .ok (.iload 4, 2) := by decide +kernel
theorem dX8_chooseOf_42 : decode cX8_chooseOf 42 = .ok (.ifCond .le 28, 3) := by decide +kernel
theorem dX8_chooseOf_45 : decode cX8_chooseOf 45 = .ok (.aload_n 0, 1) := by decide +kernel
theorem dX8_chooseOf_46 : decode cX8_chooseOf 46 = .ok (.getfield 68, 3) := by decide +kernel
theorem dX8_chooseOf_49 : decode cX8_chooseOf 49 = .ok (.iload 4, 2) := by decide +kernel
theorem dX8_chooseOf_51 : decode cX8_chooseOf 51 = .ok (.dup2, 1) := by decide +kernel
theorem dX8_chooseOf_52 : decode cX8_chooseOf 52 = .ok (.laload, 1) := by decide +kernel
theorem dX8_chooseOf_53 : decode cX8_chooseOf 53 = .ok (.aload_n 0, 1) := by decide +kernel
theorem dX8_chooseOf_54 : decode cX8_chooseOf 54 = .ok (.getfield 68, 3) := by decide +kernel
theorem dX8_chooseOf_57 : decode cX8_chooseOf 57 = .ok (.iload 4, 2) := by decide +kernel
theorem dX8_chooseOf_59 : decode cX8_chooseOf 59 = .ok (.iconst 1, 1) := by decide +kernel
theorem dX8_chooseOf_60 : decode cX8_chooseOf 60 = .ok (.isub, 1) := by decide +kernel
theorem dX8_chooseOf_61 : decode cX8_chooseOf 61 = .ok (.laload, 1) := by decide +kernel
theorem dX8_chooseOf_62 : decode cX8_chooseOf 62 = .ok (.ladd, 1) := by decide +kernel
theorem dX8_chooseOf_63 : decode cX8_chooseOf 63 = .ok (.lastore, 1) := by decide +kernel
theorem dX8_chooseOf_64 : decode cX8_chooseOf 64 = .ok (.iinc 4 (-1), 3) := by decide +kernel
theorem dX8_chooseOf_67 : decode cX8_chooseOf 67 = .ok (.goto (-27), 3) := by decide +kernel
theorem dX8_chooseOf_70 : decode cX8_chooseOf 70 = .ok (.iinc 3 1, 3) := by decide +kernel
theorem dX8_chooseOf_73 : decode cX8_chooseOf 73 = .ok (.goto (-42), 3) := by decide +kernel
theorem dX8_chooseOf_76 : decode cX8_chooseOf 76 = .ok (.aload_n 0, 1) := by decide +kernel
theorem dX8_chooseOf_77 : decode cX8_chooseOf 77 = .ok (.getfield 68, 3) := by decide +kernel
theorem dX8_chooseOf_80 : decode cX8_chooseOf 80 = .ok (.iload_n 2, 1) := by decide +kernel
theorem dX8_chooseOf_81 : decode cX8_chooseOf 81 = .ok (.laload, 1) := by decide +kernel
theorem dX8_chooseOf_82 : decode cX8_chooseOf 82 = .ok (.lreturn, 1) := by decide +kernel
theorem dX8_sample_0 : decode cX8_sample 0 = .ok (.iload_n 1, 1) := by decide +kernel
theorem dX8_sample_1 : decode cX8_sample 1 = .ok (.i2l, 1) := by decide +kernel
theorem dX8_sample_2 : decode cX8_sample 2 = .ok (.lconst 1, 1) := by decide +kernel
theorem dX8_sample_3 : decode cX8_sample 3 = .ok (.ldc2_w 268, 3) := by decide +kernel
theorem dX8_sample_6 : decode cX8_sample 6 = .ok (.invokestatic 80, 3) := by decide +kernel
theorem dX8_sample_9 : decode cX8_sample 9 = .ok (.ifCond .eq 48, 3) := by decide +kernel
theorem dX8_sample_12 : decode cX8_sample 12 = .ok (.iload_n 2, 1) := by decide +kernel
theorem dX8_sample_13 : decode cX8_sample 13 = .ok (.i2l, 1) := by decide +kernel
theorem dX8_sample_14 : decode cX8_sample 14 = .ok (.lconst 0, 1) := by decide +kernel
theorem dX8_sample_15 : decode cX8_sample 15 = .ok (.iload_n 1, 1) := by decide +kernel
theorem dX8_sample_16 : decode cX8_sample 16 = .ok (.i2l, 1) := by decide +kernel
theorem dX8_sample_17 : decode cX8_sample 17 = .ok (.invokestatic 80, 3) := by decide +kernel
theorem dX8_sample_20 : decode cX8_sample 20 = .ok (.ifCond .eq 37, 3) := by decide +kernel
theorem dX8_sample_23 : decode cX8_sample 23 = .ok (.iload_n 3, 1) := by decide +kernel
theorem dX8_sample_24 : decode cX8_sample 24 = .ok (.i2l, 1) := by decide +kernel
theorem dX8_sample_25 : decode cX8_sample 25 = .ok (.lconst 0, 1) := by decide +kernel
theorem dX8_sample_26 : decode cX8_sample 26 = .ok (.iload_n 1, 1) := by decide +kernel
theorem dX8_sample_27 : decode cX8_sample 27 = .ok (.i2l, 1) := by decide +kernel
theorem dX8_sample_28 : decode cX8_sample 28 = .ok (.invokestatic 80, 3) := by decide +kernel
theorem dX8_sample_31 : decode cX8_sample 31 = .ok (.ifCond .eq 26, 3) := by decide +kernel
theorem dX8_sample_34 : decode cX8_sample 34 = .ok (.iload 4, 2) := by decide +kernel
theorem dX8_sample_36 : decode cX8_sample 36 = .ok (.i2l, 1) := by decide +kernel
theorem dX8_sample_37 : decode cX8_sample 37 = .ok (.lconst 0, 1) := by decide +kernel
theorem dX8_sample_38 : decode cX8_sample 38 = .ok (.iload_n 3, 1) := by decide +kernel
theorem dX8_sample_39 : decode cX8_sample 39 = .ok (.i2l, 1) := by decide +kernel
theorem dX8_sample_40 : decode cX8_sample 40 = .ok (.invokestatic 80, 3) := by decide +kernel
theorem dX8_sample_43 : decode cX8_sample 43 = .ok (.ifCond .eq 14, 3) := by decide +kernel
theorem dX8_sample_46 : decode cX8_sample 46 = .ok (.iload 5, 2) := by decide +kernel
theorem dX8_sample_48 : decode cX8_sample 48 = .ok (.i2l, 1) := by decide +kernel
theorem dX8_sample_49 : decode cX8_sample 49 = .ok (.lconst 0, 1) := by decide +kernel
theorem dX8_sample_50 : decode cX8_sample 50 = .ok (.lconst 1, 1) := by decide +kernel
theorem dX8_sample_51 : decode cX8_sample 51 = .ok (.invokestatic 80, 3) := by decide +kernel
theorem dX8_sample_54 : decode cX8_sample 54 = .ok (.ifCond .ne 7, 3) := by decide +kernel
theorem dX8_sample_57 : decode cX8_sample 57 = .ok (.ldc2_w 262, 3) := by decide +kernel
theorem dX8_sample_60 : decode cX8_sample 60 = .ok (.lreturn, 1) := by decide +kernel
theorem dX8_sample_61 : decode cX8_sample 61 = .ok (.aload_n 0, 1) := by decide +kernel
theorem dX8_sample_62 : decode cX8_sample 62 = .ok (.iload_n 2, 1) := by decide +kernel
theorem dX8_sample_63 : decode cX8_sample 63 = .ok (.iload 4, 2) := by decide +kernel
theorem dX8_sample_65 : decode cX8_sample 65 = .ok (.invokevirtual 270, 3) := by decide +kernel
theorem dX8_sample_68 : decode cX8_sample 68 = .ok (.aload_n 0, 1) := by decide +kernel
theorem dX8_sample_69 : decode cX8_sample 69 = .ok (.iload_n 1, 1) := by decide +kernel
theorem dX8_sample_70 : decode cX8_sample 70 = .ok (.iload_n 2, 1) := by decide +kernel
theorem dX8_sample_71 : decode cX8_sample 71 = .ok (.isub, 1) := by decide +kernel
theorem dX8_sample_72 : decode cX8_sample 72 = .ok (.iload_n 3, 1) := by decide +kernel
theorem dX8_sample_73 : decode cX8_sample 73 = .ok (.iload 4, 2) := by decide +kernel
theorem dX8_sample_75 : decode cX8_sample 75 = .ok (.isub, 1) := by decide +kernel
theorem dX8_sample_76 : decode cX8_sample 76 = .ok (.invokevirtual 270, 3) := by decide +kernel
theorem dX8_sample_79 : decode cX8_sample 79 = .ok (.lmul, 1) := by decide +kernel
theorem dX8_sample_80 : decode cX8_sample 80 = .ok (.aload_n 0, 1) := by decide +kernel
theorem dX8_sample_81 : decode cX8_sample 81 = .ok (.iload_n 1, 1) := by decide +kernel
theorem dX8_sample_82 : decode cX8_sample 82 = .ok (.iload_n 3, 1) := by decide +kernel
theorem dX8_sample_83 : decode cX8_sample 83 = .ok (.invokevirtual 270, 3) := by decide +kernel
theorem dX8_sample_86 : decode cX8_sample 86 = .ok (.iload 5, 2) := by decide +kernel
theorem dX8_sample_88 : decode cX8_sample 88 = .ok (.invokestatic 264, 3) := by decide +kernel
theorem dX8_sample_91 : decode cX8_sample 91 = .ok (.lreturn, 1) := by decide +kernel
theorem dX8_seen_0 : decode cX8_seen 0 = .ok (.iload_n 1, 1) := by decide +kernel
theorem dX8_seen_1 : decode cX8_seen 1 = .ok (.i2l, 1) := by decide +kernel
theorem dX8_seen_2 : decode cX8_seen 2 = .ok (.lconst 0, 1) := by decide +kernel
theorem dX8_seen_3 : decode cX8_seen 3 = .ok (.ldc2_w 274, 3) := by decide +kernel
theorem dX8_seen_6 : decode cX8_seen 6 = .ok (.invokestatic 80, 3) := by decide +kernel
theorem dX8_seen_9 : decode cX8_seen 9 = .ok (.ifCond .eq 25, 3) := by decide +kernel
theorem dX8_seen_12 : decode cX8_seen 12 = .ok (.iload_n 2, 1) := by decide +kernel
theorem dX8_seen_13 : decode cX8_seen 13 = .ok (.i2l, 1) := by decide +kernel
theorem dX8_seen_14 : decode cX8_seen 14 = .ok (.lconst 0, 1) := by decide +kernel
theorem dX8_seen_15 : decode cX8_seen 15 = .ok (.ldc2_w 256, 3) := by decide +kernel
theorem dX8_seen_18 : decode cX8_seen 18 = .ok (.invokestatic 80, 3) := by decide +kernel
theorem dX8_seen_21 : decode cX8_seen 21 = .ok (.ifCond .eq 13, 3) := by decide +kernel
theorem dX8_seen_24 : decode cX8_seen 24 = .ok (.iload_n 3, 1) := by decide +kernel
theorem dX8_seen_25 : decode cX8_seen 25 = .ok (.i2l, 1) := by decide +kernel
theorem dX8_seen_26 : decode cX8_seen 26 = .ok (.lconst 0, 1) := by decide +kernel
theorem dX8_seen_27 : decode cX8_seen 27 = .ok (.lconst 1, 1) := by decide +kernel
theorem dX8_seen_28 : decode cX8_seen 28 = .ok (.invokestatic 80, 3) := by decide +kernel
theorem dX8_seen_31 : decode cX8_seen 31 = .ok (.ifCond .ne 6, 3) := by decide +kernel
theorem dX8_seen_34 : decode cX8_seen 34 = .ok (.bipush (-2), 2) := by decide +kernel
theorem dX8_seen_36 : decode cX8_seen 36 = .ok (.ireturn, 1) := by decide +kernel
theorem dX8_seen_37 : decode cX8_seen 37 = .ok (.aload_n 0, 1) := by decide +kernel
theorem dX8_seen_38 : decode cX8_seen 38 = .ok (.getfield 276, 3) := by decide +kernel
theorem dX8_seen_41 : decode cX8_seen 41 = .ok (.bipush 8, 2) := by decide +kernel
theorem dX8_seen_43 : decode cX8_seen 43 = .ok (.if_icmp .ne 6, 3) := by decide +kernel
theorem dX8_seen_46 : decode cX8_seen 46 = .ok (.bipush (-4), 2) := by decide +kernel
theorem dX8_seen_48 : decode cX8_seen 48 = .ok (.ireturn, 1) := by decide +kernel
theorem dX8_seen_49 : decode cX8_seen 49 = .ok (.aload_n 0, 1) := by decide +kernel
theorem dX8_seen_50 : decode cX8_seen 50 = .ok (.getfield 25, 3) := by decide +kernel
theorem dX8_seen_53 : decode cX8_seen 53 = .ok (.aload_n 0, 1) := by decide +kernel
theorem dX8_seen_54 : decode cX8_seen 54 = .ok (.getfield 276, 3) := by decide +kernel
theorem dX8_seen_57 : decode cX8_seen 57 = .ok (.iload_n 1, 1) := by decide +kernel
theorem dX8_seen_58 : decode cX8_seen 58 = .ok (.iastore, 1) := by decide +kernel
theorem dX8_seen_59 : decode cX8_seen 59 = .ok (.aload_n 0, 1) := by decide +kernel
theorem dX8_seen_60 : decode cX8_seen 60 = .ok (.getfield 28, 3) := by decide +kernel
theorem dX8_seen_63 : decode cX8_seen 63 = .ok (.aload_n 0, 1) := by decide +kernel
theorem dX8_seen_64 : decode cX8_seen 64 = .ok (.getfield 276, 3) := by decide +kernel
theorem dX8_seen_67 : decode cX8_seen 67 = .ok (.iload_n 2, 1) := by decide +kernel
theorem dX8_seen_68 : decode cX8_seen 68 = .ok (.iastore, 1) := by decide +kernel
theorem dX8_seen_69 : decode cX8_seen 69 = .ok (.aload_n 0, 1) := by decide +kernel
theorem dX8_seen_70 : decode cX8_seen 70 = .ok (.getfield 31, 3) := by decide +kernel
theorem dX8_seen_73 : decode cX8_seen 73 = .ok (.aload_n 0, 1) := by decide +kernel
theorem dX8_seen_74 : decode cX8_seen 74 = .ok (.getfield 276, 3) := by decide +kernel
theorem dX8_seen_77 : decode cX8_seen 77 = .ok (.iload_n 3, 1) := by decide +kernel
theorem dX8_seen_78 : decode cX8_seen 78 = .ok (.iastore, 1) := by decide +kernel
theorem dX8_seen_79 : decode cX8_seen 79 = .ok (.aload_n 0, 1) := by decide +kernel
theorem dX8_seen_80 : decode cX8_seen 80 = .ok (.dup, 1) := by decide +kernel
theorem dX8_seen_81 : decode cX8_seen 81 = .ok (.getfield 276, 3) := by decide +kernel
theorem dX8_seen_84 : decode cX8_seen 84 = .ok (.iconst 1, 1) := by decide +kernel
theorem dX8_seen_85 : decode cX8_seen 85 = .ok (.iadd, 1) := by decide +kernel
theorem dX8_seen_86 : decode cX8_seen 86 = .ok (.putfield 276, 3) := by decide +kernel
theorem dX8_seen_89 : decode cX8_seen 89 = .ok (.aload_n 0, 1) := by decide +kernel
theorem dX8_seen_90 : decode cX8_seen 90 = .ok (.getfield 276, 3) := by decide +kernel
theorem dX8_seen_93 : decode cX8_seen 93 = .ok (.ireturn, 1) := by decide +kernel
theorem dX8_forget_0 : decode cX8_forget 0 = .ok (.aload_n 0, 1) := by decide +kernel
theorem dX8_forget_1 : decode cX8_forget 1 = .ok (.getfield 276, 3) := by decide +kernel
theorem dX8_forget_4 : decode cX8_forget 4 = .ok (.istore_n 1, 1) := by decide +kernel
theorem dX8_forget_5 : decode cX8_forget 5 = .ok (.aload_n 0, 1) := by decide +kernel
theorem dX8_forget_6 : decode cX8_forget 6 = .ok (.iconst 0, 1) := by decide +kernel
theorem dX8_forget_7 : decode cX8_forget 7 = .ok (.putfield 276, 3) := by decide +kernel
theorem dX8_forget_10 : decode cX8_forget 10 = .ok (.iload_n 1, 1) := by decide +kernel
theorem dX8_forget_11 : decode cX8_forget 11 = .ok (.ireturn, 1) := by decide +kernel
theorem dX8_fits_0 : decode cX8_fits 0 = .ok (.iload_n 2, 1) := by decide +kernel
theorem dX8_fits_1 : decode cX8_fits 1 = .ok (.invokestatic 279, 3) := by decide +kernel
theorem dX8_fits_4 : decode cX8_fits 4 = .ok (.iload_n 1, 1) := by decide +kernel
theorem dX8_fits_5 : decode cX8_fits 5 = .ok (.if_icmp .gt 7, 3) := by decide +kernel
theorem dX8_fits_8 : decode cX8_fits 8 = .ok (.iconst 1, 1) := by decide +kernel
theorem dX8_fits_9 : decode cX8_fits 9 = .ok (.goto 4, 3) := by decide +kernel
theorem dX8_fits_12 : decode cX8_fits 12 = .ok (.iconst 0, 1) := by decide +kernel
theorem dX8_fits_13 : decode cX8_fits 13 = .ok (.istore_n 3, 1) := by decide +kernel
theorem dX8_fits_14 : decode cX8_fits 14 = .ok (.iconst 0, 1) := by decide +kernel
theorem dX8_fits_15 : decode cX8_fits 15 = .ok (.istore 4, 2) := by decide +kernel
theorem dX8_fits_17 : decode cX8_fits 17 = .ok (.iload 4, 2) := by decide +kernel
theorem dX8_fits_19 : decode cX8_fits 19 = .ok (.aload_n 0, 1) := by decide +kernel
theorem dX8_fits_20 : decode cX8_fits 20 = .ok (.getfield 276, 3) := by decide +kernel
theorem dX8_fits_23 : decode cX8_fits 23 = .ok (.if_icmp .ge 72, 3) := by decide +kernel
theorem dX8_fits_26 : decode cX8_fits 26 = .ok (.aload_n 0, 1) := by decide +kernel
theorem dX8_fits_27 : decode cX8_fits 27 = .ok (.getfield 25, 3) := by decide +kernel
theorem dX8_fits_30 : decode cX8_fits 30 = .ok (.iload 4, 2) := by decide +kernel
theorem dX8_fits_32 : decode cX8_fits 32 = .ok (.iaload, 1) := by decide +kernel
theorem dX8_fits_33 : decode cX8_fits 33 = .ok (.iload_n 2, 1) := by decide +kernel
theorem dX8_fits_34 : decode cX8_fits 34 = .ok (.iconst (-1), 1) := by decide +kernel
theorem dX8_fits_35 : decode cX8_fits 35 = .ok (.ixor, 1) := by decide +kernel
theorem dX8_fits_36 : decode cX8_fits 36 = .ok (.iand, 1) := by decide +kernel
theorem dX8_fits_37 : decode cX8_fits 37 = .ok (.invokestatic 279, 3) := by decide +kernel
theorem dX8_fits_40 : decode cX8_fits 40 = .ok (.istore 5, 2) := by decide +kernel
theorem dX8_fits_42 : decode cX8_fits 42 = .ok (.iload_n 3, 1) := by decide +kernel
theorem dX8_fits_43 : decode cX8_fits 43 = .ok (.ifCond .eq 44, 3) := by decide +kernel
theorem dX8_fits_46 : decode cX8_fits 46 = .ok (.aload_n 0, 1) := by decide +kernel
theorem dX8_fits_47 : decode cX8_fits 47 = .ok (.getfield 31, 3) := by decide +kernel
theorem dX8_fits_50 : decode cX8_fits 50 = .ok (.iload 4, 2) := by decide +kernel
theorem dX8_fits_52 : decode cX8_fits 52 = .ok (.iaload, 1) := by decide +kernel
theorem dX8_fits_53 : decode cX8_fits 53 = .ok (.ifCond .ne 18, 3) := by decide +kernel
theorem dX8_fits_56 : decode cX8_fits 56 = .ok (.iload 5, 2) := by decide +kernel
theorem dX8_fits_58 : decode cX8_fits 58 = .ok (.aload_n 0, 1) := by decide +kernel
theorem dX8_fits_59 : decode cX8_fits 59 = .ok (.getfield 28, 3) := by decide +kernel
theorem dX8_fits_62 : decode cX8_fits 62 = .ok (.iload 4, 2) := by decide +kernel
theorem dX8_fits_64 : decode cX8_fits 64 = .ok (.iaload, 1) := by decide +kernel
theorem dX8_fits_65 : decode cX8_fits 65 = .ok (.if_icmp .ne 22, 3) := by decide +kernel
theorem dX8_fits_68 : decode cX8_fits 68 = .ok (.goto 15, 3) := by decide +kernel
theorem dX8_fits_71 : decode cX8_fits 71 = .ok (.iload 5, 2) := by decide +kernel
theorem dX8_fits_73 : decode cX8_fits 73 = .ok (.aload_n 0, 1) := by decide +kernel
theorem dX8_fits_74 : decode cX8_fits 74 = .ok (.getfield 28, 3) := by decide +kernel
theorem dX8_fits_77 : decode cX8_fits 77 = .ok (.iload 4, 2) := by decide +kernel
theorem dX8_fits_79 : decode cX8_fits 79 = .ok (.iaload, 1) := by decide +kernel
theorem dX8_fits_80 : decode cX8_fits 80 = .ok (.if_icmp .lt 7, 3) := by decide +kernel
theorem dX8_fits_83 : decode cX8_fits 83 = .ok (.iconst 1, 1) := by decide +kernel
theorem dX8_fits_84 : decode cX8_fits 84 = .ok (.goto 4, 3) := by decide +kernel
theorem dX8_fits_87 : decode cX8_fits 87 = .ok (.iconst 0, 1) := by decide +kernel
theorem dX8_fits_88 : decode cX8_fits 88 = .ok (.istore_n 3, 1) := by decide +kernel
theorem dX8_fits_89 : decode cX8_fits 89 = .ok (.iinc 4 1, 3) := by decide +kernel
theorem dX8_fits_92 : decode cX8_fits 92 = .ok (.goto (-75), 3) := by decide +kernel
theorem dX8_fits_95 : decode cX8_fits 95 = .ok (.iload_n 3, 1) := by decide +kernel
theorem dX8_fits_96 : decode cX8_fits 96 = .ok (.ireturn, 1) := by decide +kernel
theorem dX8_clerks_0 : decode cX8_clerks 0 = .ok (.iload_n 1, 1) := by decide +kernel
theorem dX8_clerks_1 : decode cX8_clerks 1 = .ok (.i2l, 1) := by decide +kernel
theorem dX8_clerks_2 : decode cX8_clerks 2 = .ok (.lconst 0, 1) := by decide +kernel
theorem dX8_clerks_3 : decode cX8_clerks 3 = .ok (.ldc2_w 235, 3) := by decide +kernel
theorem dX8_clerks_6 : decode cX8_clerks 6 = .ok (.invokestatic 80, 3) := by decide +kernel
theorem dX8_clerks_9 : decode cX8_clerks 9 = .ok (.ifCond .ne 6, 3) := by decide +kernel
theorem dX8_clerks_12 : decode cX8_clerks 12 = .ok (.bipush (-2), 2) := by decide +kernel
theorem dX8_clerks_14 : decode cX8_clerks 14 = .ok (.ireturn, 1) := by decide +kernel
theorem dX8_clerks_15 : decode cX8_clerks 15 = .ok (.iconst 0, 1) := by decide +kernel
theorem dX8_clerks_16 : decode cX8_clerks 16 = .ok (.istore_n 3, 1) := by decide +kernel
theorem dX8_clerks_17 : decode cX8_clerks 17 = .ok (.iconst 0, 1) := by decide +kernel
theorem dX8_clerks_18 : decode cX8_clerks 18 = .ok (.istore 4, 2) := by decide +kernel
theorem dX8_clerks_20 : decode cX8_clerks 20 = .ok (.iload 4, 2) := by decide +kernel
theorem dX8_clerks_22 : decode cX8_clerks 22 = .ok (.sipush 256, 3) := by decide +kernel
theorem dX8_clerks_25 : decode cX8_clerks 25 = .ok (.if_icmp .ge 30, 3) := by decide +kernel
theorem dX8_clerks_28 : decode cX8_clerks 28 = .ok (.aload_n 0, 1) := by decide +kernel
theorem dX8_clerks_29 : decode cX8_clerks 29 = .ok (.iload_n 1, 1) := by decide +kernel
theorem dX8_clerks_30 : decode cX8_clerks 30 = .ok (.iload 4, 2) := by decide +kernel
theorem dX8_clerks_32 : decode cX8_clerks 32 = .ok (.invokevirtual 282, 3) := by decide +kernel
theorem dX8_clerks_35 : decode cX8_clerks 35 = .ok (.ifCond .eq 14, 3) := by decide +kernel
theorem dX8_clerks_38 : decode cX8_clerks 38 = .ok (.iload_n 3, 1) := by decide +kernel
theorem dX8_clerks_39 : decode cX8_clerks 39 = .ok (.iload_n 2, 1) := by decide +kernel
theorem dX8_clerks_40 : decode cX8_clerks 40 = .ok (.if_icmp .ne 6, 3) := by decide +kernel
theorem dX8_clerks_43 : decode cX8_clerks 43 = .ok (.iload 4, 2) := by decide +kernel
theorem dX8_clerks_45 : decode cX8_clerks 45 = .ok (.ireturn, 1) := by decide +kernel
theorem dX8_clerks_46 : decode cX8_clerks 46 = .ok (.iinc 3 1, 3) := by decide +kernel
theorem dX8_clerks_49 : decode cX8_clerks 49 = .ok (.iinc 4 1, 3) := by decide +kernel
theorem dX8_clerks_52 : decode cX8_clerks 52 = .ok (.goto (-32), 3) := by decide +kernel
theorem dX8_clerks_55 : decode cX8_clerks 55 = .ok (.iload_n 2, 1) := by decide +kernel
theorem dX8_clerks_56 : decode cX8_clerks 56 = .ok (.iconst (-1), 1) := by decide +kernel
theorem dX8_clerks_57 : decode cX8_clerks 57 = .ok (.if_icmp .ne 7, 3) := by decide +kernel
theorem dX8_clerks_60 : decode cX8_clerks 60 = .ok (.iload_n 3, 1) := by decide +kernel
theorem dX8_clerks_61 : decode cX8_clerks 61 = .ok (.goto 5, 3) := by decide +kernel
theorem dX8_clerks_64 : decode cX8_clerks 64 = .ok (.bipush (-6), 2) := by decide +kernel
theorem dX8_clerks_66 : decode cX8_clerks 66 = .ok (.ireturn, 1) := by decide +kernel
theorem dX8_mostLeft_0 : decode cX8_mostLeft 0 = .ok (.iconst 0, 1) := by decide +kernel
theorem dX8_mostLeft_1 : decode cX8_mostLeft 1 = .ok (.istore_n 3, 1) := by decide +kernel
theorem dX8_mostLeft_2 : decode cX8_mostLeft 2 = .ok (.iconst 0, 1) := by decide +kernel
theorem dX8_mostLeft_3 : decode cX8_mostLeft 3 = .ok (.istore 4, 2) := by decide +kernel
theorem dX8_mostLeft_5 : decode cX8_mostLeft 5 = .ok (.iconst 0, 1) := by decide +kernel
theorem dX8_mostLeft_6 : decode cX8_mostLeft 6 = .ok (.istore 5, 2) := by decide +kernel
theorem dX8_mostLeft_8 : decode cX8_mostLeft 8 = .ok (.iload 5, 2) := by decide +kernel
theorem dX8_mostLeft_10 : decode cX8_mostLeft 10 = .ok (.sipush 256, 3) := by decide +kernel
theorem dX8_mostLeft_13 : decode cX8_mostLeft 13 = .ok (.if_icmp .ge 56, 3) := by decide +kernel
theorem dX8_mostLeft_16 : decode cX8_mostLeft 16 = .ok (.aload_n 0, 1) := by decide +kernel
theorem dX8_mostLeft_17 : decode cX8_mostLeft 17 = .ok (.iload_n 1, 1) := by decide +kernel
theorem dX8_mostLeft_18 : decode cX8_mostLeft 18 = .ok (.iload 5, 2) := by decide +kernel
theorem dX8_mostLeft_20 : decode cX8_mostLeft 20 = .ok (.invokevirtual 282, 3) := by decide +kernel
theorem dX8_mostLeft_23 : decode cX8_mostLeft 23 = .ok (.istore 6, 2) := by decide +kernel
theorem dX8_mostLeft_25 : decode cX8_mostLeft 25 = .ok (.iload 4, 2) := by decide +kernel
theorem dX8_mostLeft_27 : decode cX8_mostLeft 27 = .ok (.iload 6, 2) := by decide +kernel
theorem dX8_mostLeft_29 : decode cX8_mostLeft 29 = .ok (.ifCond .eq 7, 3) := by decide +kernel
theorem dX8_mostLeft_32 : decode cX8_mostLeft 32 = .ok (.iconst 1, 1) := by decide +kernel
theorem dX8_mostLeft_33 : decode cX8_mostLeft 33 = .ok (.goto 4, 3) := by decide +kernel
theorem dX8_mostLeft_36 : decode cX8_mostLeft 36 = .ok (.iconst 0, 1) := by decide +kernel
theorem dX8_mostLeft_37 : decode cX8_mostLeft 37 = .ok (.iadd, 1) := by decide +kernel
theorem dX8_mostLeft_38 : decode cX8_mostLeft 38 = .ok (.istore 4, 2) := by decide +kernel
theorem dX8_mostLeft_40 : decode cX8_mostLeft 40 = .ok (.iload_n 3, 1) := by decide +kernel
theorem dX8_mostLeft_41 : decode cX8_mostLeft 41 = .ok (.iload 6, 2) := by decide +kernel
theorem dX8_mostLeft_43 : decode cX8_mostLeft 43 = .ok (.ifCond .eq 17, 3) := by decide +kernel
theorem dX8_mostLeft_46 : decode cX8_mostLeft 46 = .ok (.iload 5, 2) := by decide +kernel
theorem dX8_mostLeft_48 : decode cX8_mostLeft 48 = .ok (.iload_n 2, 1) := by decide +kernel
theorem dX8_mostLeft_49 : decode cX8_mostLeft 49 = .ok (.ishr, 1) := by decide +kernel
theorem dX8_mostLeft_50 : decode cX8_mostLeft 50 = .ok (.iconst 1, 1) := by decide +kernel
theorem dX8_mostLeft_51 : decode cX8_mostLeft 51 = .ok (.iand, 1) := by decide +kernel
theorem dX8_mostLeft_52 : decode cX8_mostLeft 52 = .ok (.iconst 1, 1) := by decide +kernel
theorem dX8_mostLeft_53 : decode cX8_mostLeft 53 = .ok (.if_icmp .ne 7, 3) := by decide +kernel
theorem dX8_mostLeft_56 : decode cX8_mostLeft 56 = .ok (.iconst 1, 1) := by decide +kernel
theorem dX8_mostLeft_57 : decode cX8_mostLeft 57 = .ok (.goto 4, 3) := by decide +kernel
theorem dX8_mostLeft_60 : decode cX8_mostLeft 60 = .ok (.iconst 0, 1) := by decide +kernel
theorem dX8_mostLeft_61 : decode cX8_mostLeft 61 = .ok (.iadd, 1) := by decide +kernel
theorem dX8_mostLeft_62 : decode cX8_mostLeft 62 = .ok (.istore_n 3, 1) := by decide +kernel
theorem dX8_mostLeft_63 : decode cX8_mostLeft 63 = .ok (.iinc 5 1, 3) := by decide +kernel
theorem dX8_mostLeft_66 : decode cX8_mostLeft 66 = .ok (.goto (-58), 3) := by decide +kernel
theorem dX8_mostLeft_69 : decode cX8_mostLeft 69 = .ok (.iload_n 3, 1) := by decide +kernel
theorem dX8_mostLeft_70 : decode cX8_mostLeft 70 = .ok (.iload 4, 2) := by decide +kernel
theorem dX8_mostLeft_72 : decode cX8_mostLeft 72 = .ok (.iload_n 3, 1) := by decide +kernel
theorem dX8_mostLeft_73 : decode cX8_mostLeft 73 = .ok (.isub, 1) := by decide +kernel
theorem dX8_mostLeft_74 : decode cX8_mostLeft 74 = .ok (.if_icmp .le 7, 3) := by decide +kernel
theorem dX8_mostLeft_77 : decode cX8_mostLeft 77 = .ok (.iload_n 3, 1) := by decide +kernel
theorem dX8_mostLeft_78 : decode cX8_mostLeft 78 = .ok (.goto 7, 3) := by decide +kernel
theorem dX8_mostLeft_81 : decode cX8_mostLeft 81 = .ok (.iload 4, 2) := by decide +kernel
theorem dX8_mostLeft_83 : decode cX8_mostLeft 83 = .ok (.iload_n 3, 1) := by decide +kernel
theorem dX8_mostLeft_84 : decode cX8_mostLeft 84 = .ok (.isub, 1) := by decide +kernel
theorem dX8_mostLeft_85 : decode cX8_mostLeft 85 = .ok (.ireturn, 1) := by decide +kernel
theorem dX8_count_0 : decode cX8_count 0 = .ok (.iload_n 1, 1) := by decide +kernel
theorem dX8_count_1 : decode cX8_count 1 = .ok (.i2l, 1) := by decide +kernel
theorem dX8_count_2 : decode cX8_count 2 = .ok (.lconst 0, 1) := by decide +kernel
theorem dX8_count_3 : decode cX8_count 3 = .ok (.ldc2_w 235, 3) := by decide +kernel
theorem dX8_count_6 : decode cX8_count 6 = .ok (.invokestatic 80, 3) := by decide +kernel
theorem dX8_count_9 : decode cX8_count 9 = .ok (.ifCond .eq 13, 3) := by decide +kernel
theorem dX8_count_12 : decode cX8_count 12 = .ok (.iload_n 2, 1) := by decide +kernel
theorem dX8_count_13 : decode cX8_count 13 = .ok (.i2l, 1) := by decide +kernel
theorem dX8_count_14 : decode cX8_count 14 = .ok (.lconst 0, 1) := by decide +kernel
theorem dX8_count_15 : decode cX8_count 15 = .ok (.lconst 1, 1) := by decide +kernel
theorem dX8_count_16 : decode cX8_count 16 = .ok (.invokestatic 80, 3) := by decide +kernel
theorem dX8_count_19 : decode cX8_count 19 = .ok (.ifCond .ne 6, 3) := by decide +kernel
theorem dX8_count_22 : decode cX8_count 22 = .ok (.bipush (-2), 2) := by decide +kernel
theorem dX8_count_24 : decode cX8_count 24 = .ok (.ireturn, 1) := by decide +kernel
theorem dX8_count_25 : decode cX8_count 25 = .ok (.iconst 0, 1) := by decide +kernel
theorem dX8_count_26 : decode cX8_count 26 = .ok (.istore_n 3, 1) := by decide +kernel
theorem dX8_count_27 : decode cX8_count 27 = .ok (.aload_n 0, 1) := by decide +kernel
theorem dX8_count_28 : decode cX8_count 28 = .ok (.iload_n 1, 1) := by decide +kernel
theorem dX8_count_29 : decode cX8_count 29 = .ok (.iconst 0, 1) := by decide +kernel
theorem dX8_count_30 : decode cX8_count 30 = .ok (.invokevirtual 286, 3) := by decide +kernel
theorem dX8_count_33 : decode cX8_count 33 = .ok (.istore 4, 2) := by decide +kernel
theorem dX8_count_35 : decode cX8_count 35 = .ok (.iconst 1, 1) := by decide +kernel
theorem dX8_count_36 : decode cX8_count 36 = .ok (.istore 5, 2) := by decide +kernel
theorem dX8_count_38 : decode cX8_count 38 = .ok (.iload 5, 2) := by decide +kernel
theorem dX8_count_40 : decode cX8_count 40 = .ok (.bipush 8, 2) := by decide +kernel
theorem dX8_count_42 : decode cX8_count 42 = .ok (.if_icmp .ge 48, 3) := by decide +kernel
theorem dX8_count_45 : decode cX8_count 45 = .ok (.aload_n 0, 1) := by decide +kernel
theorem dX8_count_46 : decode cX8_count 46 = .ok (.iload_n 1, 1) := by decide +kernel
theorem dX8_count_47 : decode cX8_count 47 = .ok (.iload 5, 2) := by decide +kernel
theorem dX8_count_49 : decode cX8_count 49 = .ok (.invokevirtual 286, 3) := by decide +kernel
theorem dX8_count_52 : decode cX8_count 52 = .ok (.istore 6, 2) := by decide +kernel
theorem dX8_count_54 : decode cX8_count 54 = .ok (.iload 6, 2) := by decide +kernel
theorem dX8_count_56 : decode cX8_count 56 = .ok (.iload 4, 2) := by decide +kernel
theorem dX8_count_58 : decode cX8_count 58 = .ok (.if_icmp .ge 8, 3) := by decide +kernel
theorem dX8_count_61 : decode cX8_count 61 = .ok (.iload 5, 2) := by decide +kernel
theorem dX8_count_63 : decode cX8_count 63 = .ok (.goto 4, 3) := by decide +kernel
theorem dX8_count_66 : decode cX8_count 66 = .ok (.iload_n 3, 1) := by decide +kernel
theorem dX8_count_67 : decode cX8_count 67 = .ok (.istore_n 3, 1) := by decide +kernel
theorem dX8_count_68 : decode cX8_count 68 = .ok (.iload 6, 2) := by decide +kernel
theorem dX8_count_70 : decode cX8_count 70 = .ok (.iload 4, 2) := by decide +kernel
theorem dX8_count_72 : decode cX8_count 72 = .ok (.if_icmp .ge 8, 3) := by decide +kernel
theorem dX8_count_75 : decode cX8_count 75 = .ok (.iload 6, 2) := by decide +kernel
theorem dX8_count_77 : decode cX8_count 77 = .ok (.goto 5, 3) := by decide +kernel
theorem dX8_count_80 : decode cX8_count 80 = .ok (.iload 4, 2) := by decide +kernel
theorem dX8_count_82 : decode cX8_count 82 = .ok (.istore 4, 2) := by decide +kernel
theorem dX8_count_84 : decode cX8_count 84 = .ok (.iinc 5 1, 3) := by decide +kernel
theorem dX8_count_87 : decode cX8_count 87 = .ok (.goto (-49), 3) := by decide +kernel
theorem dX8_count_90 : decode cX8_count 90 = .ok (.iload 4, 2) := by decide +kernel
theorem dX8_count_92 : decode cX8_count 92 = .ok (.ifCond .ne 8, 3) := by decide +kernel
theorem dX8_count_95 : decode cX8_count 95 = .ok (.bipush (-6), 2) := by decide +kernel
theorem dX8_count_97 : decode cX8_count 97 = .ok (.goto 13, 3) := by decide +kernel
theorem dX8_count_100 : decode cX8_count 100 = .ok (.iload_n 2, 1) := by decide +kernel
theorem dX8_count_101 : decode cX8_count 101 = .ok (.ifCond .ne 7, 3) := by decide +kernel
theorem dX8_count_104 : decode cX8_count 104 = .ok (.iload_n 3, 1) := by decide +kernel
theorem dX8_count_105 : decode cX8_count 105 = .ok (.goto 5, 3) := by decide +kernel
theorem dX8_count_108 : decode cX8_count 108 = .ok (.iload 4, 2) := by decide +kernel
theorem dX8_count_110 : decode cX8_count 110 = .ok (.ireturn, 1) := by decide +kernel
theorem dX8_actBy_0 : decode cX8_actBy 0 = .ok (.iload_n 0, 1) := by decide +kernel
theorem dX8_actBy_1 : decode cX8_actBy 1 = .ok (.tableswitch 55 0 6 #[43, 45, 47, 47, 49, 51, 53], 43) := by decide +kernel
theorem dX8_actBy_44 : decode cX8_actBy 44 = .ok (.iconst 0, 1) := by decide +kernel
theorem dX8_actBy_45 : decode cX8_actBy 45 = .ok (.ireturn, 1) := by decide +kernel
theorem dX8_actBy_46 : decode cX8_actBy 46 = .ok (.iconst 5, 1) := by decide +kernel
theorem dX8_actBy_47 : decode cX8_actBy 47 = .ok (.ireturn, 1) := by decide +kernel
theorem dX8_actBy_48 : decode cX8_actBy 48 = .ok (.iconst 2, 1) := by decide +kernel
theorem dX8_actBy_49 : decode cX8_actBy 49 = .ok (.ireturn, 1) := by decide +kernel
theorem dX8_actBy_50 : decode cX8_actBy 50 = .ok (.iconst 3, 1) := by decide +kernel
theorem dX8_actBy_51 : decode cX8_actBy 51 = .ok (.ireturn, 1) := by decide +kernel
theorem dX8_actBy_52 : decode cX8_actBy 52 = .ok (.iconst 4, 1) := by decide +kernel
theorem dX8_actBy_53 : decode cX8_actBy 53 = .ok (.ireturn, 1) := by decide +kernel
theorem dX8_actBy_54 : decode cX8_actBy 54 = .ok (.iconst 1, 1) := by decide +kernel
theorem dX8_actBy_55 : decode cX8_actBy 55 = .ok (.ireturn, 1) := by decide +kernel
theorem dX8_actBy_56 : decode cX8_actBy 56 = .ok (.bipush 6, 2) := by decide +kernel
theorem dX8_actBy_58 : decode cX8_actBy 58 = .ok (.ireturn, 1) := by decide +kernel
theorem dX8_muchBy_0 : decode cX8_muchBy 0 = .ok (.iload_n 0, 1) := by decide +kernel
theorem dX8_muchBy_1 : decode cX8_muchBy 1 = .ok (.tableswitch 47 2 4 #[27, 37, 32], 27) := by decide +kernel
theorem dX8_muchBy_28 : decode cX8_muchBy 28 = .ok (.iload_n 1, 1) := by decide +kernel
theorem dX8_muchBy_29 : decode cX8_muchBy 29 = .ok (.bipush 8, 2) := by decide +kernel
theorem dX8_muchBy_31 : decode cX8_muchBy 31 = .ok (.irem, 1) := by decide +kernel
theorem dX8_muchBy_32 : decode cX8_muchBy 32 = .ok (.ireturn, 1) := by decide +kernel
theorem dX8_muchBy_33 : decode cX8_muchBy 33 = .ok (.iload_n 1, 1) := by decide +kernel
theorem dX8_muchBy_34 : decode cX8_muchBy 34 = .ok (.bipush 6, 2) := by decide +kernel
theorem dX8_muchBy_36 : decode cX8_muchBy 36 = .ok (.irem, 1) := by decide +kernel
theorem dX8_muchBy_37 : decode cX8_muchBy 37 = .ok (.ireturn, 1) := by decide +kernel
theorem dX8_muchBy_38 : decode cX8_muchBy 38 = .ok (.bipush 10, 2) := by decide +kernel
theorem dX8_muchBy_40 : decode cX8_muchBy 40 = .ok (.iconst 1, 1) := by decide +kernel
theorem dX8_muchBy_41 : decode cX8_muchBy 41 = .ok (.iload_n 1, 1) := by decide +kernel
theorem dX8_muchBy_42 : decode cX8_muchBy 42 = .ok (.bipush 9, 2) := by decide +kernel
theorem dX8_muchBy_44 : decode cX8_muchBy 44 = .ok (.irem, 1) := by decide +kernel
theorem dX8_muchBy_45 : decode cX8_muchBy 45 = .ok (.iadd, 1) := by decide +kernel
theorem dX8_muchBy_46 : decode cX8_muchBy 46 = .ok (.imul, 1) := by decide +kernel
theorem dX8_muchBy_47 : decode cX8_muchBy 47 = .ok (.ireturn, 1) := by decide +kernel
theorem dX8_muchBy_48 : decode cX8_muchBy 48 = .ok (.bipush 100, 2) := by decide +kernel
theorem dX8_muchBy_50 : decode cX8_muchBy 50 = .ok (.iconst 1, 1) := by decide +kernel
theorem dX8_muchBy_51 : decode cX8_muchBy 51 = .ok (.iload_n 1, 1) := by decide +kernel
theorem dX8_muchBy_52 : decode cX8_muchBy 52 = .ok (.bipush 9, 2) := by decide +kernel
theorem dX8_muchBy_54 : decode cX8_muchBy 54 = .ok (.irem, 1) := by decide +kernel
theorem dX8_muchBy_55 : decode cX8_muchBy 55 = .ok (.iadd, 1) := by decide +kernel
theorem dX8_muchBy_56 : decode cX8_muchBy 56 = .ok (.imul, 1) := by decide +kernel
theorem dX8_muchBy_57 : decode cX8_muchBy 57 = .ok (.ireturn, 1) := by decide +kernel
theorem dX8_year_0 : decode cX8_year 0 = .ok (.iload_n 1, 1) := by decide +kernel
theorem dX8_year_1 : decode cX8_year 1 = .ok (.i2l, 1) := by decide +kernel
theorem dX8_year_2 : decode cX8_year 2 = .ok (.lconst 0, 1) := by decide +kernel
theorem dX8_year_3 : decode cX8_year 3 = .ok (.ldc2_w 88, 3) := by decide +kernel
theorem dX8_year_6 : decode cX8_year 6 = .ok (.invokestatic 80, 3) := by decide +kernel
theorem dX8_year_9 : decode cX8_year 9 = .ok (.ifCond .eq 27, 3) := by decide +kernel
theorem dX8_year_12 : decode cX8_year 12 = .ok (.iload_n 2, 1) := by decide +kernel
theorem dX8_year_13 : decode cX8_year 13 = .ok (.i2l, 1) := by decide +kernel
theorem dX8_year_14 : decode cX8_year 14 = .ok (.lconst 1, 1) := by decide +kernel
theorem dX8_year_15 : decode cX8_year 15 = .ok (.ldc2_w 252, 3) := by decide +kernel
theorem dX8_year_18 : decode cX8_year 18 = .ok (.invokestatic 80, 3) := by decide +kernel
theorem dX8_year_21 : decode cX8_year 21 = .ok (.ifCond .eq 15, 3) := by decide +kernel
theorem dX8_year_24 : decode cX8_year 24 = .ok (.iload_n 3, 1) := by decide +kernel
theorem dX8_year_25 : decode cX8_year 25 = .ok (.i2l, 1) := by decide +kernel
theorem dX8_year_26 : decode cX8_year 26 = .ok (.lconst 0, 1) := by decide +kernel
theorem dX8_year_27 : decode cX8_year 27 = .ok (.ldc2_w 221, 3) := by decide +kernel
theorem dX8_year_30 : decode cX8_year 30 = .ok (.invokestatic 80, 3) := by decide +kernel
theorem dX8_year_33 : decode cX8_year 33 = .ok (.ifCond .ne 6, 3) := by decide +kernel
theorem dX8_year_36 : decode cX8_year 36 = .ok (.bipush (-2), 2) := by decide +kernel
theorem dX8_year_38 : decode cX8_year 38 = .ok (.ireturn, 1) := by decide +kernel
theorem dX8_year_39 : decode cX8_year 39 = .ok (.aload_n 0, 1) := by decide +kernel
theorem dX8_year_40 : decode cX8_year 40 = .ok (.invokevirtual 212, 3) := by decide +kernel
theorem dX8_year_43 : decode cX8_year 43 = .ok (.iload_n 1, 1) := by decide +kernel
theorem dX8_year_44 : decode cX8_year 44 = .ok (.istore 4, 2) := by decide +kernel
theorem dX8_year_46 : decode cX8_year 46 = .ok (.iconst 0, 1) := by decide +kernel
theorem dX8_year_47 : decode cX8_year 47 = .ok (.istore 5, 2) := by decide +kernel
theorem dX8_year_49 : decode cX8_year 49 = .ok (.iload 5, 2) := by decide +kernel
theorem dX8_year_51 : decode cX8_year 51 = .ok (.iload_n 2, 1) := by decide +kernel
theorem dX8_year_52 : decode cX8_year 52 = .ok (.if_icmp .ge 82, 3) := by decide +kernel
theorem dX8_year_55 : decode cX8_year 55 = .ok (.ldc2_w 289, 3) := by decide +kernel
theorem dX8_year_58 : decode cX8_year 58 = .ok (.iload 4, 2) := by decide +kernel
theorem dX8_year_60 : decode cX8_year 60 = .ok (.i2l, 1) := by decide +kernel
theorem dX8_year_61 : decode cX8_year 61 = .ok (.lmul, 1) := by decide +kernel
theorem dX8_year_62 : decode cX8_year 62 = .ok (.ldc2_w 291, 3) := by decide +kernel
theorem dX8_year_65 : decode cX8_year 65 = .ok (.ladd, 1) := by decide +kernel
theorem dX8_year_66 : decode cX8_year 66 = .ok (.ldc2_w 293, 3) := by decide +kernel
theorem dX8_year_69 : decode cX8_year 69 = .ok (.lrem, 1) := by decide +kernel
theorem dX8_year_70 : decode cX8_year 70 = .ok (.l2i, 1) := by decide +kernel
theorem dX8_year_71 : decode cX8_year 71 = .ok (.istore 4, 2) := by decide +kernel
theorem dX8_year_73 : decode cX8_year 73 = .ok (.iload 4, 2) := by decide +kernel
theorem dX8_year_75 : decode cX8_year 75 = .ok (.bipush 6, 2) := by decide +kernel
theorem dX8_year_77 : decode cX8_year 77 = .ok (.idiv, 1) := by decide +kernel
theorem dX8_year_78 : decode cX8_year 78 = .ok (.bipush 8, 2) := by decide +kernel
theorem dX8_year_80 : decode cX8_year 80 = .ok (.irem, 1) := by decide +kernel
theorem dX8_year_81 : decode cX8_year 81 = .ok (.invokestatic 295, 3) := by decide +kernel
theorem dX8_year_84 : decode cX8_year 84 = .ok (.istore 6, 2) := by decide +kernel
theorem dX8_year_86 : decode cX8_year 86 = .ok (.iload 4, 2) := by decide +kernel
theorem dX8_year_88 : decode cX8_year 88 = .ok (.bipush 6, 2) := by decide +kernel
theorem dX8_year_90 : decode cX8_year 90 = .ok (.irem, 1) := by decide +kernel
theorem dX8_year_91 : decode cX8_year 91 = .ok (.istore 7, 2) := by decide +kernel
theorem dX8_year_93 : decode cX8_year 93 = .ok (.iload 6, 2) := by decide +kernel
theorem dX8_year_95 : decode cX8_year 95 = .ok (.iload 4, 2) := by decide +kernel
theorem dX8_year_97 : decode cX8_year 97 = .ok (.bipush 48, 2) := by decide +kernel
theorem dX8_year_99 : decode cX8_year 99 = .ok (.idiv, 1) := by decide +kernel
theorem dX8_year_100 : decode cX8_year 100 = .ok (.invokestatic 298, 3) := by decide +kernel
theorem dX8_year_103 : decode cX8_year 103 = .ok (.istore 8, 2) := by decide +kernel
theorem dX8_year_105 : decode cX8_year 105 = .ok (.aload_n 0, 1) := by decide +kernel
theorem dX8_year_106 : decode cX8_year 106 = .ok (.iload 6, 2) := by decide +kernel
theorem dX8_year_108 : decode cX8_year 108 = .ok (.iload 7, 2) := by decide +kernel
theorem dX8_year_110 : decode cX8_year 110 = .ok (.iload 8, 2) := by decide +kernel
theorem dX8_year_112 : decode cX8_year 112 = .ok (.invokevirtual 205, 3) := by decide +kernel
theorem dX8_year_115 : decode cX8_year 115 = .ok (.ifCond .ne 13, 3) := by decide +kernel
theorem dX8_year_118 : decode cX8_year 118 = .ok (.aload_n 0, 1) := by decide +kernel
theorem dX8_year_119 : decode cX8_year 119 = .ok (.iload 6, 2) := by decide +kernel
theorem dX8_year_121 : decode cX8_year 121 = .ok (.iload 7, 2) := by decide +kernel
theorem dX8_year_123 : decode cX8_year 123 = .ok (.iload 8, 2) := by decide +kernel
theorem dX8_year_125 : decode cX8_year 125 = .ok (.invokevirtual 208, 3) := by decide +kernel
theorem dX8_year_128 : decode cX8_year 128 = .ok (.iinc 5 1, 3) := by decide +kernel
theorem dX8_year_131 : decode cX8_year 131 = .ok (.goto (-82), 3) := by decide +kernel
theorem dX8_year_134 : decode cX8_year 134 = .ok (.iload_n 3, 1) := by decide +kernel
theorem dX8_year_135 : decode cX8_year 135 = .ok (.ifCond .ne 10, 3) := by decide +kernel
theorem dX8_year_138 : decode cX8_year 138 = .ok (.aload_n 0, 1) := by decide +kernel
theorem dX8_year_139 : decode cX8_year 139 = .ok (.invokevirtual 157, 3) := by decide +kernel
theorem dX8_year_142 : decode cX8_year 142 = .ok (.goto 24, 3) := by decide +kernel
theorem dX8_year_145 : decode cX8_year 145 = .ok (.iload_n 3, 1) := by decide +kernel
theorem dX8_year_146 : decode cX8_year 146 = .ok (.iconst 1, 1) := by decide +kernel
theorem dX8_year_147 : decode cX8_year 147 = .ok (.if_icmp .ne 10, 3) := by decide +kernel
theorem dX8_year_150 : decode cX8_year 150 = .ok (.aload_n 0, 1) := by decide +kernel
theorem dX8_year_151 : decode cX8_year 151 = .ok (.invokevirtual 164, 3) := by decide +kernel
theorem dX8_year_154 : decode cX8_year 154 = .ok (.goto 12, 3) := by decide +kernel
theorem dX8_year_157 : decode cX8_year 157 = .ok (.aload_n 0, 1) := by decide +kernel
theorem dX8_year_158 : decode cX8_year 158 = .ok (.bipush (-6), 2) := by decide +kernel
theorem dX8_year_160 : decode cX8_year 160 = .ok (.invokevirtual 229, 3) := by decide +kernel
theorem dX8_year_163 : decode cX8_year 163 = .ok (.invokestatic 279, 3) := by decide +kernel
theorem dX8_year_166 : decode cX8_year 166 = .ok (.istore 5, 2) := by decide +kernel
theorem dX8_year_168 : decode cX8_year 168 = .ok (.aload_n 0, 1) := by decide +kernel
theorem dX8_year_169 : decode cX8_year 169 = .ok (.iload 5, 2) := by decide +kernel
theorem dX8_year_171 : decode cX8_year 171 = .ok (.invokevirtual 226, 3) := by decide +kernel
theorem dX8_year_174 : decode cX8_year 174 = .ok (.ireturn, 1) := by decide +kernel
theorem dX8_pass_0 : decode cX8_pass 0 = .ok (.aload_n 0, 1) := by decide +kernel
theorem dX8_pass_1 : decode cX8_pass 1 = .ok (.getfield 301, 3) := by decide +kernel
theorem dX8_pass_4 : decode cX8_pass 4 = .ok (.ifCond .eq 7, 3) := by decide +kernel
theorem dX8_pass_7 : decode cX8_pass 7 = .ok (.iload_n 1, 1) := by decide +kernel
theorem dX8_pass_8 : decode cX8_pass 8 = .ok (.goto 12, 3) := by decide +kernel
theorem dX8_pass_11 : decode cX8_pass 11 = .ok (.aload_n 0, 1) := by decide +kernel
theorem dX8_pass_12 : decode cX8_pass 12 = .ok (.getfield 71, 3) := by decide +kernel
theorem dX8_pass_15 : decode cX8_pass 15 = .ok (.aload_n 0, 1) := by decide +kernel
theorem dX8_pass_16 : decode cX8_pass 16 = .ok (.getfield 305, 3) := by decide +kernel
theorem dX8_pass_19 : decode cX8_pass 19 = .ok (.iaload, 1) := by decide +kernel
theorem dX8_pass_20 : decode cX8_pass 20 = .ok (.istore_n 2, 1) := by decide +kernel
theorem dX8_pass_21 : decode cX8_pass 21 = .ok (.aload_n 0, 1) := by decide +kernel
theorem dX8_pass_22 : decode cX8_pass 22 = .ok (.getfield 71, 3) := by decide +kernel
theorem dX8_pass_25 : decode cX8_pass 25 = .ok (.aload_n 0, 1) := by decide +kernel
theorem dX8_pass_26 : decode cX8_pass 26 = .ok (.getfield 305, 3) := by decide +kernel
theorem dX8_pass_29 : decode cX8_pass 29 = .ok (.iload_n 2, 1) := by decide +kernel
theorem dX8_pass_30 : decode cX8_pass 30 = .ok (.iastore, 1) := by decide +kernel
theorem dX8_pass_31 : decode cX8_pass 31 = .ok (.aload_n 0, 1) := by decide +kernel
theorem dX8_pass_32 : decode cX8_pass 32 = .ok (.dup, 1) := by decide +kernel
theorem dX8_pass_33 : decode cX8_pass 33 = .ok (.getfield 305, 3) := by decide +kernel
theorem dX8_pass_36 : decode cX8_pass 36 = .ok (.iconst 1, 1) := by decide +kernel
theorem dX8_pass_37 : decode cX8_pass 37 = .ok (.iadd, 1) := by decide +kernel
theorem dX8_pass_38 : decode cX8_pass 38 = .ok (.putfield 305, 3) := by decide +kernel
theorem dX8_pass_41 : decode cX8_pass 41 = .ok (.iload_n 2, 1) := by decide +kernel
theorem dX8_pass_42 : decode cX8_pass 42 = .ok (.ireturn, 1) := by decide +kernel
theorem dX8_passRow_0 : decode cX8_passRow 0 = .ok (.iconst 0, 1) := by decide +kernel
theorem dX8_passRow_1 : decode cX8_passRow 1 = .ok (.istore_n 3, 1) := by decide +kernel
theorem dX8_passRow_2 : decode cX8_passRow 2 = .ok (.iload_n 3, 1) := by decide +kernel
theorem dX8_passRow_3 : decode cX8_passRow 3 = .ok (.iload_n 2, 1) := by decide +kernel
theorem dX8_passRow_4 : decode cX8_passRow 4 = .ok (.if_icmp .ge 19, 3) := by decide +kernel
theorem dX8_passRow_7 : decode cX8_passRow 7 = .ok (.aload_n 1, 1) := by decide +kernel
theorem dX8_passRow_8 : decode cX8_passRow 8 = .ok (.iload_n 3, 1) := by decide +kernel
theorem dX8_passRow_9 : decode cX8_passRow 9 = .ok (.aload_n 0, 1) := by decide +kernel
theorem dX8_passRow_10 : decode cX8_passRow 10 = .ok (.aload_n 1, 1) := by decide +kernel
theorem dX8_passRow_11 : decode cX8_passRow 11 = .ok (.iload_n 3, 1) := by decide +kernel
theorem dX8_passRow_12 : decode cX8_passRow 12 = .ok (.iaload, 1) := by decide +kernel
theorem dX8_passRow_13 : decode cX8_passRow 13 = .ok (.invokevirtual 308, 3) := by decide +kernel
theorem dX8_passRow_16 : decode cX8_passRow 16 = .ok (.iastore, 1) := by decide +kernel
theorem dX8_passRow_17 : decode cX8_passRow 17 = .ok (.iinc 3 1, 3) := by decide +kernel
theorem dX8_passRow_20 : decode cX8_passRow 20 = .ok (.goto (-18), 3) := by decide +kernel
theorem dX8_passRow_23 : decode cX8_passRow 23 = .ok (.return_, 1) := by decide +kernel
theorem dX8_passAll_0 : decode cX8_passAll 0 = .ok (.aload_n 0, 1) := by decide +kernel
theorem dX8_passAll_1 : decode cX8_passAll 1 = .ok (.aload_n 0, 1) := by decide +kernel
theorem dX8_passAll_2 : decode cX8_passAll 2 = .ok (.aload_n 0, 1) := by decide +kernel
theorem dX8_passAll_3 : decode cX8_passAll 3 = .ok (.getfield 98, 3) := by decide +kernel
theorem dX8_passAll_6 : decode cX8_passAll 6 = .ok (.invokevirtual 308, 3) := by decide +kernel
theorem dX8_passAll_9 : decode cX8_passAll 9 = .ok (.putfield 98, 3) := by decide +kernel
theorem dX8_passAll_12 : decode cX8_passAll 12 = .ok (.aload_n 0, 1) := by decide +kernel
theorem dX8_passAll_13 : decode cX8_passAll 13 = .ok (.aload_n 0, 1) := by decide +kernel
theorem dX8_passAll_14 : decode cX8_passAll 14 = .ok (.aload_n 0, 1) := by decide +kernel
theorem dX8_passAll_15 : decode cX8_passAll 15 = .ok (.getfield 102, 3) := by decide +kernel
theorem dX8_passAll_18 : decode cX8_passAll 18 = .ok (.invokevirtual 308, 3) := by decide +kernel
theorem dX8_passAll_21 : decode cX8_passAll 21 = .ok (.putfield 102, 3) := by decide +kernel
theorem dX8_passAll_24 : decode cX8_passAll 24 = .ok (.aload_n 0, 1) := by decide +kernel
theorem dX8_passAll_25 : decode cX8_passAll 25 = .ok (.aload_n 0, 1) := by decide +kernel
theorem dX8_passAll_26 : decode cX8_passAll 26 = .ok (.aload_n 0, 1) := by decide +kernel
theorem dX8_passAll_27 : decode cX8_passAll 27 = .ok (.getfield 183, 3) := by decide +kernel
theorem dX8_passAll_30 : decode cX8_passAll 30 = .ok (.invokevirtual 308, 3) := by decide +kernel
theorem dX8_passAll_33 : decode cX8_passAll 33 = .ok (.putfield 183, 3) := by decide +kernel
theorem dX8_passAll_36 : decode cX8_passAll 36 = .ok (.aload_n 0, 1) := by decide +kernel
theorem dX8_passAll_37 : decode cX8_passAll 37 = .ok (.aload_n 0, 1) := by decide +kernel
theorem dX8_passAll_38 : decode cX8_passAll 38 = .ok (.aload_n 0, 1) := by decide +kernel
theorem dX8_passAll_39 : decode cX8_passAll 39 = .ok (.getfield 180, 3) := by decide +kernel
theorem dX8_passAll_42 : decode cX8_passAll 42 = .ok (.invokevirtual 308, 3) := by decide +kernel
theorem dX8_passAll_45 : decode cX8_passAll 45 = .ok (.putfield 180, 3) := by decide +kernel
theorem dX8_passAll_48 : decode cX8_passAll 48 = .ok (.aload_n 0, 1) := by decide +kernel
theorem dX8_passAll_49 : decode cX8_passAll 49 = .ok (.aload_n 0, 1) := by decide +kernel
theorem dX8_passAll_50 : decode cX8_passAll 50 = .ok (.aload_n 0, 1) := by decide +kernel
theorem dX8_passAll_51 : decode cX8_passAll 51 = .ok (.getfield 276, 3) := by decide +kernel
theorem dX8_passAll_54 : decode cX8_passAll 54 = .ok (.invokevirtual 308, 3) := by decide +kernel
theorem dX8_passAll_57 : decode cX8_passAll 57 = .ok (.putfield 276, 3) := by decide +kernel
theorem dX8_passAll_60 : decode cX8_passAll 60 = .ok (.aload_n 0, 1) := by decide +kernel
theorem dX8_passAll_61 : decode cX8_passAll 61 = .ok (.aload_n 0, 1) := by decide +kernel
theorem dX8_passAll_62 : decode cX8_passAll 62 = .ok (.getfield 7, 3) := by decide +kernel
theorem dX8_passAll_65 : decode cX8_passAll 65 = .ok (.bipush 6, 2) := by decide +kernel
theorem dX8_passAll_67 : decode cX8_passAll 67 = .ok (.invokevirtual 311, 3) := by decide +kernel
theorem dX8_passAll_70 : decode cX8_passAll 70 = .ok (.aload_n 0, 1) := by decide +kernel
theorem dX8_passAll_71 : decode cX8_passAll 71 = .ok (.aload_n 0, 1) := by decide +kernel
theorem dX8_passAll_72 : decode cX8_passAll 72 = .ok (.getfield 13, 3) := by decide +kernel
theorem dX8_passAll_75 : decode cX8_passAll 75 = .ok (.bipush 6, 2) := by decide +kernel
theorem dX8_passAll_77 : decode cX8_passAll 77 = .ok (.invokevirtual 311, 3) := by decide +kernel
theorem dX8_passAll_80 : decode cX8_passAll 80 = .ok (.aload_n 0, 1) := by decide +kernel
theorem dX8_passAll_81 : decode cX8_passAll 81 = .ok (.aload_n 0, 1) := by decide +kernel
theorem dX8_passAll_82 : decode cX8_passAll 82 = .ok (.getfield 16, 3) := by decide +kernel
theorem dX8_passAll_85 : decode cX8_passAll 85 = .ok (.bipush 36, 2) := by decide +kernel
theorem dX8_passAll_87 : decode cX8_passAll 87 = .ok (.invokevirtual 311, 3) := by decide +kernel
theorem dX8_passAll_90 : decode cX8_passAll 90 = .ok (.aload_n 0, 1) := by decide +kernel
theorem dX8_passAll_91 : decode cX8_passAll 91 = .ok (.aload_n 0, 1) := by decide +kernel
theorem dX8_passAll_92 : decode cX8_passAll 92 = .ok (.getfield 19, 3) := by decide +kernel
theorem dX8_passAll_95 : decode cX8_passAll 95 = .ok (.bipush 8, 2) := by decide +kernel
theorem dX8_passAll_97 : decode cX8_passAll 97 = .ok (.invokevirtual 311, 3) := by decide +kernel
theorem dX8_passAll_100 : decode cX8_passAll 100 = .ok (.aload_n 0, 1) := by decide +kernel
theorem dX8_passAll_101 : decode cX8_passAll 101 = .ok (.aload_n 0, 1) := by decide +kernel
theorem dX8_passAll_102 : decode cX8_passAll 102 = .ok (.getfield 22, 3) := by decide +kernel
theorem dX8_passAll_105 : decode cX8_passAll 105 = .ok (.bipush 8, 2) := by decide +kernel
theorem dX8_passAll_107 : decode cX8_passAll 107 = .ok (.invokevirtual 311, 3) := by decide +kernel
theorem dX8_passAll_110 : decode cX8_passAll 110 = .ok (.aload_n 0, 1) := by decide +kernel
theorem dX8_passAll_111 : decode cX8_passAll 111 = .ok (.aload_n 0, 1) := by decide +kernel
theorem dX8_passAll_112 : decode cX8_passAll 112 = .ok (.getfield 25, 3) := by decide +kernel
theorem dX8_passAll_115 : decode cX8_passAll 115 = .ok (.bipush 8, 2) := by decide +kernel
theorem dX8_passAll_117 : decode cX8_passAll 117 = .ok (.invokevirtual 311, 3) := by decide +kernel
theorem dX8_passAll_120 : decode cX8_passAll 120 = .ok (.aload_n 0, 1) := by decide +kernel
theorem dX8_passAll_121 : decode cX8_passAll 121 = .ok (.aload_n 0, 1) := by decide +kernel
theorem dX8_passAll_122 : decode cX8_passAll 122 = .ok (.getfield 28, 3) := by decide +kernel
theorem dX8_passAll_125 : decode cX8_passAll 125 = .ok (.bipush 8, 2) := by decide +kernel
theorem dX8_passAll_127 : decode cX8_passAll 127 = .ok (.invokevirtual 311, 3) := by decide +kernel
theorem dX8_passAll_130 : decode cX8_passAll 130 = .ok (.aload_n 0, 1) := by decide +kernel
theorem dX8_passAll_131 : decode cX8_passAll 131 = .ok (.aload_n 0, 1) := by decide +kernel
theorem dX8_passAll_132 : decode cX8_passAll 132 = .ok (.getfield 31, 3) := by decide +kernel
theorem dX8_passAll_135 : decode cX8_passAll 135 = .ok (.bipush 8, 2) := by decide +kernel
theorem dX8_passAll_137 : decode cX8_passAll 137 = .ok (.invokevirtual 311, 3) := by decide +kernel
theorem dX8_passAll_140 : decode cX8_passAll 140 = .ok (.return_, 1) := by decide +kernel
theorem dX8_image_0 : decode cX8_image 0 = .ok (.iload_n 1, 1) := by decide +kernel
theorem dX8_image_1 : decode cX8_image 1 = .ok (.i2l, 1) := by decide +kernel
theorem dX8_image_2 : decode cX8_image 2 = .ok (.lconst 0, 1) := by decide +kernel
theorem dX8_image_3 : decode cX8_image 3 = .ok (.lconst 1, 1) := by decide +kernel
theorem dX8_image_4 : decode cX8_image 4 = .ok (.invokestatic 80, 3) := by decide +kernel
theorem dX8_image_7 : decode cX8_image 7 = .ok (.ifCond .ne 6, 3) := by decide +kernel
theorem dX8_image_10 : decode cX8_image 10 = .ok (.bipush (-2), 2) := by decide +kernel
theorem dX8_image_12 : decode cX8_image 12 = .ok (.ireturn, 1) := by decide +kernel
theorem dX8_image_13 : decode cX8_image 13 = .ok (.aload_n 0, 1) := by decide +kernel
theorem dX8_image_14 : decode cX8_image 14 = .ok (.bipush 100, 2) := by decide +kernel
theorem dX8_image_16 : decode cX8_image 16 = .ok (.iload_n 1, 1) := by decide +kernel
theorem dX8_image_17 : decode cX8_image 17 = .ok (.imul, 1) := by decide +kernel
theorem dX8_image_18 : decode cX8_image 18 = .ok (.putfield 305, 3) := by decide +kernel
theorem dX8_image_21 : decode cX8_image 21 = .ok (.aload_n 0, 1) := by decide +kernel
theorem dX8_image_22 : decode cX8_image 22 = .ok (.iconst 1, 1) := by decide +kernel
theorem dX8_image_23 : decode cX8_image 23 = .ok (.putfield 301, 3) := by decide +kernel
theorem dX8_image_26 : decode cX8_image 26 = .ok (.aload_n 0, 1) := by decide +kernel
theorem dX8_image_27 : decode cX8_image 27 = .ok (.invokevirtual 315, 3) := by decide +kernel
theorem dX8_image_30 : decode cX8_image 30 = .ok (.aload_n 0, 1) := by decide +kernel
theorem dX8_image_31 : decode cX8_image 31 = .ok (.getfield 74, 3) := by decide +kernel
theorem dX8_image_34 : decode cX8_image 34 = .ok (.iload_n 1, 1) := by decide +kernel
theorem dX8_image_35 : decode cX8_image 35 = .ok (.iconst 1, 1) := by decide +kernel
theorem dX8_image_36 : decode cX8_image 36 = .ok (.bastore, 1) := by decide +kernel
theorem dX8_image_37 : decode cX8_image 37 = .ok (.iconst 1, 1) := by decide +kernel
theorem dX8_image_38 : decode cX8_image 38 = .ok (.ireturn, 1) := by decide +kernel
theorem dX8_restore_0 : decode cX8_restore 0 = .ok (.iload_n 1, 1) := by decide +kernel
theorem dX8_restore_1 : decode cX8_restore 1 = .ok (.i2l, 1) := by decide +kernel
theorem dX8_restore_2 : decode cX8_restore 2 = .ok (.lconst 0, 1) := by decide +kernel
theorem dX8_restore_3 : decode cX8_restore 3 = .ok (.lconst 1, 1) := by decide +kernel
theorem dX8_restore_4 : decode cX8_restore 4 = .ok (.invokestatic 80, 3) := by decide +kernel
theorem dX8_restore_7 : decode cX8_restore 7 = .ok (.ifCond .ne 6, 3) := by decide +kernel
theorem dX8_restore_10 : decode cX8_restore 10 = .ok (.bipush (-2), 2) := by decide +kernel
theorem dX8_restore_12 : decode cX8_restore 12 = .ok (.ireturn, 1) := by decide +kernel
theorem dX8_restore_13 : decode cX8_restore 13 = .ok (.aload_n 0, 1) := by decide +kernel
theorem dX8_restore_14 : decode cX8_restore 14 = .ok (.getfield 74, 3) := by decide +kernel
theorem dX8_restore_17 : decode cX8_restore 17 = .ok (.iload_n 1, 1) := by decide +kernel
theorem dX8_restore_18 : decode cX8_restore 18 = .ok (.baload, 1) := by decide +kernel
theorem dX8_restore_19 : decode cX8_restore 19 = .ok (.ifCond .ne 6, 3) := by decide +kernel
theorem dX8_restore_22 : decode cX8_restore 22 = .ok (.bipush (-3), 2) := by decide +kernel
theorem dX8_restore_24 : decode cX8_restore 24 = .ok (.ireturn, 1) := by decide +kernel
theorem dX8_restore_25 : decode cX8_restore 25 = .ok (.aload_n 0, 1) := by decide +kernel
theorem dX8_restore_26 : decode cX8_restore 26 = .ok (.bipush 100, 2) := by decide +kernel
theorem dX8_restore_28 : decode cX8_restore 28 = .ok (.iload_n 1, 1) := by decide +kernel
theorem dX8_restore_29 : decode cX8_restore 29 = .ok (.imul, 1) := by decide +kernel
theorem dX8_restore_30 : decode cX8_restore 30 = .ok (.putfield 305, 3) := by decide +kernel
theorem dX8_restore_33 : decode cX8_restore 33 = .ok (.aload_n 0, 1) := by decide +kernel
theorem dX8_restore_34 : decode cX8_restore 34 = .ok (.iconst 0, 1) := by decide +kernel
theorem dX8_restore_35 : decode cX8_restore 35 = .ok (.putfield 301, 3) := by decide +kernel
theorem dX8_restore_38 : decode cX8_restore 38 = .ok (.aload_n 0, 1) := by decide +kernel
theorem dX8_restore_39 : decode cX8_restore 39 = .ok (.invokevirtual 315, 3) := by decide +kernel
theorem dX8_restore_42 : decode cX8_restore 42 = .ok (.iconst 1, 1) := by decide +kernel
theorem dX8_restore_43 : decode cX8_restore 43 = .ok (.ireturn, 1) := by decide +kernel
theorem dX8_toldOfOne_0 : decode cX8_toldOfOne 0 = .ok (.iload_n 2, 1) := by decide +kernel
theorem dX8_toldOfOne_1 : decode cX8_toldOfOne 1 = .ok (.iconst 3, 1) := by decide +kernel
theorem dX8_toldOfOne_2 : decode cX8_toldOfOne 2 = .ok (.if_icmp .ge 12, 3) := by decide +kernel
theorem dX8_toldOfOne_5 : decode cX8_toldOfOne 5 = .ok (.aload_n 0, 1) := by decide +kernel
theorem dX8_toldOfOne_6 : decode cX8_toldOfOne 6 = .ok (.iload_n 1, 1) := by decide +kernel
theorem dX8_toldOfOne_7 : decode cX8_toldOfOne 7 = .ok (.iload_n 2, 1) := by decide +kernel
theorem dX8_toldOfOne_8 : decode cX8_toldOfOne 8 = .ok (.invokevirtual 237, 3) := by decide +kernel
theorem dX8_toldOfOne_11 : decode cX8_toldOfOne 11 = .ok (.goto 5, 3) := by decide +kernel
theorem dX8_toldOfOne_14 : decode cX8_toldOfOne 14 = .ok (.bipush (-2), 2) := by decide +kernel
theorem dX8_toldOfOne_16 : decode cX8_toldOfOne 16 = .ok (.ireturn, 1) := by decide +kernel
theorem dX8_toldOfAll_0 : decode cX8_toldOfAll 0 = .ok (.iload_n 1, 1) := by decide +kernel
theorem dX8_toldOfAll_1 : decode cX8_toldOfAll 1 = .ok (.tableswitch 96 0 8 #[51, 56, 61, 66, 71, 76, 81, 86, 91], 51) := by decide +kernel
theorem dX8_toldOfAll_52 : decode cX8_toldOfAll 52 = .ok (.aload_n 0, 1) := by decide +kernel
theorem dX8_toldOfAll_53 : decode cX8_toldOfAll 53 = .ok (.getfield 109, 3) := by decide +kernel
theorem dX8_toldOfAll_56 : decode cX8_toldOfAll 56 = .ok (.ireturn, 1) := by decide +kernel
theorem dX8_toldOfAll_57 : decode cX8_toldOfAll 57 = .ok (.aload_n 0, 1) := by decide +kernel
theorem dX8_toldOfAll_58 : decode cX8_toldOfAll 58 = .ok (.getfield 98, 3) := by decide +kernel
theorem dX8_toldOfAll_61 : decode cX8_toldOfAll 61 = .ok (.ireturn, 1) := by decide +kernel
theorem dX8_toldOfAll_62 : decode cX8_toldOfAll 62 = .ok (.aload_n 0, 1) := by decide +kernel
theorem dX8_toldOfAll_63 : decode cX8_toldOfAll 63 = .ok (.getfield 102, 3) := by decide +kernel
theorem dX8_toldOfAll_66 : decode cX8_toldOfAll 66 = .ok (.ireturn, 1) := by decide +kernel
theorem dX8_toldOfAll_67 : decode cX8_toldOfAll 67 = .ok (.aload_n 0, 1) := by decide +kernel
theorem dX8_toldOfAll_68 : decode cX8_toldOfAll 68 = .ok (.getfield 183, 3) := by decide +kernel
theorem dX8_toldOfAll_71 : decode cX8_toldOfAll 71 = .ok (.ireturn, 1) := by decide +kernel
theorem dX8_toldOfAll_72 : decode cX8_toldOfAll 72 = .ok (.aload_n 0, 1) := by decide +kernel
theorem dX8_toldOfAll_73 : decode cX8_toldOfAll 73 = .ok (.getfield 180, 3) := by decide +kernel
theorem dX8_toldOfAll_76 : decode cX8_toldOfAll 76 = .ok (.ireturn, 1) := by decide +kernel
theorem dX8_toldOfAll_77 : decode cX8_toldOfAll 77 = .ok (.aload_n 0, 1) := by decide +kernel
theorem dX8_toldOfAll_78 : decode cX8_toldOfAll 78 = .ok (.getfield 276, 3) := by decide +kernel
theorem dX8_toldOfAll_81 : decode cX8_toldOfAll 81 = .ok (.ireturn, 1) := by decide +kernel
theorem dX8_toldOfAll_82 : decode cX8_toldOfAll 82 = .ok (.aload_n 0, 1) := by decide +kernel
theorem dX8_toldOfAll_83 : decode cX8_toldOfAll 83 = .ok (.invokevirtual 157, 3) := by decide +kernel
theorem dX8_toldOfAll_86 : decode cX8_toldOfAll 86 = .ok (.ireturn, 1) := by decide +kernel
theorem dX8_toldOfAll_87 : decode cX8_toldOfAll 87 = .ok (.aload_n 0, 1) := by decide +kernel
theorem dX8_toldOfAll_88 : decode cX8_toldOfAll 88 = .ok (.invokevirtual 153, 3) := by decide +kernel
theorem dX8_toldOfAll_91 : decode cX8_toldOfAll 91 = .ok (.ireturn, 1) := by decide +kernel
theorem dX8_toldOfAll_92 : decode cX8_toldOfAll 92 = .ok (.aload_n 0, 1) := by decide +kernel
theorem dX8_toldOfAll_93 : decode cX8_toldOfAll 93 = .ok (.invokevirtual 164, 3) := by decide +kernel
theorem dX8_toldOfAll_96 : decode cX8_toldOfAll 96 = .ok (.ireturn, 1) := by decide +kernel
theorem dX8_toldOfAll_97 : decode cX8_toldOfAll 97 = .ok (.bipush (-2), 2) := by decide +kernel
theorem dX8_toldOfAll_99 : decode cX8_toldOfAll 99 = .ok (.ireturn, 1) := by decide +kernel
theorem dX8_told_0 : decode cX8_told 0 = .ok (.iload_n 1, 1) := by decide +kernel
theorem dX8_told_1 : decode cX8_told 1 = .ok (.i2l, 1) := by decide +kernel
theorem dX8_told_2 : decode cX8_told 2 = .ok (.ldc2_w 318, 3) := by decide +kernel
theorem dX8_told_5 : decode cX8_told 5 = .ok (.ldc2_w 320, 3) := by decide +kernel
theorem dX8_told_8 : decode cX8_told 8 = .ok (.invokestatic 80, 3) := by decide +kernel
theorem dX8_told_11 : decode cX8_told 11 = .ok (.ifCond .eq 39, 3) := by decide +kernel
theorem dX8_told_14 : decode cX8_told 14 = .ok (.iload_n 1, 1) := by decide +kernel
theorem dX8_told_15 : decode cX8_told 15 = .ok (.bipush 10, 2) := by decide +kernel
theorem dX8_told_17 : decode cX8_told 17 = .ok (.irem, 1) := by decide +kernel
theorem dX8_told_18 : decode cX8_told 18 = .ok (.bipush 6, 2) := by decide +kernel
theorem dX8_told_20 : decode cX8_told 20 = .ok (.if_icmp .ge 27, 3) := by decide +kernel
theorem dX8_told_23 : decode cX8_told 23 = .ok (.aload_n 0, 1) := by decide +kernel
theorem dX8_told_24 : decode cX8_told 24 = .ok (.getfield 16, 3) := by decide +kernel
theorem dX8_told_27 : decode cX8_told 27 = .ok (.bipush 6, 2) := by decide +kernel
theorem dX8_told_29 : decode cX8_told 29 = .ok (.iload_n 1, 1) := by decide +kernel
theorem dX8_told_30 : decode cX8_told 30 = .ok (.sipush 200, 3) := by decide +kernel
theorem dX8_told_33 : decode cX8_told 33 = .ok (.isub, 1) := by decide +kernel
theorem dX8_told_34 : decode cX8_told 34 = .ok (.bipush 10, 2) := by decide +kernel
theorem dX8_told_36 : decode cX8_told 36 = .ok (.idiv, 1) := by decide +kernel
theorem dX8_told_37 : decode cX8_told 37 = .ok (.imul, 1) := by decide +kernel
theorem dX8_told_38 : decode cX8_told 38 = .ok (.iload_n 1, 1) := by decide +kernel
theorem dX8_told_39 : decode cX8_told 39 = .ok (.bipush 10, 2) := by decide +kernel
theorem dX8_told_41 : decode cX8_told 41 = .ok (.irem, 1) := by decide +kernel
theorem dX8_told_42 : decode cX8_told 42 = .ok (.iadd, 1) := by decide +kernel
theorem dX8_told_43 : decode cX8_told 43 = .ok (.iaload, 1) := by decide +kernel
theorem dX8_told_44 : decode cX8_told 44 = .ok (.goto 5, 3) := by decide +kernel
theorem dX8_told_47 : decode cX8_told 47 = .ok (.bipush (-2), 2) := by decide +kernel
theorem dX8_told_49 : decode cX8_told 49 = .ok (.ireturn, 1) := by decide +kernel
theorem dX8_told_50 : decode cX8_told 50 = .ok (.iload_n 1, 1) := by decide +kernel
theorem dX8_told_51 : decode cX8_told 51 = .ok (.i2l, 1) := by decide +kernel
theorem dX8_told_52 : decode cX8_told 52 = .ok (.ldc2_w 151, 3) := by decide +kernel
theorem dX8_told_55 : decode cX8_told 55 = .ok (.ldc2_w 322, 3) := by decide +kernel
theorem dX8_told_58 : decode cX8_told 58 = .ok (.invokestatic 80, 3) := by decide +kernel
theorem dX8_told_61 : decode cX8_told 61 = .ok (.ifCond .eq 47, 3) := by decide +kernel
theorem dX8_told_64 : decode cX8_told 64 = .ok (.iload_n 1, 1) := by decide +kernel
theorem dX8_told_65 : decode cX8_told 65 = .ok (.bipush 100, 2) := by decide +kernel
theorem dX8_told_67 : decode cX8_told 67 = .ok (.isub, 1) := by decide +kernel
theorem dX8_told_68 : decode cX8_told 68 = .ok (.bipush 10, 2) := by decide +kernel
theorem dX8_told_70 : decode cX8_told 70 = .ok (.idiv, 1) := by decide +kernel
theorem dX8_told_71 : decode cX8_told 71 = .ok (.istore_n 2, 1) := by decide +kernel
theorem dX8_told_72 : decode cX8_told 72 = .ok (.iload_n 1, 1) := by decide +kernel
theorem dX8_told_73 : decode cX8_told 73 = .ok (.bipush 10, 2) := by decide +kernel
theorem dX8_told_75 : decode cX8_told 75 = .ok (.irem, 1) := by decide +kernel
theorem dX8_told_76 : decode cX8_told 76 = .ok (.ifCond .ne 12, 3) := by decide +kernel
theorem dX8_told_79 : decode cX8_told 79 = .ok (.aload_n 0, 1) := by decide +kernel
theorem dX8_told_80 : decode cX8_told 80 = .ok (.getfield 19, 3) := by decide +kernel
theorem dX8_told_83 : decode cX8_told 83 = .ok (.iload_n 2, 1) := by decide +kernel
theorem dX8_told_84 : decode cX8_told 84 = .ok (.iaload, 1) := by decide +kernel
theorem dX8_told_85 : decode cX8_told 85 = .ok (.goto 22, 3) := by decide +kernel
theorem dX8_told_88 : decode cX8_told 88 = .ok (.iload_n 1, 1) := by decide +kernel
theorem dX8_told_89 : decode cX8_told 89 = .ok (.bipush 10, 2) := by decide +kernel
theorem dX8_told_91 : decode cX8_told 91 = .ok (.irem, 1) := by decide +kernel
theorem dX8_told_92 : decode cX8_told 92 = .ok (.iconst 1, 1) := by decide +kernel
theorem dX8_told_93 : decode cX8_told 93 = .ok (.if_icmp .ne 12, 3) := by decide +kernel
theorem dX8_told_96 : decode cX8_told 96 = .ok (.aload_n 0, 1) := by decide +kernel
theorem dX8_told_97 : decode cX8_told 97 = .ok (.getfield 22, 3) := by decide +kernel
theorem dX8_told_100 : decode cX8_told 100 = .ok (.iload_n 2, 1) := by decide +kernel
theorem dX8_told_101 : decode cX8_told 101 = .ok (.iaload, 1) := by decide +kernel
theorem dX8_told_102 : decode cX8_told 102 = .ok (.goto 5, 3) := by decide +kernel
theorem dX8_told_105 : decode cX8_told 105 = .ok (.bipush (-2), 2) := by decide +kernel
theorem dX8_told_107 : decode cX8_told 107 = .ok (.ireturn, 1) := by decide +kernel
theorem dX8_told_108 : decode cX8_told 108 = .ok (.iload_n 1, 1) := by decide +kernel
theorem dX8_told_109 : decode cX8_told 109 = .ok (.i2l, 1) := by decide +kernel
theorem dX8_told_110 : decode cX8_told 110 = .ok (.ldc2_w 260, 3) := by decide +kernel
theorem dX8_told_113 : decode cX8_told 113 = .ok (.ldc2_w 324, 3) := by decide +kernel
theorem dX8_told_116 : decode cX8_told 116 = .ok (.invokestatic 80, 3) := by decide +kernel
theorem dX8_told_119 : decode cX8_told 119 = .ok (.ifCond .eq 20, 3) := by decide +kernel
theorem dX8_told_122 : decode cX8_told 122 = .ok (.aload_n 0, 1) := by decide +kernel
theorem dX8_told_123 : decode cX8_told 123 = .ok (.iload_n 1, 1) := by decide +kernel
theorem dX8_told_124 : decode cX8_told 124 = .ok (.bipush 10, 2) := by decide +kernel
theorem dX8_told_126 : decode cX8_told 126 = .ok (.idiv, 1) := by decide +kernel
theorem dX8_told_127 : decode cX8_told 127 = .ok (.iconst 1, 1) := by decide +kernel
theorem dX8_told_128 : decode cX8_told 128 = .ok (.isub, 1) := by decide +kernel
theorem dX8_told_129 : decode cX8_told 129 = .ok (.iload_n 1, 1) := by decide +kernel
theorem dX8_told_130 : decode cX8_told 130 = .ok (.bipush 10, 2) := by decide +kernel
theorem dX8_told_132 : decode cX8_told 132 = .ok (.irem, 1) := by decide +kernel
theorem dX8_told_133 : decode cX8_told 133 = .ok (.invokevirtual 326, 3) := by decide +kernel
theorem dX8_told_136 : decode cX8_told 136 = .ok (.goto 8, 3) := by decide +kernel
theorem dX8_told_139 : decode cX8_told 139 = .ok (.aload_n 0, 1) := by decide +kernel
theorem dX8_told_140 : decode cX8_told 140 = .ok (.iload_n 1, 1) := by decide +kernel
theorem dX8_told_141 : decode cX8_told 141 = .ok (.invokevirtual 329, 3) := by decide +kernel
theorem dX8_told_144 : decode cX8_told 144 = .ok (.ireturn, 1) := by decide +kernel
