theorem dX11_nodeOf_0 : decode cX11_nodeOf 0 = .ok (.aload_n 0, 1) := by decide +kernel
theorem dX11_nodeOf_1 : decode cX11_nodeOf 1 = .ok (.getfield 219, 3) := by decide +kernel
theorem dX11_nodeOf_4 : decode cX11_nodeOf 4 = .ok (.iload_n 1, 1) := by decide +kernel
theorem dX11_nodeOf_5 : decode cX11_nodeOf 5 = .ok (.iconst 4, 1) := by decide +kernel
theorem dX11_nodeOf_6 : decode cX11_nodeOf 6 = .ok (.idiv, 1) := by decide +kernel
theorem dX11_nodeOf_7 : decode cX11_nodeOf 7 = .ok (.bipush 19, 2) := by decide +kernel
theorem dX11_nodeOf_9 : decode cX11_nodeOf 9 = .ok (.imul, 1) := by decide +kernel
theorem dX11_nodeOf_10 : decode cX11_nodeOf 10 = .ok (.bipush 39, 2) := by decide +kernel
theorem dX11_nodeOf_12 : decode cX11_nodeOf 12 = .ok (.imul, 1) := by decide +kernel
theorem dX11_nodeOf_13 : decode cX11_nodeOf 13 = .ok (.iadd, 1) := by decide +kernel
theorem dX11_nodeOf_14 : decode cX11_nodeOf 14 = .ok (.iload_n 1, 1) := by decide +kernel
theorem dX11_nodeOf_15 : decode cX11_nodeOf 15 = .ok (.iconst 2, 1) := by decide +kernel
theorem dX11_nodeOf_16 : decode cX11_nodeOf 16 = .ok (.idiv, 1) := by decide +kernel
theorem dX11_nodeOf_17 : decode cX11_nodeOf 17 = .ok (.iconst 2, 1) := by decide +kernel
theorem dX11_nodeOf_18 : decode cX11_nodeOf 18 = .ok (.irem, 1) := by decide +kernel
theorem dX11_nodeOf_19 : decode cX11_nodeOf 19 = .ok (.bipush 39, 2) := by decide +kernel
theorem dX11_nodeOf_21 : decode cX11_nodeOf 21 = .ok (.imul, 1) := by decide +kernel
theorem dX11_nodeOf_22 : decode cX11_nodeOf 22 = .ok (.iadd, 1) := by decide +kernel
theorem dX11_nodeOf_23 : decode cX11_nodeOf 23 = .ok (.iload_n 1, 1) := by decide +kernel
theorem dX11_nodeOf_24 : decode cX11_nodeOf 24 = .ok (.iconst 2, 1) := by decide +kernel
theorem dX11_nodeOf_25 : decode cX11_nodeOf 25 = .ok (.irem, 1) := by decide +kernel
theorem dX11_nodeOf_26 : decode cX11_nodeOf 26 = .ok (.iadd, 1) := by decide +kernel
theorem dX11_nodeOf_27 : decode cX11_nodeOf 27 = .ok (.ireturn, 1) := by decide +kernel
theorem dX11_spreads_0 : decode cX11_spreads 0 = .ok (.aload_n 0, 1) := by decide +kernel
theorem dX11_spreads_1 : decode cX11_spreads 1 = .ok (.getfield 58, 3) := by decide +kernel
theorem dX11_spreads_4 : decode cX11_spreads 4 = .ok (.iload_n 1, 1) := by decide +kernel
theorem dX11_spreads_5 : decode cX11_spreads 5 = .ok (.iload 4, 2) := by decide +kernel
theorem dX11_spreads_7 : decode cX11_spreads 7 = .ok (.iastore, 1) := by decide +kernel
theorem dX11_spreads_8 : decode cX11_spreads 8 = .ok (.aload_n 0, 1) := by decide +kernel
theorem dX11_spreads_9 : decode cX11_spreads 9 = .ok (.getfield 61, 3) := by decide +kernel
theorem dX11_spreads_12 : decode cX11_spreads 12 = .ok (.iload_n 1, 1) := by decide +kernel
theorem dX11_spreads_13 : decode cX11_spreads 13 = .ok (.iload 5, 2) := by decide +kernel
theorem dX11_spreads_15 : decode cX11_spreads 15 = .ok (.iastore, 1) := by decide +kernel
theorem dX11_spreads_16 : decode cX11_spreads 16 = .ok (.iconst 0, 1) := by decide +kernel
theorem dX11_spreads_17 : decode cX11_spreads 17 = .ok (.istore 6, 2) := by decide +kernel
theorem dX11_spreads_19 : decode cX11_spreads 19 = .ok (.iload 6, 2) := by decide +kernel
theorem dX11_spreads_21 : decode cX11_spreads 21 = .ok (.sipush 17043, 3) := by decide +kernel
theorem dX11_spreads_24 : decode cX11_spreads 24 = .ok (.if_icmp .ge 37, 3) := by decide +kernel
theorem dX11_spreads_27 : decode cX11_spreads 27 = .ok (.aload_n 0, 1) := by decide +kernel
theorem dX11_spreads_28 : decode cX11_spreads 28 = .ok (.getfield 45, 3) := by decide +kernel
theorem dX11_spreads_31 : decode cX11_spreads 31 = .ok (.sipush 17043, 3) := by decide +kernel
theorem dX11_spreads_34 : decode cX11_spreads 34 = .ok (.iload_n 1, 1) := by decide +kernel
theorem dX11_spreads_35 : decode cX11_spreads 35 = .ok (.imul, 1) := by decide +kernel
theorem dX11_spreads_36 : decode cX11_spreads 36 = .ok (.iload 6, 2) := by decide +kernel
theorem dX11_spreads_38 : decode cX11_spreads 38 = .ok (.iadd, 1) := by decide +kernel
theorem dX11_spreads_39 : decode cX11_spreads 39 = .ok (.lconst 0, 1) := by decide +kernel
theorem dX11_spreads_40 : decode cX11_spreads 40 = .ok (.lastore, 1) := by decide +kernel
theorem dX11_spreads_41 : decode cX11_spreads 41 = .ok (.aload_n 0, 1) := by decide +kernel
theorem dX11_spreads_42 : decode cX11_spreads 42 = .ok (.getfield 49, 3) := by decide +kernel
theorem dX11_spreads_45 : decode cX11_spreads 45 = .ok (.sipush 17043, 3) := by decide +kernel
theorem dX11_spreads_48 : decode cX11_spreads 48 = .ok (.iload_n 1, 1) := by decide +kernel
theorem dX11_spreads_49 : decode cX11_spreads 49 = .ok (.imul, 1) := by decide +kernel
theorem dX11_spreads_50 : decode cX11_spreads 50 = .ok (.iload 6, 2) := by decide +kernel
theorem dX11_spreads_52 : decode cX11_spreads 52 = .ok (.iadd, 1) := by decide +kernel
theorem dX11_spreads_53 : decode cX11_spreads 53 = .ok (.lconst 0, 1) := by decide +kernel
theorem dX11_spreads_54 : decode cX11_spreads 54 = .ok (.lastore, 1) := by decide +kernel
theorem dX11_spreads_55 : decode cX11_spreads 55 = .ok (.iinc 6 1, 3) := by decide +kernel
theorem dX11_spreads_58 : decode cX11_spreads 58 = .ok (.goto (-39), 3) := by decide +kernel
theorem dX11_spreads_61 : decode cX11_spreads 61 = .ok (.iconst 0, 1) := by decide +kernel
theorem dX11_spreads_62 : decode cX11_spreads 62 = .ok (.istore 6, 2) := by decide +kernel
theorem dX11_spreads_64 : decode cX11_spreads 64 = .ok (.iload 6, 2) := by decide +kernel
theorem dX11_spreads_66 : decode cX11_spreads 66 = .ok (.aload_n 0, 1) := by decide +kernel
theorem dX11_spreads_67 : decode cX11_spreads 67 = .ok (.iload_n 2, 1) := by decide +kernel
theorem dX11_spreads_68 : decode cX11_spreads 68 = .ok (.invokevirtual 176, 3) := by decide +kernel
theorem dX11_spreads_71 : decode cX11_spreads 71 = .ok (.if_icmp .ge 127, 3) := by decide +kernel
theorem dX11_spreads_74 : decode cX11_spreads 74 = .ok (.iconst 0, 1) := by decide +kernel
theorem dX11_spreads_75 : decode cX11_spreads 75 = .ok (.istore 7, 2) := by decide +kernel
theorem dX11_spreads_77 : decode cX11_spreads 77 = .ok (.iload 7, 2) := by decide +kernel
theorem dX11_spreads_79 : decode cX11_spreads 79 = .ok (.aload_n 0, 1) := by decide +kernel
theorem dX11_spreads_80 : decode cX11_spreads 80 = .ok (.iload_n 2, 1) := by decide +kernel
theorem dX11_spreads_81 : decode cX11_spreads 81 = .ok (.invokevirtual 170, 3) := by decide +kernel
theorem dX11_spreads_84 : decode cX11_spreads 84 = .ok (.if_icmp .ge 108, 3) := by decide +kernel
theorem dX11_spreads_87 : decode cX11_spreads 87 = .ok (.aload_n 0, 1) := by decide +kernel
theorem dX11_spreads_88 : decode cX11_spreads 88 = .ok (.iload_n 1, 1) := by decide +kernel
theorem dX11_spreads_89 : decode cX11_spreads 89 = .ok (.iload 7, 2) := by decide +kernel
theorem dX11_spreads_91 : decode cX11_spreads 91 = .ok (.iload 6, 2) := by decide +kernel
theorem dX11_spreads_93 : decode cX11_spreads 93 = .ok (.aload_n 0, 1) := by decide +kernel
theorem dX11_spreads_94 : decode cX11_spreads 94 = .ok (.iload_n 3, 1) := by decide +kernel
theorem dX11_spreads_95 : decode cX11_spreads 95 = .ok (.iload 7, 2) := by decide +kernel
theorem dX11_spreads_97 : decode cX11_spreads 97 = .ok (.iload 6, 2) := by decide +kernel
theorem dX11_spreads_99 : decode cX11_spreads 99 = .ok (.invokevirtual 182, 3) := by decide +kernel
theorem dX11_spreads_102 : decode cX11_spreads 102 = .ok (.invokevirtual 231, 3) := by decide +kernel
theorem dX11_spreads_105 : decode cX11_spreads 105 = .ok (.iconst 0, 1) := by decide +kernel
theorem dX11_spreads_106 : decode cX11_spreads 106 = .ok (.istore 8, 2) := by decide +kernel
theorem dX11_spreads_108 : decode cX11_spreads 108 = .ok (.iload 8, 2) := by decide +kernel
theorem dX11_spreads_110 : decode cX11_spreads 110 = .ok (.bipush 8, 2) := by decide +kernel
theorem dX11_spreads_112 : decode cX11_spreads 112 = .ok (.if_icmp .ge 74, 3) := by decide +kernel
theorem dX11_spreads_115 : decode cX11_spreads 115 = .ok (.aload_n 0, 1) := by decide +kernel
theorem dX11_spreads_116 : decode cX11_spreads 116 = .ok (.getfield 45, 3) := by decide +kernel
theorem dX11_spreads_119 : decode cX11_spreads 119 = .ok (.sipush 17043, 3) := by decide +kernel
theorem dX11_spreads_122 : decode cX11_spreads 122 = .ok (.iload_n 1, 1) := by decide +kernel
theorem dX11_spreads_123 : decode cX11_spreads 123 = .ok (.imul, 1) := by decide +kernel
theorem dX11_spreads_124 : decode cX11_spreads 124 = .ok (.aload_n 0, 1) := by decide +kernel
theorem dX11_spreads_125 : decode cX11_spreads 125 = .ok (.iload 8, 2) := by decide +kernel
theorem dX11_spreads_127 : decode cX11_spreads 127 = .ok (.invokevirtual 234, 3) := by decide +kernel
theorem dX11_spreads_130 : decode cX11_spreads 130 = .ok (.iadd, 1) := by decide +kernel
theorem dX11_spreads_131 : decode cX11_spreads 131 = .ok (.dup2, 1) := by decide +kernel
theorem dX11_spreads_132 : decode cX11_spreads 132 = .ok (.laload, 1) := by decide +kernel
theorem dX11_spreads_133 : decode cX11_spreads 133 = .ok (.aload_n 0, 1) := by decide +kernel
theorem dX11_spreads_134 : decode cX11_spreads 134 = .ok (.iload_n 1, 1) := by decide +kernel
theorem dX11_spreads_135 : decode cX11_spreads 135 = .ok (.iload 8, 2) := by decide +kernel
theorem dX11_spreads_137 : decode cX11_spreads 137 = .ok (.invokevirtual 237, 3) := by decide +kernel
theorem dX11_spreads_140 : decode cX11_spreads 140 = .ok (.ladd, 1) := by decide +kernel
theorem dX11_spreads_141 : decode cX11_spreads 141 = .ok (.lastore, 1) := by decide +kernel
theorem dX11_spreads_142 : decode cX11_spreads 142 = .ok (.aload_n 0, 1) := by decide +kernel
theorem dX11_spreads_143 : decode cX11_spreads 143 = .ok (.getfield 49, 3) := by decide +kernel
theorem dX11_spreads_146 : decode cX11_spreads 146 = .ok (.sipush 17043, 3) := by decide +kernel
theorem dX11_spreads_149 : decode cX11_spreads 149 = .ok (.iload_n 1, 1) := by decide +kernel
theorem dX11_spreads_150 : decode cX11_spreads 150 = .ok (.imul, 1) := by decide +kernel
theorem dX11_spreads_151 : decode cX11_spreads 151 = .ok (.aload_n 0, 1) := by decide +kernel
theorem dX11_spreads_152 : decode cX11_spreads 152 = .ok (.iload 8, 2) := by decide +kernel
theorem dX11_spreads_154 : decode cX11_spreads 154 = .ok (.invokevirtual 234, 3) := by decide +kernel
theorem dX11_spreads_157 : decode cX11_spreads 157 = .ok (.iadd, 1) := by decide +kernel
theorem dX11_spreads_158 : decode cX11_spreads 158 = .ok (.dup2, 1) := by decide +kernel
theorem dX11_spreads_159 : decode cX11_spreads 159 = .ok (.laload, 1) := by decide +kernel
theorem dX11_spreads_160 : decode cX11_spreads 160 = .ok (.aload_n 0, 1) := by decide +kernel
theorem dX11_spreads_161 : decode cX11_spreads 161 = .ok (.iload_n 1, 1) := by decide +kernel
theorem dX11_spreads_162 : decode cX11_spreads 162 = .ok (.iload 8, 2) := by decide +kernel
theorem dX11_spreads_164 : decode cX11_spreads 164 = .ok (.invokevirtual 237, 3) := by decide +kernel
theorem dX11_spreads_167 : decode cX11_spreads 167 = .ok (.aload_n 0, 1) := by decide +kernel
theorem dX11_spreads_168 : decode cX11_spreads 168 = .ok (.iload_n 2, 1) := by decide +kernel
theorem dX11_spreads_169 : decode cX11_spreads 169 = .ok (.iload 7, 2) := by decide +kernel
theorem dX11_spreads_171 : decode cX11_spreads 171 = .ok (.iload 6, 2) := by decide +kernel
theorem dX11_spreads_173 : decode cX11_spreads 173 = .ok (.invokevirtual 182, 3) := by decide +kernel
theorem dX11_spreads_176 : decode cX11_spreads 176 = .ok (.i2l, 1) := by decide +kernel
theorem dX11_spreads_177 : decode cX11_spreads 177 = .ok (.lmul, 1) := by decide +kernel
theorem dX11_spreads_178 : decode cX11_spreads 178 = .ok (.ladd, 1) := by decide +kernel
theorem dX11_spreads_179 : decode cX11_spreads 179 = .ok (.lastore, 1) := by decide +kernel
theorem dX11_spreads_180 : decode cX11_spreads 180 = .ok (.iinc 8 1, 3) := by decide +kernel
theorem dX11_spreads_183 : decode cX11_spreads 183 = .ok (.goto (-75), 3) := by decide +kernel
theorem dX11_spreads_186 : decode cX11_spreads 186 = .ok (.iinc 7 1, 3) := by decide +kernel
theorem dX11_spreads_189 : decode cX11_spreads 189 = .ok (.goto (-112), 3) := by decide +kernel
theorem dX11_spreads_192 : decode cX11_spreads 192 = .ok (.iinc 6 1, 3) := by decide +kernel
theorem dX11_spreads_195 : decode cX11_spreads 195 = .ok (.goto (-131), 3) := by decide +kernel
theorem dX11_spreads_198 : decode cX11_spreads 198 = .ok (.iconst 0, 1) := by decide +kernel
theorem dX11_spreads_199 : decode cX11_spreads 199 = .ok (.istore 6, 2) := by decide +kernel
theorem dX11_spreads_201 : decode cX11_spreads 201 = .ok (.iload 6, 2) := by decide +kernel
theorem dX11_spreads_203 : decode cX11_spreads 203 = .ok (.iconst 3, 1) := by decide +kernel
theorem dX11_spreads_204 : decode cX11_spreads 204 = .ok (.if_icmp .ge 21, 3) := by decide +kernel
theorem dX11_spreads_207 : decode cX11_spreads 207 = .ok (.aload_n 0, 1) := by decide +kernel
theorem dX11_spreads_208 : decode cX11_spreads 208 = .ok (.getfield 64, 3) := by decide +kernel
theorem dX11_spreads_211 : decode cX11_spreads 211 = .ok (.iconst 3, 1) := by decide +kernel
theorem dX11_spreads_212 : decode cX11_spreads 212 = .ok (.iload_n 1, 1) := by decide +kernel
theorem dX11_spreads_213 : decode cX11_spreads 213 = .ok (.imul, 1) := by decide +kernel
theorem dX11_spreads_214 : decode cX11_spreads 214 = .ok (.iload 6, 2) := by decide +kernel
theorem dX11_spreads_216 : decode cX11_spreads 216 = .ok (.iadd, 1) := by decide +kernel
theorem dX11_spreads_217 : decode cX11_spreads 217 = .ok (.iconst 0, 1) := by decide +kernel
theorem dX11_spreads_218 : decode cX11_spreads 218 = .ok (.iastore, 1) := by decide +kernel
theorem dX11_spreads_219 : decode cX11_spreads 219 = .ok (.iinc 6 1, 3) := by decide +kernel
theorem dX11_spreads_222 : decode cX11_spreads 222 = .ok (.goto (-21), 3) := by decide +kernel
theorem dX11_spreads_225 : decode cX11_spreads 225 = .ok (.return_, 1) := by decide +kernel
theorem dX11_strideOf_0 : decode cX11_strideOf 0 = .ok (.iload_n 0, 1) := by decide +kernel
theorem dX11_strideOf_1 : decode cX11_strideOf 1 = .ok (.ifCond .ne 9, 3) := by decide +kernel
theorem dX11_strideOf_4 : decode cX11_strideOf 4 = .ok (.sipush 741, 3) := by decide +kernel
theorem dX11_strideOf_7 : decode cX11_strideOf 7 = .ok (.goto 14, 3) := by decide +kernel
theorem dX11_strideOf_10 : decode cX11_strideOf 10 = .ok (.iload_n 0, 1) := by decide +kernel
theorem dX11_strideOf_11 : decode cX11_strideOf 11 = .ok (.iconst 1, 1) := by decide +kernel
theorem dX11_strideOf_12 : decode cX11_strideOf 12 = .ok (.if_icmp .ne 8, 3) := by decide +kernel
theorem dX11_strideOf_15 : decode cX11_strideOf 15 = .ok (.bipush 39, 2) := by decide +kernel
theorem dX11_strideOf_17 : decode cX11_strideOf 17 = .ok (.goto 4, 3) := by decide +kernel
theorem dX11_strideOf_20 : decode cX11_strideOf 20 = .ok (.iconst 1, 1) := by decide +kernel
theorem dX11_strideOf_21 : decode cX11_strideOf 21 = .ok (.ireturn, 1) := by decide +kernel
theorem dX11_placeIn_0 : decode cX11_placeIn 0 = .ok (.iload_n 1, 1) := by decide +kernel
theorem dX11_placeIn_1 : decode cX11_placeIn 1 = .ok (.ifCond .ne 11, 3) := by decide +kernel
theorem dX11_placeIn_4 : decode cX11_placeIn 4 = .ok (.iload_n 0, 1) := by decide +kernel
theorem dX11_placeIn_5 : decode cX11_placeIn 5 = .ok (.sipush 741, 3) := by decide +kernel
theorem dX11_placeIn_8 : decode cX11_placeIn 8 = .ok (.idiv, 1) := by decide +kernel
theorem dX11_placeIn_9 : decode cX11_placeIn 9 = .ok (.goto 22, 3) := by decide +kernel
theorem dX11_placeIn_12 : decode cX11_placeIn 12 = .ok (.iload_n 1, 1) := by decide +kernel
theorem dX11_placeIn_13 : decode cX11_placeIn 13 = .ok (.iconst 1, 1) := by decide +kernel
theorem dX11_placeIn_14 : decode cX11_placeIn 14 = .ok (.if_icmp .ne 13, 3) := by decide +kernel
theorem dX11_placeIn_17 : decode cX11_placeIn 17 = .ok (.iload_n 0, 1) := by decide +kernel
theorem dX11_placeIn_18 : decode cX11_placeIn 18 = .ok (.bipush 39, 2) := by decide +kernel
theorem dX11_placeIn_20 : decode cX11_placeIn 20 = .ok (.idiv, 1) := by decide +kernel
theorem dX11_placeIn_21 : decode cX11_placeIn 21 = .ok (.bipush 19, 2) := by decide +kernel
theorem dX11_placeIn_23 : decode cX11_placeIn 23 = .ok (.irem, 1) := by decide +kernel
theorem dX11_placeIn_24 : decode cX11_placeIn 24 = .ok (.goto 7, 3) := by decide +kernel
theorem dX11_placeIn_27 : decode cX11_placeIn 27 = .ok (.iload_n 0, 1) := by decide +kernel
theorem dX11_placeIn_28 : decode cX11_placeIn 28 = .ok (.bipush 39, 2) := by decide +kernel
theorem dX11_placeIn_30 : decode cX11_placeIn 30 = .ok (.irem, 1) := by decide +kernel
theorem dX11_placeIn_31 : decode cX11_placeIn 31 = .ok (.ireturn, 1) := by decide +kernel
theorem dX11_longOf_0 : decode cX11_longOf 0 = .ok (.iload_n 0, 1) := by decide +kernel
theorem dX11_longOf_1 : decode cX11_longOf 1 = .ok (.ifCond .ne 8, 3) := by decide +kernel
theorem dX11_longOf_4 : decode cX11_longOf 4 = .ok (.bipush 23, 2) := by decide +kernel
theorem dX11_longOf_6 : decode cX11_longOf 6 = .ok (.goto 15, 3) := by decide +kernel
theorem dX11_longOf_9 : decode cX11_longOf 9 = .ok (.iload_n 0, 1) := by decide +kernel
theorem dX11_longOf_10 : decode cX11_longOf 10 = .ok (.iconst 1, 1) := by decide +kernel
theorem dX11_longOf_11 : decode cX11_longOf 11 = .ok (.if_icmp .ne 8, 3) := by decide +kernel
theorem dX11_longOf_14 : decode cX11_longOf 14 = .ok (.bipush 19, 2) := by decide +kernel
theorem dX11_longOf_16 : decode cX11_longOf 16 = .ok (.goto 5, 3) := by decide +kernel
theorem dX11_longOf_19 : decode cX11_longOf 19 = .ok (.bipush 39, 2) := by decide +kernel
theorem dX11_longOf_21 : decode cX11_longOf 21 = .ok (.ireturn, 1) := by decide +kernel
theorem dX11_around_0 : decode cX11_around 0 = .ok (.iload_n 2, 1) := by decide +kernel
theorem dX11_around_1 : decode cX11_around 1 = .ok (.invokestatic 241, 3) := by decide +kernel
theorem dX11_around_4 : decode cX11_around 4 = .ok (.istore_n 3, 1) := by decide +kernel
theorem dX11_around_5 : decode cX11_around 5 = .ok (.iload_n 1, 1) := by decide +kernel
theorem dX11_around_6 : decode cX11_around 6 = .ok (.iload_n 2, 1) := by decide +kernel
theorem dX11_around_7 : decode cX11_around 7 = .ok (.invokestatic 244, 3) := by decide +kernel
theorem dX11_around_10 : decode cX11_around 10 = .ok (.istore 4, 2) := by decide +kernel
theorem dX11_around_12 : decode cX11_around 12 = .ok (.ldc2_w 247, 3) := by decide +kernel
theorem dX11_around_15 : decode cX11_around 15 = .ok (.aload_n 0, 1) := by decide +kernel
theorem dX11_around_16 : decode cX11_around 16 = .ok (.iload_n 1, 1) := by decide +kernel
theorem dX11_around_17 : decode cX11_around 17 = .ok (.laload, 1) := by decide +kernel
theorem dX11_around_18 : decode cX11_around 18 = .ok (.lmul, 1) := by decide +kernel
theorem dX11_around_19 : decode cX11_around 19 = .ok (.iload 4, 2) := by decide +kernel
theorem dX11_around_21 : decode cX11_around 21 = .ok (.ifCond .le 11, 3) := by decide +kernel
theorem dX11_around_24 : decode cX11_around 24 = .ok (.aload_n 0, 1) := by decide +kernel
theorem dX11_around_25 : decode cX11_around 25 = .ok (.iload_n 1, 1) := by decide +kernel
theorem dX11_around_26 : decode cX11_around 26 = .ok (.iload_n 3, 1) := by decide +kernel
theorem dX11_around_27 : decode cX11_around 27 = .ok (.isub, 1) := by decide +kernel
theorem dX11_around_28 : decode cX11_around 28 = .ok (.laload, 1) := by decide +kernel
theorem dX11_around_29 : decode cX11_around 29 = .ok (.goto 4, 3) := by decide +kernel
theorem dX11_around_32 : decode cX11_around 32 = .ok (.lconst 0, 1) := by decide +kernel
theorem dX11_around_33 : decode cX11_around 33 = .ok (.ladd, 1) := by decide +kernel
theorem dX11_around_34 : decode cX11_around 34 = .ok (.iload 4, 2) := by decide +kernel
theorem dX11_around_36 : decode cX11_around 36 = .ok (.iload_n 2, 1) := by decide +kernel
theorem dX11_around_37 : decode cX11_around 37 = .ok (.invokestatic 249, 3) := by decide +kernel
theorem dX11_around_40 : decode cX11_around 40 = .ok (.iconst 1, 1) := by decide +kernel
theorem dX11_around_41 : decode cX11_around 41 = .ok (.isub, 1) := by decide +kernel
theorem dX11_around_42 : decode cX11_around 42 = .ok (.if_icmp .ge 11, 3) := by decide +kernel
theorem dX11_around_45 : decode cX11_around 45 = .ok (.aload_n 0, 1) := by decide +kernel
theorem dX11_around_46 : decode cX11_around 46 = .ok (.iload_n 1, 1) := by decide +kernel
theorem dX11_around_47 : decode cX11_around 47 = .ok (.iload_n 3, 1) := by decide +kernel
theorem dX11_around_48 : decode cX11_around 48 = .ok (.iadd, 1) := by decide +kernel
theorem dX11_around_49 : decode cX11_around 49 = .ok (.laload, 1) := by decide +kernel
theorem dX11_around_50 : decode cX11_around 50 = .ok (.goto 4, 3) := by decide +kernel
theorem dX11_around_53 : decode cX11_around 53 = .ok (.lconst 0, 1) := by decide +kernel
theorem dX11_around_54 : decode cX11_around 54 = .ok (.ladd, 1) := by decide +kernel
theorem dX11_around_55 : decode cX11_around 55 = .ok (.lreturn, 1) := by decide +kernel
theorem dX11_blurs_0 : decode cX11_blurs 0 = .ok (.iconst 0, 1) := by decide +kernel
theorem dX11_blurs_1 : decode cX11_blurs 1 = .ok (.istore_n 3, 1) := by decide +kernel
theorem dX11_blurs_2 : decode cX11_blurs 2 = .ok (.iload_n 3, 1) := by decide +kernel
theorem dX11_blurs_3 : decode cX11_blurs 3 = .ok (.sipush 17043, 3) := by decide +kernel
theorem dX11_blurs_6 : decode cX11_blurs 6 = .ok (.if_icmp .ge 45, 3) := by decide +kernel
theorem dX11_blurs_9 : decode cX11_blurs 9 = .ok (.aload_n 0, 1) := by decide +kernel
theorem dX11_blurs_10 : decode cX11_blurs 10 = .ok (.getfield 52, 3) := by decide +kernel
theorem dX11_blurs_13 : decode cX11_blurs 13 = .ok (.iload_n 3, 1) := by decide +kernel
theorem dX11_blurs_14 : decode cX11_blurs 14 = .ok (.aload_n 0, 1) := by decide +kernel
theorem dX11_blurs_15 : decode cX11_blurs 15 = .ok (.getfield 45, 3) := by decide +kernel
theorem dX11_blurs_18 : decode cX11_blurs 18 = .ok (.sipush 17043, 3) := by decide +kernel
theorem dX11_blurs_21 : decode cX11_blurs 21 = .ok (.iload_n 1, 1) := by decide +kernel
theorem dX11_blurs_22 : decode cX11_blurs 22 = .ok (.imul, 1) := by decide +kernel
theorem dX11_blurs_23 : decode cX11_blurs 23 = .ok (.iload_n 3, 1) := by decide +kernel
theorem dX11_blurs_24 : decode cX11_blurs 24 = .ok (.iadd, 1) := by decide +kernel
theorem dX11_blurs_25 : decode cX11_blurs 25 = .ok (.laload, 1) := by decide +kernel
theorem dX11_blurs_26 : decode cX11_blurs 26 = .ok (.lastore, 1) := by decide +kernel
theorem dX11_blurs_27 : decode cX11_blurs 27 = .ok (.aload_n 0, 1) := by decide +kernel
theorem dX11_blurs_28 : decode cX11_blurs 28 = .ok (.getfield 55, 3) := by decide +kernel
theorem dX11_blurs_31 : decode cX11_blurs 31 = .ok (.iload_n 3, 1) := by decide +kernel
theorem dX11_blurs_32 : decode cX11_blurs 32 = .ok (.aload_n 0, 1) := by decide +kernel
theorem dX11_blurs_33 : decode cX11_blurs 33 = .ok (.getfield 49, 3) := by decide +kernel
theorem dX11_blurs_36 : decode cX11_blurs 36 = .ok (.sipush 17043, 3) := by decide +kernel
theorem dX11_blurs_39 : decode cX11_blurs 39 = .ok (.iload_n 1, 1) := by decide +kernel
theorem dX11_blurs_40 : decode cX11_blurs 40 = .ok (.imul, 1) := by decide +kernel
theorem dX11_blurs_41 : decode cX11_blurs 41 = .ok (.iload_n 3, 1) := by decide +kernel
theorem dX11_blurs_42 : decode cX11_blurs 42 = .ok (.iadd, 1) := by decide +kernel
theorem dX11_blurs_43 : decode cX11_blurs 43 = .ok (.laload, 1) := by decide +kernel
theorem dX11_blurs_44 : decode cX11_blurs 44 = .ok (.lastore, 1) := by decide +kernel
theorem dX11_blurs_45 : decode cX11_blurs 45 = .ok (.iinc 3 1, 3) := by decide +kernel
theorem dX11_blurs_48 : decode cX11_blurs 48 = .ok (.goto (-46), 3) := by decide +kernel
theorem dX11_blurs_51 : decode cX11_blurs 51 = .ok (.iconst 0, 1) := by decide +kernel
theorem dX11_blurs_52 : decode cX11_blurs 52 = .ok (.istore_n 3, 1) := by decide +kernel
theorem dX11_blurs_53 : decode cX11_blurs 53 = .ok (.iload_n 3, 1) := by decide +kernel
theorem dX11_blurs_54 : decode cX11_blurs 54 = .ok (.sipush 17043, 3) := by decide +kernel
theorem dX11_blurs_57 : decode cX11_blurs 57 = .ok (.if_icmp .ge 51, 3) := by decide +kernel
theorem dX11_blurs_60 : decode cX11_blurs 60 = .ok (.aload_n 0, 1) := by decide +kernel
theorem dX11_blurs_61 : decode cX11_blurs 61 = .ok (.getfield 45, 3) := by decide +kernel
theorem dX11_blurs_64 : decode cX11_blurs 64 = .ok (.sipush 17043, 3) := by decide +kernel
theorem dX11_blurs_67 : decode cX11_blurs 67 = .ok (.iload_n 1, 1) := by decide +kernel
theorem dX11_blurs_68 : decode cX11_blurs 68 = .ok (.imul, 1) := by decide +kernel
theorem dX11_blurs_69 : decode cX11_blurs 69 = .ok (.iload_n 3, 1) := by decide +kernel
theorem dX11_blurs_70 : decode cX11_blurs 70 = .ok (.iadd, 1) := by decide +kernel
theorem dX11_blurs_71 : decode cX11_blurs 71 = .ok (.aload_n 0, 1) := by decide +kernel
theorem dX11_blurs_72 : decode cX11_blurs 72 = .ok (.getfield 52, 3) := by decide +kernel
theorem dX11_blurs_75 : decode cX11_blurs 75 = .ok (.iload_n 3, 1) := by decide +kernel
theorem dX11_blurs_76 : decode cX11_blurs 76 = .ok (.iload_n 2, 1) := by decide +kernel
theorem dX11_blurs_77 : decode cX11_blurs 77 = .ok (.invokestatic 252, 3) := by decide +kernel
theorem dX11_blurs_80 : decode cX11_blurs 80 = .ok (.lastore, 1) := by decide +kernel
theorem dX11_blurs_81 : decode cX11_blurs 81 = .ok (.aload_n 0, 1) := by decide +kernel
theorem dX11_blurs_82 : decode cX11_blurs 82 = .ok (.getfield 49, 3) := by decide +kernel
theorem dX11_blurs_85 : decode cX11_blurs 85 = .ok (.sipush 17043, 3) := by decide +kernel
theorem dX11_blurs_88 : decode cX11_blurs 88 = .ok (.iload_n 1, 1) := by decide +kernel
theorem dX11_blurs_89 : decode cX11_blurs 89 = .ok (.imul, 1) := by decide +kernel
theorem dX11_blurs_90 : decode cX11_blurs 90 = .ok (.iload_n 3, 1) := by decide +kernel
theorem dX11_blurs_91 : decode cX11_blurs 91 = .ok (.iadd, 1) := by decide +kernel
theorem dX11_blurs_92 : decode cX11_blurs 92 = .ok (.aload_n 0, 1) := by decide +kernel
theorem dX11_blurs_93 : decode cX11_blurs 93 = .ok (.getfield 55, 3) := by decide +kernel
theorem dX11_blurs_96 : decode cX11_blurs 96 = .ok (.iload_n 3, 1) := by decide +kernel
theorem dX11_blurs_97 : decode cX11_blurs 97 = .ok (.iload_n 2, 1) := by decide +kernel
theorem dX11_blurs_98 : decode cX11_blurs 98 = .ok (.invokestatic 252, 3) := by decide +kernel
theorem dX11_blurs_101 : decode cX11_blurs 101 = .ok (.lastore, 1) := by decide +kernel
theorem dX11_blurs_102 : decode cX11_blurs 102 = .ok (.iinc 3 1, 3) := by decide +kernel
theorem dX11_blurs_105 : decode cX11_blurs 105 = .ok (.goto (-52), 3) := by decide +kernel
theorem dX11_blurs_108 : decode cX11_blurs 108 = .ok (.aload_n 0, 1) := by decide +kernel
theorem dX11_blurs_109 : decode cX11_blurs 109 = .ok (.getfield 64, 3) := by decide +kernel
theorem dX11_blurs_112 : decode cX11_blurs 112 = .ok (.iconst 3, 1) := by decide +kernel
theorem dX11_blurs_113 : decode cX11_blurs 113 = .ok (.iload_n 1, 1) := by decide +kernel
theorem dX11_blurs_114 : decode cX11_blurs 114 = .ok (.imul, 1) := by decide +kernel
theorem dX11_blurs_115 : decode cX11_blurs 115 = .ok (.iload_n 2, 1) := by decide +kernel
theorem dX11_blurs_116 : decode cX11_blurs 116 = .ok (.iadd, 1) := by decide +kernel
theorem dX11_blurs_117 : decode cX11_blurs 117 = .ok (.dup2, 1) := by decide +kernel
theorem dX11_blurs_118 : decode cX11_blurs 118 = .ok (.iaload, 1) := by decide +kernel
theorem dX11_blurs_119 : decode cX11_blurs 119 = .ok (.iconst 1, 1) := by decide +kernel
theorem dX11_blurs_120 : decode cX11_blurs 120 = .ok (.iadd, 1) := by decide +kernel
theorem dX11_blurs_121 : decode cX11_blurs 121 = .ok (.iastore, 1) := by decide +kernel
theorem dX11_blurs_122 : decode cX11_blurs 122 = .ok (.return_, 1) := by decide +kernel
theorem dX11_reads_0 : decode cX11_reads 0 = .ok (.aload_n 0, 1) := by decide +kernel
theorem dX11_reads_1 : decode cX11_reads 1 = .ok (.iload_n 1, 1) := by decide +kernel
theorem dX11_reads_2 : decode cX11_reads 2 = .ok (.iload_n 2, 1) := by decide +kernel
theorem dX11_reads_3 : decode cX11_reads 3 = .ok (.iload_n 3, 1) := by decide +kernel
theorem dX11_reads_4 : decode cX11_reads 4 = .ok (.iload 4, 2) := by decide +kernel
theorem dX11_reads_6 : decode cX11_reads 6 = .ok (.invokevirtual 231, 3) := by decide +kernel
theorem dX11_reads_9 : decode cX11_reads 9 = .ok (.aload_n 0, 1) := by decide +kernel
theorem dX11_reads_10 : decode cX11_reads 10 = .ok (.lconst 0, 1) := by decide +kernel
theorem dX11_reads_11 : decode cX11_reads 11 = .ok (.putfield 256, 3) := by decide +kernel
theorem dX11_reads_14 : decode cX11_reads 14 = .ok (.aload_n 0, 1) := by decide +kernel
theorem dX11_reads_15 : decode cX11_reads 15 = .ok (.lconst 0, 1) := by decide +kernel
theorem dX11_reads_16 : decode cX11_reads 16 = .ok (.putfield 260, 3) := by decide +kernel
theorem dX11_reads_19 : decode cX11_reads 19 = .ok (.iconst 0, 1) := by decide +kernel
theorem dX11_reads_20 : decode cX11_reads 20 = .ok (.istore 5, 2) := by decide +kernel
theorem dX11_reads_22 : decode cX11_reads 22 = .ok (.iload 5, 2) := by decide +kernel
theorem dX11_reads_24 : decode cX11_reads 24 = .ok (.bipush 8, 2) := by decide +kernel
theorem dX11_reads_26 : decode cX11_reads 26 = .ok (.if_icmp .ge 92, 3) := by decide +kernel
theorem dX11_reads_29 : decode cX11_reads 29 = .ok (.aload_n 0, 1) := by decide +kernel
theorem dX11_reads_30 : decode cX11_reads 30 = .ok (.iload_n 1, 1) := by decide +kernel
theorem dX11_reads_31 : decode cX11_reads 31 = .ok (.iload 5, 2) := by decide +kernel
theorem dX11_reads_33 : decode cX11_reads 33 = .ok (.invokevirtual 237, 3) := by decide +kernel
theorem dX11_reads_36 : decode cX11_reads 36 = .ok (.lconst 0, 1) := by decide +kernel
theorem dX11_reads_37 : decode cX11_reads 37 = .ok (.lcmp, 1) := by decide +kernel
theorem dX11_reads_38 : decode cX11_reads 38 = .ok (.ifCond .ne 6, 3) := by decide +kernel
theorem dX11_reads_41 : decode cX11_reads 41 = .ok (.goto 71, 3) := by decide +kernel
theorem dX11_reads_44 : decode cX11_reads 44 = .ok (.aload_n 0, 1) := by decide +kernel
theorem dX11_reads_45 : decode cX11_reads 45 = .ok (.dup, 1) := by decide +kernel
theorem dX11_reads_46 : decode cX11_reads 46 = .ok (.getfield 256, 3) := by decide +kernel
theorem dX11_reads_49 : decode cX11_reads 49 = .ok (.aload_n 0, 1) := by decide +kernel
theorem dX11_reads_50 : decode cX11_reads 50 = .ok (.iload_n 1, 1) := by decide +kernel
theorem dX11_reads_51 : decode cX11_reads 51 = .ok (.iload 5, 2) := by decide +kernel
theorem dX11_reads_53 : decode cX11_reads 53 = .ok (.invokevirtual 237, 3) := by decide +kernel
theorem dX11_reads_56 : decode cX11_reads 56 = .ok (.aload_n 0, 1) := by decide +kernel
theorem dX11_reads_57 : decode cX11_reads 57 = .ok (.getfield 49, 3) := by decide +kernel
theorem dX11_reads_60 : decode cX11_reads 60 = .ok (.sipush 17043, 3) := by decide +kernel
theorem dX11_reads_63 : decode cX11_reads 63 = .ok (.iload_n 1, 1) := by decide +kernel
theorem dX11_reads_64 : decode cX11_reads 64 = .ok (.imul, 1) := by decide +kernel
theorem dX11_reads_65 : decode cX11_reads 65 = .ok (.aload_n 0, 1) := by decide +kernel
theorem dX11_reads_66 : decode cX11_reads 66 = .ok (.iload 5, 2) := by decide +kernel
theorem dX11_reads_68 : decode cX11_reads 68 = .ok (.invokevirtual 234, 3) := by decide +kernel
theorem dX11_reads_71 : decode cX11_reads 71 = .ok (.iadd, 1) := by decide +kernel
theorem dX11_reads_72 : decode cX11_reads 72 = .ok (.laload, 1) := by decide +kernel
theorem dX11_reads_73 : decode cX11_reads 73 = .ok (.lmul, 1) := by decide +kernel
theorem dX11_reads_74 : decode cX11_reads 74 = .ok (.ladd, 1) := by decide +kernel
theorem dX11_reads_75 : decode cX11_reads 75 = .ok (.putfield 256, 3) := by decide +kernel
theorem dX11_reads_78 : decode cX11_reads 78 = .ok (.aload_n 0, 1) := by decide +kernel
theorem dX11_reads_79 : decode cX11_reads 79 = .ok (.dup, 1) := by decide +kernel
theorem dX11_reads_80 : decode cX11_reads 80 = .ok (.getfield 260, 3) := by decide +kernel
theorem dX11_reads_83 : decode cX11_reads 83 = .ok (.aload_n 0, 1) := by decide +kernel
theorem dX11_reads_84 : decode cX11_reads 84 = .ok (.iload_n 1, 1) := by decide +kernel
theorem dX11_reads_85 : decode cX11_reads 85 = .ok (.iload 5, 2) := by decide +kernel
theorem dX11_reads_87 : decode cX11_reads 87 = .ok (.invokevirtual 237, 3) := by decide +kernel
theorem dX11_reads_90 : decode cX11_reads 90 = .ok (.aload_n 0, 1) := by decide +kernel
theorem dX11_reads_91 : decode cX11_reads 91 = .ok (.getfield 45, 3) := by decide +kernel
theorem dX11_reads_94 : decode cX11_reads 94 = .ok (.sipush 17043, 3) := by decide +kernel
theorem dX11_reads_97 : decode cX11_reads 97 = .ok (.iload_n 1, 1) := by decide +kernel
theorem dX11_reads_98 : decode cX11_reads 98 = .ok (.imul, 1) := by decide +kernel
theorem dX11_reads_99 : decode cX11_reads 99 = .ok (.aload_n 0, 1) := by decide +kernel
theorem dX11_reads_100 : decode cX11_reads 100 = .ok (.iload 5, 2) := by decide +kernel
theorem dX11_reads_102 : decode cX11_reads 102 = .ok (.invokevirtual 234, 3) := by decide +kernel
theorem dX11_reads_105 : decode cX11_reads 105 = .ok (.iadd, 1) := by decide +kernel
theorem dX11_reads_106 : decode cX11_reads 106 = .ok (.laload, 1) := by decide +kernel
theorem dX11_reads_107 : decode cX11_reads 107 = .ok (.lmul, 1) := by decide +kernel
theorem dX11_reads_108 : decode cX11_reads 108 = .ok (.ladd, 1) := by decide +kernel
theorem dX11_reads_109 : decode cX11_reads 109 = .ok (.putfield 260, 3) := by decide +kernel
theorem dX11_reads_112 : decode cX11_reads 112 = .ok (.iinc 5 1, 3) := by decide +kernel
theorem dX11_reads_115 : decode cX11_reads 115 = .ok (.goto (-93), 3) := by decide +kernel
theorem dX11_reads_118 : decode cX11_reads 118 = .ok (.return_, 1) := by decide +kernel
theorem dX11_nearest_0 : decode cX11_nearest 0 = .ok (.ldc2_w 247, 3) := by decide +kernel
theorem dX11_nearest_3 : decode cX11_nearest 3 = .ok (.lload_n 0, 1) := by decide +kernel
theorem dX11_nearest_4 : decode cX11_nearest 4 = .ok (.lload_n 2, 1) := by decide +kernel
theorem dX11_nearest_5 : decode cX11_nearest 5 = .ok (.lrem, 1) := by decide +kernel
theorem dX11_nearest_6 : decode cX11_nearest 6 = .ok (.lmul, 1) := by decide +kernel
theorem dX11_nearest_7 : decode cX11_nearest 7 = .ok (.lload_n 2, 1) := by decide +kernel
theorem dX11_nearest_8 : decode cX11_nearest 8 = .ok (.lcmp, 1) := by decide +kernel
theorem dX11_nearest_9 : decode cX11_nearest 9 = .ok (.ifCond .le 11, 3) := by decide +kernel
theorem dX11_nearest_12 : decode cX11_nearest 12 = .ok (.lload_n 0, 1) := by decide +kernel
theorem dX11_nearest_13 : decode cX11_nearest 13 = .ok (.lload_n 2, 1) := by decide +kernel
theorem dX11_nearest_14 : decode cX11_nearest 14 = .ok (.ldiv, 1) := by decide +kernel
theorem dX11_nearest_15 : decode cX11_nearest 15 = .ok (.lconst 1, 1) := by decide +kernel
theorem dX11_nearest_16 : decode cX11_nearest 16 = .ok (.ladd, 1) := by decide +kernel
theorem dX11_nearest_17 : decode cX11_nearest 17 = .ok (.goto 6, 3) := by decide +kernel
theorem dX11_nearest_20 : decode cX11_nearest 20 = .ok (.lload_n 0, 1) := by decide +kernel
theorem dX11_nearest_21 : decode cX11_nearest 21 = .ok (.lload_n 2, 1) := by decide +kernel
theorem dX11_nearest_22 : decode cX11_nearest 22 = .ok (.ldiv, 1) := by decide +kernel
theorem dX11_nearest_23 : decode cX11_nearest 23 = .ok (.l2i, 1) := by decide +kernel
theorem dX11_nearest_24 : decode cX11_nearest 24 = .ok (.ireturn, 1) := by decide +kernel
theorem dX11_weighed_0 : decode cX11_weighed 0 = .ok (.iconst 0, 1) := by decide +kernel
theorem dX11_weighed_1 : decode cX11_weighed 1 = .ok (.istore_n 1, 1) := by decide +kernel
theorem dX11_weighed_2 : decode cX11_weighed 2 = .ok (.iconst 0, 1) := by decide +kernel
theorem dX11_weighed_3 : decode cX11_weighed 3 = .ok (.istore_n 2, 1) := by decide +kernel
theorem dX11_weighed_4 : decode cX11_weighed 4 = .ok (.iload_n 2, 1) := by decide +kernel
theorem dX11_weighed_5 : decode cX11_weighed 5 = .ok (.sipush 17043, 3) := by decide +kernel
theorem dX11_weighed_8 : decode cX11_weighed 8 = .ok (.if_icmp .ge 28, 3) := by decide +kernel
theorem dX11_weighed_11 : decode cX11_weighed 11 = .ok (.iload_n 1, 1) := by decide +kernel
theorem dX11_weighed_12 : decode cX11_weighed 12 = .ok (.aload_n 0, 1) := by decide +kernel
theorem dX11_weighed_13 : decode cX11_weighed 13 = .ok (.getfield 45, 3) := by decide +kernel
theorem dX11_weighed_16 : decode cX11_weighed 16 = .ok (.iload_n 2, 1) := by decide +kernel
theorem dX11_weighed_17 : decode cX11_weighed 17 = .ok (.laload, 1) := by decide +kernel
theorem dX11_weighed_18 : decode cX11_weighed 18 = .ok (.lconst 0, 1) := by decide +kernel
theorem dX11_weighed_19 : decode cX11_weighed 19 = .ok (.lcmp, 1) := by decide +kernel
theorem dX11_weighed_20 : decode cX11_weighed 20 = .ok (.ifCond .le 7, 3) := by decide +kernel
theorem dX11_weighed_23 : decode cX11_weighed 23 = .ok (.iconst 1, 1) := by decide +kernel
theorem dX11_weighed_24 : decode cX11_weighed 24 = .ok (.goto 4, 3) := by decide +kernel
theorem dX11_weighed_27 : decode cX11_weighed 27 = .ok (.iconst 0, 1) := by decide +kernel
theorem dX11_weighed_28 : decode cX11_weighed 28 = .ok (.iadd, 1) := by decide +kernel
theorem dX11_weighed_29 : decode cX11_weighed 29 = .ok (.istore_n 1, 1) := by decide +kernel
theorem dX11_weighed_30 : decode cX11_weighed 30 = .ok (.iinc 2 1, 3) := by decide +kernel
theorem dX11_weighed_33 : decode cX11_weighed 33 = .ok (.goto (-29), 3) := by decide +kernel
theorem dX11_weighed_36 : decode cX11_weighed 36 = .ok (.iload_n 1, 1) := by decide +kernel
theorem dX11_weighed_37 : decode cX11_weighed 37 = .ok (.ireturn, 1) := by decide +kernel
theorem dX11_areSteps_0 : decode cX11_areSteps 0 = .ok (.iload_n 0, 1) := by decide +kernel
theorem dX11_areSteps_1 : decode cX11_areSteps 1 = .ok (.iconst 1, 1) := by decide +kernel
theorem dX11_areSteps_2 : decode cX11_areSteps 2 = .ok (.bipush 8, 2) := by decide +kernel
theorem dX11_areSteps_4 : decode cX11_areSteps 4 = .ok (.invokestatic 106, 3) := by decide +kernel
theorem dX11_areSteps_7 : decode cX11_areSteps 7 = .ok (.ifCond .eq 19, 3) := by decide +kernel
theorem dX11_areSteps_10 : decode cX11_areSteps 10 = .ok (.iload_n 1, 1) := by decide +kernel
theorem dX11_areSteps_11 : decode cX11_areSteps 11 = .ok (.bipush 8, 2) := by decide +kernel
theorem dX11_areSteps_13 : decode cX11_areSteps 13 = .ok (.sipush 128, 3) := by decide +kernel
theorem dX11_areSteps_16 : decode cX11_areSteps 16 = .ok (.invokestatic 106, 3) := by decide +kernel
theorem dX11_areSteps_19 : decode cX11_areSteps 19 = .ok (.ifCond .eq 7, 3) := by decide +kernel
theorem dX11_areSteps_22 : decode cX11_areSteps 22 = .ok (.iconst 1, 1) := by decide +kernel
theorem dX11_areSteps_23 : decode cX11_areSteps 23 = .ok (.goto 4, 3) := by decide +kernel
theorem dX11_areSteps_26 : decode cX11_areSteps 26 = .ok (.iconst 0, 1) := by decide +kernel
theorem dX11_areSteps_27 : decode cX11_areSteps 27 = .ok (.ireturn, 1) := by decide +kernel
theorem dX11_grid_0 : decode cX11_grid 0 = .ok (.aload_n 0, 1) := by decide +kernel
theorem dX11_grid_1 : decode cX11_grid 1 = .ok (.iconst 0, 1) := by decide +kernel
theorem dX11_grid_2 : decode cX11_grid 2 = .ok (.putfield 85, 3) := by decide +kernel
theorem dX11_grid_5 : decode cX11_grid 5 = .ok (.aload_n 0, 1) := by decide +kernel
theorem dX11_grid_6 : decode cX11_grid 6 = .ok (.iload_n 1, 1) := by decide +kernel
theorem dX11_grid_7 : decode cX11_grid 7 = .ok (.invokevirtual 173, 3) := by decide +kernel
theorem dX11_grid_10 : decode cX11_grid 10 = .ok (.ifCond .eq 11, 3) := by decide +kernel
theorem dX11_grid_13 : decode cX11_grid 13 = .ok (.aload_n 0, 1) := by decide +kernel
theorem dX11_grid_14 : decode cX11_grid 14 = .ok (.iload_n 2, 1) := by decide +kernel
theorem dX11_grid_15 : decode cX11_grid 15 = .ok (.invokevirtual 173, 3) := by decide +kernel
theorem dX11_grid_18 : decode cX11_grid 18 = .ok (.ifCond .ne 9, 3) := by decide +kernel
theorem dX11_grid_21 : decode cX11_grid 21 = .ok (.aload_n 0, 1) := by decide +kernel
theorem dX11_grid_22 : decode cX11_grid 22 = .ok (.iconst 1, 1) := by decide +kernel
theorem dX11_grid_23 : decode cX11_grid 23 = .ok (.invokevirtual 147, 3) := by decide +kernel
theorem dX11_grid_26 : decode cX11_grid 26 = .ok (.ireturn, 1) := by decide +kernel
theorem dX11_grid_27 : decode cX11_grid 27 = .ok (.iload_n 3, 1) := by decide +kernel
theorem dX11_grid_28 : decode cX11_grid 28 = .ok (.iload 4, 2) := by decide +kernel
theorem dX11_grid_30 : decode cX11_grid 30 = .ok (.invokestatic 263, 3) := by decide +kernel
theorem dX11_grid_33 : decode cX11_grid 33 = .ok (.ifCond .ne 9, 3) := by decide +kernel
theorem dX11_grid_36 : decode cX11_grid 36 = .ok (.aload_n 0, 1) := by decide +kernel
theorem dX11_grid_37 : decode cX11_grid 37 = .ok (.iconst 2, 1) := by decide +kernel
theorem dX11_grid_38 : decode cX11_grid 38 = .ok (.invokevirtual 147, 3) := by decide +kernel
theorem dX11_grid_41 : decode cX11_grid 41 = .ok (.ireturn, 1) := by decide +kernel
theorem dX11_grid_42 : decode cX11_grid 42 = .ok (.aload_n 0, 1) := by decide +kernel
theorem dX11_grid_43 : decode cX11_grid 43 = .ok (.iload_n 1, 1) := by decide +kernel
theorem dX11_grid_44 : decode cX11_grid 44 = .ok (.iload_n 2, 1) := by decide +kernel
theorem dX11_grid_45 : decode cX11_grid 45 = .ok (.invokevirtual 267, 3) := by decide +kernel
theorem dX11_grid_48 : decode cX11_grid 48 = .ok (.ifCond .ne 9, 3) := by decide +kernel
theorem dX11_grid_51 : decode cX11_grid 51 = .ok (.aload_n 0, 1) := by decide +kernel
theorem dX11_grid_52 : decode cX11_grid 52 = .ok (.iconst 5, 1) := by decide +kernel
theorem dX11_grid_53 : decode cX11_grid 53 = .ok (.invokevirtual 147, 3) := by decide +kernel
theorem dX11_grid_56 : decode cX11_grid 56 = .ok (.ireturn, 1) := by decide +kernel
theorem dX11_grid_57 : decode cX11_grid 57 = .ok (.aload_n 0, 1) := by decide +kernel
theorem dX11_grid_58 : decode cX11_grid 58 = .ok (.iconst 0, 1) := by decide +kernel
theorem dX11_grid_59 : decode cX11_grid 59 = .ok (.iload_n 1, 1) := by decide +kernel
theorem dX11_grid_60 : decode cX11_grid 60 = .ok (.iload_n 2, 1) := by decide +kernel
theorem dX11_grid_61 : decode cX11_grid 61 = .ok (.iload_n 3, 1) := by decide +kernel
theorem dX11_grid_62 : decode cX11_grid 62 = .ok (.iload 4, 2) := by decide +kernel
theorem dX11_grid_64 : decode cX11_grid 64 = .ok (.invokevirtual 270, 3) := by decide +kernel
theorem dX11_grid_67 : decode cX11_grid 67 = .ok (.iconst 0, 1) := by decide +kernel
theorem dX11_grid_68 : decode cX11_grid 68 = .ok (.istore 5, 2) := by decide +kernel
theorem dX11_grid_70 : decode cX11_grid 70 = .ok (.iload 5, 2) := by decide +kernel
theorem dX11_grid_72 : decode cX11_grid 72 = .ok (.sipush 194, 3) := by decide +kernel
theorem dX11_grid_75 : decode cX11_grid 75 = .ok (.if_icmp .ge 29, 3) := by decide +kernel
theorem dX11_grid_78 : decode cX11_grid 78 = .ok (.aload_n 0, 1) := by decide +kernel
theorem dX11_grid_79 : decode cX11_grid 79 = .ok (.getfield 67, 3) := by decide +kernel
theorem dX11_grid_82 : decode cX11_grid 82 = .ok (.iload 5, 2) := by decide +kernel
theorem dX11_grid_84 : decode cX11_grid 84 = .ok (.aload_n 0, 1) := by decide +kernel
theorem dX11_grid_85 : decode cX11_grid 85 = .ok (.getfield 38, 3) := by decide +kernel
theorem dX11_grid_88 : decode cX11_grid 88 = .ok (.sipush 194, 3) := by decide +kernel
theorem dX11_grid_91 : decode cX11_grid 91 = .ok (.iload_n 2, 1) := by decide +kernel
theorem dX11_grid_92 : decode cX11_grid 92 = .ok (.imul, 1) := by decide +kernel
theorem dX11_grid_93 : decode cX11_grid 93 = .ok (.iload 5, 2) := by decide +kernel
theorem dX11_grid_95 : decode cX11_grid 95 = .ok (.iadd, 1) := by decide +kernel
theorem dX11_grid_96 : decode cX11_grid 96 = .ok (.iaload, 1) := by decide +kernel
theorem dX11_grid_97 : decode cX11_grid 97 = .ok (.iastore, 1) := by decide +kernel
theorem dX11_grid_98 : decode cX11_grid 98 = .ok (.iinc 5 1, 3) := by decide +kernel
theorem dX11_grid_101 : decode cX11_grid 101 = .ok (.goto (-31), 3) := by decide +kernel
theorem dX11_grid_104 : decode cX11_grid 104 = .ok (.aload_n 0, 1) := by decide +kernel
theorem dX11_grid_105 : decode cX11_grid 105 = .ok (.iconst 1, 1) := by decide +kernel
theorem dX11_grid_106 : decode cX11_grid 106 = .ok (.putfield 166, 3) := by decide +kernel
theorem dX11_grid_109 : decode cX11_grid 109 = .ok (.aload_n 0, 1) := by decide +kernel
theorem dX11_grid_110 : decode cX11_grid 110 = .ok (.aload_n 0, 1) := by decide +kernel
theorem dX11_grid_111 : decode cX11_grid 111 = .ok (.invokevirtual 274, 3) := by decide +kernel
theorem dX11_grid_114 : decode cX11_grid 114 = .ok (.invokevirtual 157, 3) := by decide +kernel
theorem dX11_grid_117 : decode cX11_grid 117 = .ok (.ireturn, 1) := by decide +kernel
theorem dX11_gridded_0 : decode cX11_gridded 0 = .ok (.aload_n 0, 1) := by decide +kernel
theorem dX11_gridded_1 : decode cX11_gridded 1 = .ok (.iconst 0, 1) := by decide +kernel
theorem dX11_gridded_2 : decode cX11_gridded 2 = .ok (.putfield 85, 3) := by decide +kernel
theorem dX11_gridded_5 : decode cX11_gridded 5 = .ok (.aload_n 0, 1) := by decide +kernel
theorem dX11_gridded_6 : decode cX11_gridded 6 = .ok (.getfield 166, 3) := by decide +kernel
theorem dX11_gridded_9 : decode cX11_gridded 9 = .ok (.ifCond .eq 12, 3) := by decide +kernel
theorem dX11_gridded_12 : decode cX11_gridded 12 = .ok (.iload_n 1, 1) := by decide +kernel
theorem dX11_gridded_13 : decode cX11_gridded 13 = .ok (.iconst 0, 1) := by decide +kernel
theorem dX11_gridded_14 : decode cX11_gridded 14 = .ok (.iconst 5, 1) := by decide +kernel
theorem dX11_gridded_15 : decode cX11_gridded 15 = .ok (.invokestatic 106, 3) := by decide +kernel
theorem dX11_gridded_18 : decode cX11_gridded 18 = .ok (.ifCond .ne 9, 3) := by decide +kernel
theorem dX11_gridded_21 : decode cX11_gridded 21 = .ok (.aload_n 0, 1) := by decide +kernel
theorem dX11_gridded_22 : decode cX11_gridded 22 = .ok (.iconst 1, 1) := by decide +kernel
theorem dX11_gridded_23 : decode cX11_gridded 23 = .ok (.invokevirtual 147, 3) := by decide +kernel
theorem dX11_gridded_26 : decode cX11_gridded 26 = .ok (.ireturn, 1) := by decide +kernel
theorem dX11_gridded_27 : decode cX11_gridded 27 = .ok (.aload_n 0, 1) := by decide +kernel
theorem dX11_gridded_28 : decode cX11_gridded 28 = .ok (.iload_n 1, 1) := by decide +kernel
theorem dX11_gridded_29 : decode cX11_gridded 29 = .ok (.ifCond .ne 12, 3) := by decide +kernel
theorem dX11_gridded_32 : decode cX11_gridded 32 = .ok (.aload_n 0, 1) := by decide +kernel
theorem dX11_gridded_33 : decode cX11_gridded 33 = .ok (.getfield 58, 3) := by decide +kernel
theorem dX11_gridded_36 : decode cX11_gridded 36 = .ok (.iconst 0, 1) := by decide +kernel
theorem dX11_gridded_37 : decode cX11_gridded 37 = .ok (.iaload, 1) := by decide +kernel
theorem dX11_gridded_38 : decode cX11_gridded 38 = .ok (.goto 37, 3) := by decide +kernel
theorem dX11_gridded_41 : decode cX11_gridded 41 = .ok (.iload_n 1, 1) := by decide +kernel
theorem dX11_gridded_42 : decode cX11_gridded 42 = .ok (.iconst 1, 1) := by decide +kernel
theorem dX11_gridded_43 : decode cX11_gridded 43 = .ok (.if_icmp .ne 12, 3) := by decide +kernel
theorem dX11_gridded_46 : decode cX11_gridded 46 = .ok (.aload_n 0, 1) := by decide +kernel
theorem dX11_gridded_47 : decode cX11_gridded 47 = .ok (.getfield 61, 3) := by decide +kernel
theorem dX11_gridded_50 : decode cX11_gridded 50 = .ok (.iconst 0, 1) := by decide +kernel
theorem dX11_gridded_51 : decode cX11_gridded 51 = .ok (.iaload, 1) := by decide +kernel
theorem dX11_gridded_52 : decode cX11_gridded 52 = .ok (.goto 23, 3) := by decide +kernel
theorem dX11_gridded_55 : decode cX11_gridded 55 = .ok (.iload_n 1, 1) := by decide +kernel
theorem dX11_gridded_56 : decode cX11_gridded 56 = .ok (.iconst 5, 1) := by decide +kernel
theorem dX11_gridded_57 : decode cX11_gridded 57 = .ok (.if_icmp .ne 10, 3) := by decide +kernel
theorem dX11_gridded_60 : decode cX11_gridded 60 = .ok (.aload_n 0, 1) := by decide +kernel
theorem dX11_gridded_61 : decode cX11_gridded 61 = .ok (.invokevirtual 274, 3) := by decide +kernel
theorem dX11_gridded_64 : decode cX11_gridded 64 = .ok (.goto 11, 3) := by decide +kernel
theorem dX11_gridded_67 : decode cX11_gridded 67 = .ok (.aload_n 0, 1) := by decide +kernel
theorem dX11_gridded_68 : decode cX11_gridded 68 = .ok (.getfield 64, 3) := by decide +kernel
theorem dX11_gridded_71 : decode cX11_gridded 71 = .ok (.iload_n 1, 1) := by decide +kernel
theorem dX11_gridded_72 : decode cX11_gridded 72 = .ok (.iconst 2, 1) := by decide +kernel
theorem dX11_gridded_73 : decode cX11_gridded 73 = .ok (.isub, 1) := by decide +kernel
theorem dX11_gridded_74 : decode cX11_gridded 74 = .ok (.iaload, 1) := by decide +kernel
theorem dX11_gridded_75 : decode cX11_gridded 75 = .ok (.invokevirtual 157, 3) := by decide +kernel
theorem dX11_gridded_78 : decode cX11_gridded 78 = .ok (.ireturn, 1) := by decide +kernel
theorem dX11_node_0 : decode cX11_node 0 = .ok (.aload_n 0, 1) := by decide +kernel
theorem dX11_node_1 : decode cX11_node 1 = .ok (.iconst 0, 1) := by decide +kernel
theorem dX11_node_2 : decode cX11_node 2 = .ok (.putfield 85, 3) := by decide +kernel
theorem dX11_node_5 : decode cX11_node 5 = .ok (.aload_n 0, 1) := by decide +kernel
theorem dX11_node_6 : decode cX11_node 6 = .ok (.getfield 166, 3) := by decide +kernel
theorem dX11_node_9 : decode cX11_node 9 = .ok (.ifCond .eq 13, 3) := by decide +kernel
theorem dX11_node_12 : decode cX11_node 12 = .ok (.iload 4, 2) := by decide +kernel
theorem dX11_node_14 : decode cX11_node 14 = .ok (.iconst 0, 1) := by decide +kernel
theorem dX11_node_15 : decode cX11_node 15 = .ok (.iconst 1, 1) := by decide +kernel
theorem dX11_node_16 : decode cX11_node 16 = .ok (.invokestatic 106, 3) := by decide +kernel
theorem dX11_node_19 : decode cX11_node 19 = .ok (.ifCond .ne 10, 3) := by decide +kernel
theorem dX11_node_22 : decode cX11_node 22 = .ok (.aload_n 0, 1) := by decide +kernel
theorem dX11_node_23 : decode cX11_node 23 = .ok (.iconst 1, 1) := by decide +kernel
theorem dX11_node_24 : decode cX11_node 24 = .ok (.invokevirtual 147, 3) := by decide +kernel
theorem dX11_node_27 : decode cX11_node 27 = .ok (.i2l, 1) := by decide +kernel
theorem dX11_node_28 : decode cX11_node 28 = .ok (.lreturn, 1) := by decide +kernel
theorem dX11_node_29 : decode cX11_node 29 = .ok (.iload_n 1, 1) := by decide +kernel
theorem dX11_node_30 : decode cX11_node 30 = .ok (.bipush (-3), 2) := by decide +kernel
theorem dX11_node_32 : decode cX11_node 32 = .ok (.bipush 19, 2) := by decide +kernel
theorem dX11_node_34 : decode cX11_node 34 = .ok (.invokestatic 106, 3) := by decide +kernel
theorem dX11_node_37 : decode cX11_node 37 = .ok (.ifCond .eq 25, 3) := by decide +kernel
theorem dX11_node_40 : decode cX11_node 40 = .ok (.iload_n 2, 1) := by decide +kernel
theorem dX11_node_41 : decode cX11_node 41 = .ok (.bipush (-3), 2) := by decide +kernel
theorem dX11_node_43 : decode cX11_node 43 = .ok (.bipush 15, 2) := by decide +kernel
theorem dX11_node_45 : decode cX11_node 45 = .ok (.invokestatic 106, 3) := by decide +kernel
theorem dX11_node_48 : decode cX11_node 48 = .ok (.ifCond .eq 14, 3) := by decide +kernel
theorem dX11_node_51 : decode cX11_node 51 = .ok (.iload_n 3, 1) := by decide +kernel
theorem dX11_node_52 : decode cX11_node 52 = .ok (.bipush (-3), 2) := by decide +kernel
theorem dX11_node_54 : decode cX11_node 54 = .ok (.bipush 35, 2) := by decide +kernel
theorem dX11_node_56 : decode cX11_node 56 = .ok (.invokestatic 106, 3) := by decide +kernel
theorem dX11_node_59 : decode cX11_node 59 = .ok (.ifCond .ne 9, 3) := by decide +kernel
theorem dX11_node_62 : decode cX11_node 62 = .ok (.aload_n 0, 1) := by decide +kernel
theorem dX11_node_63 : decode cX11_node 63 = .ok (.lconst 0, 1) := by decide +kernel
theorem dX11_node_64 : decode cX11_node 64 = .ok (.invokevirtual 278, 3) := by decide +kernel
theorem dX11_node_67 : decode cX11_node 67 = .ok (.lreturn, 1) := by decide +kernel
theorem dX11_node_68 : decode cX11_node 68 = .ok (.aload_n 0, 1) := by decide +kernel
theorem dX11_node_69 : decode cX11_node 69 = .ok (.iload 4, 2) := by decide +kernel
theorem dX11_node_71 : decode cX11_node 71 = .ok (.ifCond .ne 17, 3) := by decide +kernel
theorem dX11_node_74 : decode cX11_node 74 = .ok (.aload_n 0, 1) := by decide +kernel
theorem dX11_node_75 : decode cX11_node 75 = .ok (.getfield 45, 3) := by decide +kernel
theorem dX11_node_78 : decode cX11_node 78 = .ok (.iload_n 1, 1) := by decide +kernel
theorem dX11_node_79 : decode cX11_node 79 = .ok (.iload_n 2, 1) := by decide +kernel
theorem dX11_node_80 : decode cX11_node 80 = .ok (.iload_n 3, 1) := by decide +kernel
theorem dX11_node_81 : decode cX11_node 81 = .ok (.invokestatic 216, 3) := by decide +kernel
theorem dX11_node_84 : decode cX11_node 84 = .ok (.laload, 1) := by decide +kernel
theorem dX11_node_85 : decode cX11_node 85 = .ok (.goto 14, 3) := by decide +kernel
theorem dX11_node_88 : decode cX11_node 88 = .ok (.aload_n 0, 1) := by decide +kernel
theorem dX11_node_89 : decode cX11_node 89 = .ok (.getfield 49, 3) := by decide +kernel
theorem dX11_node_92 : decode cX11_node 92 = .ok (.iload_n 1, 1) := by decide +kernel
theorem dX11_node_93 : decode cX11_node 93 = .ok (.iload_n 2, 1) := by decide +kernel
theorem dX11_node_94 : decode cX11_node 94 = .ok (.iload_n 3, 1) := by decide +kernel
theorem dX11_node_95 : decode cX11_node 95 = .ok (.invokestatic 216, 3) := by decide +kernel
theorem dX11_node_98 : decode cX11_node 98 = .ok (.laload, 1) := by decide +kernel
theorem dX11_node_99 : decode cX11_node 99 = .ok (.invokevirtual 278, 3) := by decide +kernel
theorem dX11_node_102 : decode cX11_node 102 = .ok (.lreturn, 1) := by decide +kernel
theorem dX11_total_0 : decode cX11_total 0 = .ok (.aload_n 0, 1) := by decide +kernel
theorem dX11_total_1 : decode cX11_total 1 = .ok (.iconst 0, 1) := by decide +kernel
theorem dX11_total_2 : decode cX11_total 2 = .ok (.putfield 85, 3) := by decide +kernel
theorem dX11_total_5 : decode cX11_total 5 = .ok (.aload_n 0, 1) := by decide +kernel
theorem dX11_total_6 : decode cX11_total 6 = .ok (.getfield 166, 3) := by decide +kernel
theorem dX11_total_9 : decode cX11_total 9 = .ok (.ifCond .eq 12, 3) := by decide +kernel
theorem dX11_total_12 : decode cX11_total 12 = .ok (.iload_n 1, 1) := by decide +kernel
theorem dX11_total_13 : decode cX11_total 13 = .ok (.iconst 0, 1) := by decide +kernel
theorem dX11_total_14 : decode cX11_total 14 = .ok (.iconst 1, 1) := by decide +kernel
theorem dX11_total_15 : decode cX11_total 15 = .ok (.invokestatic 106, 3) := by decide +kernel
theorem dX11_total_18 : decode cX11_total 18 = .ok (.ifCond .ne 10, 3) := by decide +kernel
theorem dX11_total_21 : decode cX11_total 21 = .ok (.aload_n 0, 1) := by decide +kernel
theorem dX11_total_22 : decode cX11_total 22 = .ok (.iconst 1, 1) := by decide +kernel
theorem dX11_total_23 : decode cX11_total 23 = .ok (.invokevirtual 147, 3) := by decide +kernel
theorem dX11_total_26 : decode cX11_total 26 = .ok (.i2l, 1) := by decide +kernel
theorem dX11_total_27 : decode cX11_total 27 = .ok (.lreturn, 1) := by decide +kernel
theorem dX11_total_28 : decode cX11_total 28 = .ok (.lconst 0, 1) := by decide +kernel
theorem dX11_total_29 : decode cX11_total 29 = .ok (.lstore_n 2, 1) := by decide +kernel
theorem dX11_total_30 : decode cX11_total 30 = .ok (.iconst 0, 1) := by decide +kernel
theorem dX11_total_31 : decode cX11_total 31 = .ok (.istore 4, 2) := by decide +kernel
theorem dX11_total_33 : decode cX11_total 33 = .ok (.iload 4, 2) := by decide +kernel
theorem dX11_total_35 : decode cX11_total 35 = .ok (.sipush 17043, 3) := by decide +kernel
theorem dX11_total_38 : decode cX11_total 38 = .ok (.if_icmp .ge 33, 3) := by decide +kernel
theorem dX11_total_41 : decode cX11_total 41 = .ok (.lload_n 2, 1) := by decide +kernel
theorem dX11_total_42 : decode cX11_total 42 = .ok (.iload_n 1, 1) := by decide +kernel
theorem dX11_total_43 : decode cX11_total 43 = .ok (.ifCond .ne 13, 3) := by decide +kernel
theorem dX11_total_46 : decode cX11_total 46 = .ok (.aload_n 0, 1) := by decide +kernel
theorem dX11_total_47 : decode cX11_total 47 = .ok (.getfield 45, 3) := by decide +kernel
theorem dX11_total_50 : decode cX11_total 50 = .ok (.iload 4, 2) := by decide +kernel
theorem dX11_total_52 : decode cX11_total 52 = .ok (.laload, 1) := by decide +kernel
theorem dX11_total_53 : decode cX11_total 53 = .ok (.goto 10, 3) := by decide +kernel
theorem dX11_total_56 : decode cX11_total 56 = .ok (.aload_n 0, 1) := by decide +kernel
theorem dX11_total_57 : decode cX11_total 57 = .ok (.getfield 49, 3) := by decide +kernel
theorem dX11_total_60 : decode cX11_total 60 = .ok (.iload 4, 2) := by decide +kernel
theorem dX11_total_62 : decode cX11_total 62 = .ok (.laload, 1) := by decide +kernel
theorem dX11_total_63 : decode cX11_total 63 = .ok (.ladd, 1) := by decide +kernel
theorem dX11_total_64 : decode cX11_total 64 = .ok (.lstore_n 2, 1) := by decide +kernel
theorem dX11_total_65 : decode cX11_total 65 = .ok (.iinc 4 1, 3) := by decide +kernel
theorem dX11_total_68 : decode cX11_total 68 = .ok (.goto (-35), 3) := by decide +kernel
theorem dX11_total_71 : decode cX11_total 71 = .ok (.aload_n 0, 1) := by decide +kernel
theorem dX11_total_72 : decode cX11_total 72 = .ok (.lload_n 2, 1) := by decide +kernel
theorem dX11_total_73 : decode cX11_total 73 = .ok (.invokevirtual 278, 3) := by decide +kernel
theorem dX11_total_76 : decode cX11_total 76 = .ok (.lreturn, 1) := by decide +kernel
theorem dX11_blur_0 : decode cX11_blur 0 = .ok (.aload_n 0, 1) := by decide +kernel
theorem dX11_blur_1 : decode cX11_blur 1 = .ok (.iconst 0, 1) := by decide +kernel
theorem dX11_blur_2 : decode cX11_blur 2 = .ok (.putfield 85, 3) := by decide +kernel
theorem dX11_blur_5 : decode cX11_blur 5 = .ok (.aload_n 0, 1) := by decide +kernel
theorem dX11_blur_6 : decode cX11_blur 6 = .ok (.getfield 166, 3) := by decide +kernel
theorem dX11_blur_9 : decode cX11_blur 9 = .ok (.ifCond .eq 12, 3) := by decide +kernel
theorem dX11_blur_12 : decode cX11_blur 12 = .ok (.iload_n 1, 1) := by decide +kernel
theorem dX11_blur_13 : decode cX11_blur 13 = .ok (.iconst 0, 1) := by decide +kernel
theorem dX11_blur_14 : decode cX11_blur 14 = .ok (.iconst 2, 1) := by decide +kernel
theorem dX11_blur_15 : decode cX11_blur 15 = .ok (.invokestatic 106, 3) := by decide +kernel
theorem dX11_blur_18 : decode cX11_blur 18 = .ok (.ifCond .ne 9, 3) := by decide +kernel
theorem dX11_blur_21 : decode cX11_blur 21 = .ok (.aload_n 0, 1) := by decide +kernel
theorem dX11_blur_22 : decode cX11_blur 22 = .ok (.iconst 1, 1) := by decide +kernel
theorem dX11_blur_23 : decode cX11_blur 23 = .ok (.invokevirtual 147, 3) := by decide +kernel
theorem dX11_blur_26 : decode cX11_blur 26 = .ok (.ireturn, 1) := by decide +kernel
theorem dX11_blur_27 : decode cX11_blur 27 = .ok (.aload_n 0, 1) := by decide +kernel
theorem dX11_blur_28 : decode cX11_blur 28 = .ok (.getfield 64, 3) := by decide +kernel
theorem dX11_blur_31 : decode cX11_blur 31 = .ok (.iload_n 1, 1) := by decide +kernel
theorem dX11_blur_32 : decode cX11_blur 32 = .ok (.iaload, 1) := by decide +kernel
theorem dX11_blur_33 : decode cX11_blur 33 = .ok (.iconst 3, 1) := by decide +kernel
theorem dX11_blur_34 : decode cX11_blur 34 = .ok (.if_icmp .ne 9, 3) := by decide +kernel
theorem dX11_blur_37 : decode cX11_blur 37 = .ok (.aload_n 0, 1) := by decide +kernel
theorem dX11_blur_38 : decode cX11_blur 38 = .ok (.iconst 3, 1) := by decide +kernel
theorem dX11_blur_39 : decode cX11_blur 39 = .ok (.invokevirtual 147, 3) := by decide +kernel
theorem dX11_blur_42 : decode cX11_blur 42 = .ok (.ireturn, 1) := by decide +kernel
theorem dX11_blur_43 : decode cX11_blur 43 = .ok (.aload_n 0, 1) := by decide +kernel
theorem dX11_blur_44 : decode cX11_blur 44 = .ok (.iconst 0, 1) := by decide +kernel
theorem dX11_blur_45 : decode cX11_blur 45 = .ok (.iload_n 1, 1) := by decide +kernel
theorem dX11_blur_46 : decode cX11_blur 46 = .ok (.invokevirtual 282, 3) := by decide +kernel
theorem dX11_blur_49 : decode cX11_blur 49 = .ok (.aload_n 0, 1) := by decide +kernel
theorem dX11_blur_50 : decode cX11_blur 50 = .ok (.aload_n 0, 1) := by decide +kernel
theorem dX11_blur_51 : decode cX11_blur 51 = .ok (.invokevirtual 274, 3) := by decide +kernel
theorem dX11_blur_54 : decode cX11_blur 54 = .ok (.invokevirtual 157, 3) := by decide +kernel
theorem dX11_blur_57 : decode cX11_blur 57 = .ok (.ireturn, 1) := by decide +kernel
theorem dX11_isGridDot_0 : decode cX11_isGridDot 0 = .ok (.aload_n 0, 1) := by decide +kernel
theorem dX11_isGridDot_1 : decode cX11_isGridDot 1 = .ok (.getfield 166, 3) := by decide +kernel
theorem dX11_isGridDot_4 : decode cX11_isGridDot 4 = .ok (.ifCond .eq 39, 3) := by decide +kernel
theorem dX11_isGridDot_7 : decode cX11_isGridDot 7 = .ok (.iload_n 1, 1) := by decide +kernel
theorem dX11_isGridDot_8 : decode cX11_isGridDot 8 = .ok (.iconst 0, 1) := by decide +kernel
theorem dX11_isGridDot_9 : decode cX11_isGridDot 9 = .ok (.aload_n 0, 1) := by decide +kernel
theorem dX11_isGridDot_10 : decode cX11_isGridDot 10 = .ok (.getfield 67, 3) := by decide +kernel
theorem dX11_isGridDot_13 : decode cX11_isGridDot 13 = .ok (.iconst 0, 1) := by decide +kernel
theorem dX11_isGridDot_14 : decode cX11_isGridDot 14 = .ok (.iaload, 1) := by decide +kernel
theorem dX11_isGridDot_15 : decode cX11_isGridDot 15 = .ok (.iconst 1, 1) := by decide +kernel
theorem dX11_isGridDot_16 : decode cX11_isGridDot 16 = .ok (.isub, 1) := by decide +kernel
theorem dX11_isGridDot_17 : decode cX11_isGridDot 17 = .ok (.invokestatic 106, 3) := by decide +kernel
theorem dX11_isGridDot_20 : decode cX11_isGridDot 20 = .ok (.ifCond .eq 23, 3) := by decide +kernel
theorem dX11_isGridDot_23 : decode cX11_isGridDot 23 = .ok (.iload_n 2, 1) := by decide +kernel
theorem dX11_isGridDot_24 : decode cX11_isGridDot 24 = .ok (.iconst 0, 1) := by decide +kernel
theorem dX11_isGridDot_25 : decode cX11_isGridDot 25 = .ok (.aload_n 0, 1) := by decide +kernel
theorem dX11_isGridDot_26 : decode cX11_isGridDot 26 = .ok (.getfield 67, 3) := by decide +kernel
theorem dX11_isGridDot_29 : decode cX11_isGridDot 29 = .ok (.iconst 1, 1) := by decide +kernel
theorem dX11_isGridDot_30 : decode cX11_isGridDot 30 = .ok (.iaload, 1) := by decide +kernel
theorem dX11_isGridDot_31 : decode cX11_isGridDot 31 = .ok (.iconst 1, 1) := by decide +kernel
theorem dX11_isGridDot_32 : decode cX11_isGridDot 32 = .ok (.isub, 1) := by decide +kernel
theorem dX11_isGridDot_33 : decode cX11_isGridDot 33 = .ok (.invokestatic 106, 3) := by decide +kernel
theorem dX11_isGridDot_36 : decode cX11_isGridDot 36 = .ok (.ifCond .eq 7, 3) := by decide +kernel
theorem dX11_isGridDot_39 : decode cX11_isGridDot 39 = .ok (.iconst 1, 1) := by decide +kernel
theorem dX11_isGridDot_40 : decode cX11_isGridDot 40 = .ok (.goto 4, 3) := by decide +kernel
theorem dX11_isGridDot_43 : decode cX11_isGridDot 43 = .ok (.iconst 0, 1) := by decide +kernel
theorem dX11_isGridDot_44 : decode cX11_isGridDot 44 = .ok (.ireturn, 1) := by decide +kernel
theorem dX11_common_0 : decode cX11_common 0 = .ok (.lload_n 0, 1) := by decide +kernel
theorem dX11_common_1 : decode cX11_common 1 = .ok (.lstore 4, 2) := by decide +kernel
theorem dX11_common_3 : decode cX11_common 3 = .ok (.lload_n 2, 1) := by decide +kernel
theorem dX11_common_4 : decode cX11_common 4 = .ok (.lstore 6, 2) := by decide +kernel
theorem dX11_common_6 : decode cX11_common 6 = .ok (.lload 6, 2) := by decide +kernel
theorem dX11_common_8 : decode cX11_common 8 = .ok (.lconst 0, 1) := by decide +kernel
theorem dX11_common_9 : decode cX11_common 9 = .ok (.lcmp, 1) := by decide +kernel
theorem dX11_common_10 : decode cX11_common 10 = .ok (.ifCond .eq 21, 3) := by decide +kernel
theorem dX11_common_13 : decode cX11_common 13 = .ok (.lload 4, 2) := by decide +kernel
theorem dX11_common_15 : decode cX11_common 15 = .ok (.lload 6, 2) := by decide +kernel
theorem dX11_common_17 : decode cX11_common 17 = .ok (.lrem, 1) := by decide +kernel
theorem dX11_common_18 : decode cX11_common 18 = .ok (.lstore 8, 2) := by decide +kernel
theorem dX11_common_20 : decode cX11_common 20 = .ok (.lload 6, 2) := by decide +kernel
theorem dX11_common_22 : decode cX11_common 22 = .ok (.lstore 4, 2) := by decide +kernel
theorem dX11_common_24 : decode cX11_common 24 = .ok (.lload 8, 2) := by decide +kernel
theorem dX11_common_26 : decode cX11_common 26 = .ok (.lstore 6, 2) := by decide +kernel
theorem dX11_common_28 : decode cX11_common 28 = .ok (.goto (-22), 3) := by decide +kernel
theorem dX11_common_31 : decode cX11_common 31 = .ok (.lload 4, 2) := by decide +kernel
theorem dX11_common_33 : decode cX11_common 33 = .ok (.lreturn, 1) := by decide +kernel
theorem dX11_read_0 : decode cX11_read 0 = .ok (.aload_n 0, 1) := by decide +kernel
theorem dX11_read_1 : decode cX11_read 1 = .ok (.iconst 0, 1) := by decide +kernel
theorem dX11_read_2 : decode cX11_read 2 = .ok (.putfield 85, 3) := by decide +kernel
theorem dX11_read_5 : decode cX11_read 5 = .ok (.aload_n 0, 1) := by decide +kernel
theorem dX11_read_6 : decode cX11_read 6 = .ok (.iload_n 1, 1) := by decide +kernel
theorem dX11_read_7 : decode cX11_read 7 = .ok (.iload_n 2, 1) := by decide +kernel
theorem dX11_read_8 : decode cX11_read 8 = .ok (.invokevirtual 285, 3) := by decide +kernel
theorem dX11_read_11 : decode cX11_read 11 = .ok (.ifCond .eq 13, 3) := by decide +kernel
theorem dX11_read_14 : decode cX11_read 14 = .ok (.iload 4, 2) := by decide +kernel
theorem dX11_read_16 : decode cX11_read 16 = .ok (.iconst 0, 1) := by decide +kernel
theorem dX11_read_17 : decode cX11_read 17 = .ok (.iconst 1, 1) := by decide +kernel
theorem dX11_read_18 : decode cX11_read 18 = .ok (.invokestatic 106, 3) := by decide +kernel
theorem dX11_read_21 : decode cX11_read 21 = .ok (.ifCond .ne 10, 3) := by decide +kernel
theorem dX11_read_24 : decode cX11_read 24 = .ok (.aload_n 0, 1) := by decide +kernel
theorem dX11_read_25 : decode cX11_read 25 = .ok (.iconst 1, 1) := by decide +kernel
theorem dX11_read_26 : decode cX11_read 26 = .ok (.invokevirtual 147, 3) := by decide +kernel
theorem dX11_read_29 : decode cX11_read 29 = .ok (.i2l, 1) := by decide +kernel
theorem dX11_read_30 : decode cX11_read 30 = .ok (.lreturn, 1) := by decide +kernel
theorem dX11_read_31 : decode cX11_read 31 = .ok (.iload_n 3, 1) := by decide +kernel
theorem dX11_read_32 : decode cX11_read 32 = .ok (.iconst 0, 1) := by decide +kernel
theorem dX11_read_33 : decode cX11_read 33 = .ok (.sipush 255, 3) := by decide +kernel
theorem dX11_read_36 : decode cX11_read 36 = .ok (.invokestatic 106, 3) := by decide +kernel
theorem dX11_read_39 : decode cX11_read 39 = .ok (.ifCond .ne 10, 3) := by decide +kernel
theorem dX11_read_42 : decode cX11_read 42 = .ok (.aload_n 0, 1) := by decide +kernel
theorem dX11_read_43 : decode cX11_read 43 = .ok (.iconst 2, 1) := by decide +kernel
theorem dX11_read_44 : decode cX11_read 44 = .ok (.invokevirtual 147, 3) := by decide +kernel
theorem dX11_read_47 : decode cX11_read 47 = .ok (.i2l, 1) := by decide +kernel
theorem dX11_read_48 : decode cX11_read 48 = .ok (.lreturn, 1) := by decide +kernel
theorem dX11_read_49 : decode cX11_read 49 = .ok (.aload_n 0, 1) := by decide +kernel
theorem dX11_read_50 : decode cX11_read 50 = .ok (.iconst 0, 1) := by decide +kernel
theorem dX11_read_51 : decode cX11_read 51 = .ok (.iload_n 1, 1) := by decide +kernel
theorem dX11_read_52 : decode cX11_read 52 = .ok (.iload_n 2, 1) := by decide +kernel
theorem dX11_read_53 : decode cX11_read 53 = .ok (.iload_n 3, 1) := by decide +kernel
theorem dX11_read_54 : decode cX11_read 54 = .ok (.invokevirtual 288, 3) := by decide +kernel
theorem dX11_read_57 : decode cX11_read 57 = .ok (.aload_n 0, 1) := by decide +kernel
theorem dX11_read_58 : decode cX11_read 58 = .ok (.getfield 260, 3) := by decide +kernel
theorem dX11_read_61 : decode cX11_read 61 = .ok (.lconst 0, 1) := by decide +kernel
theorem dX11_read_62 : decode cX11_read 62 = .ok (.lcmp, 1) := by decide +kernel
theorem dX11_read_63 : decode cX11_read 63 = .ok (.ifCond .ne 10, 3) := by decide +kernel
theorem dX11_read_66 : decode cX11_read 66 = .ok (.aload_n 0, 1) := by decide +kernel
theorem dX11_read_67 : decode cX11_read 67 = .ok (.iconst 5, 1) := by decide +kernel
theorem dX11_read_68 : decode cX11_read 68 = .ok (.invokevirtual 147, 3) := by decide +kernel
theorem dX11_read_71 : decode cX11_read 71 = .ok (.i2l, 1) := by decide +kernel
theorem dX11_read_72 : decode cX11_read 72 = .ok (.lreturn, 1) := by decide +kernel
theorem dX11_read_73 : decode cX11_read 73 = .ok (.aload_n 0, 1) := by decide +kernel
theorem dX11_read_74 : decode cX11_read 74 = .ok (.getfield 256, 3) := by decide +kernel
theorem dX11_read_77 : decode cX11_read 77 = .ok (.aload_n 0, 1) := by decide +kernel
theorem dX11_read_78 : decode cX11_read 78 = .ok (.getfield 260, 3) := by decide +kernel
theorem dX11_read_81 : decode cX11_read 81 = .ok (.invokestatic 291, 3) := by decide +kernel
theorem dX11_read_84 : decode cX11_read 84 = .ok (.lstore 5, 2) := by decide +kernel
theorem dX11_read_86 : decode cX11_read 86 = .ok (.aload_n 0, 1) := by decide +kernel
theorem dX11_read_87 : decode cX11_read 87 = .ok (.iload 4, 2) := by decide +kernel
theorem dX11_read_89 : decode cX11_read 89 = .ok (.ifCond .ne 10, 3) := by decide +kernel
theorem dX11_read_92 : decode cX11_read 92 = .ok (.aload_n 0, 1) := by decide +kernel
theorem dX11_read_93 : decode cX11_read 93 = .ok (.getfield 256, 3) := by decide +kernel
theorem dX11_read_96 : decode cX11_read 96 = .ok (.goto 7, 3) := by decide +kernel
theorem dX11_read_99 : decode cX11_read 99 = .ok (.aload_n 0, 1) := by decide +kernel
theorem dX11_read_100 : decode cX11_read 100 = .ok (.getfield 260, 3) := by decide +kernel
theorem dX11_read_103 : decode cX11_read 103 = .ok (.lload 5, 2) := by decide +kernel
theorem dX11_read_105 : decode cX11_read 105 = .ok (.ldiv, 1) := by decide +kernel
theorem dX11_read_106 : decode cX11_read 106 = .ok (.invokevirtual 278, 3) := by decide +kernel
theorem dX11_read_109 : decode cX11_read 109 = .ok (.lreturn, 1) := by decide +kernel
theorem dX11_readShade_0 : decode cX11_readShade 0 = .ok (.aload_n 0, 1) := by decide +kernel
theorem dX11_readShade_1 : decode cX11_readShade 1 = .ok (.iconst 0, 1) := by decide +kernel
theorem dX11_readShade_2 : decode cX11_readShade 2 = .ok (.putfield 85, 3) := by decide +kernel
theorem dX11_readShade_5 : decode cX11_readShade 5 = .ok (.aload_n 0, 1) := by decide +kernel
theorem dX11_readShade_6 : decode cX11_readShade 6 = .ok (.iload_n 1, 1) := by decide +kernel
theorem dX11_readShade_7 : decode cX11_readShade 7 = .ok (.iload_n 2, 1) := by decide +kernel
theorem dX11_readShade_8 : decode cX11_readShade 8 = .ok (.invokevirtual 285, 3) := by decide +kernel
theorem dX11_readShade_11 : decode cX11_readShade 11 = .ok (.ifCond .ne 9, 3) := by decide +kernel
theorem dX11_readShade_14 : decode cX11_readShade 14 = .ok (.aload_n 0, 1) := by decide +kernel
theorem dX11_readShade_15 : decode cX11_readShade 15 = .ok (.iconst 1, 1) := by decide +kernel
theorem dX11_readShade_16 : decode cX11_readShade 16 = .ok (.invokevirtual 147, 3) := by decide +kernel
theorem dX11_readShade_19 : decode cX11_readShade 19 = .ok (.ireturn, 1) := by decide +kernel
theorem dX11_readShade_20 : decode cX11_readShade 20 = .ok (.aload_n 0, 1) := by decide +kernel
theorem dX11_readShade_21 : decode cX11_readShade 21 = .ok (.iconst 0, 1) := by decide +kernel
theorem dX11_readShade_22 : decode cX11_readShade 22 = .ok (.iload_n 1, 1) := by decide +kernel
theorem dX11_readShade_23 : decode cX11_readShade 23 = .ok (.iload_n 2, 1) := by decide +kernel
theorem dX11_readShade_24 : decode cX11_readShade 24 = .ok (.aload_n 0, 1) := by decide +kernel
theorem dX11_readShade_25 : decode cX11_readShade 25 = .ok (.getfield 67, 3) := by decide +kernel
theorem dX11_readShade_28 : decode cX11_readShade 28 = .ok (.iconst 2, 1) := by decide +kernel
theorem dX11_readShade_29 : decode cX11_readShade 29 = .ok (.bipush 16, 2) := by decide +kernel
theorem dX11_readShade_31 : decode cX11_readShade 31 = .ok (.iload_n 2, 1) := by decide +kernel
theorem dX11_readShade_32 : decode cX11_readShade 32 = .ok (.imul, 1) := by decide +kernel
theorem dX11_readShade_33 : decode cX11_readShade 33 = .ok (.iadd, 1) := by decide +kernel
theorem dX11_readShade_34 : decode cX11_readShade 34 = .ok (.iload_n 1, 1) := by decide +kernel
theorem dX11_readShade_35 : decode cX11_readShade 35 = .ok (.iadd, 1) := by decide +kernel
theorem dX11_readShade_36 : decode cX11_readShade 36 = .ok (.iaload, 1) := by decide +kernel
theorem dX11_readShade_37 : decode cX11_readShade 37 = .ok (.invokevirtual 288, 3) := by decide +kernel
theorem dX11_readShade_40 : decode cX11_readShade 40 = .ok (.aload_n 0, 1) := by decide +kernel
theorem dX11_readShade_41 : decode cX11_readShade 41 = .ok (.aload_n 0, 1) := by decide +kernel
theorem dX11_readShade_42 : decode cX11_readShade 42 = .ok (.getfield 256, 3) := by decide +kernel
theorem dX11_readShade_45 : decode cX11_readShade 45 = .ok (.aload_n 0, 1) := by decide +kernel
theorem dX11_readShade_46 : decode cX11_readShade 46 = .ok (.getfield 260, 3) := by decide +kernel
theorem dX11_readShade_49 : decode cX11_readShade 49 = .ok (.invokestatic 295, 3) := by decide +kernel
theorem dX11_readShade_52 : decode cX11_readShade 52 = .ok (.invokevirtual 157, 3) := by decide +kernel
theorem dX11_readShade_55 : decode cX11_readShade 55 = .ok (.ireturn, 1) := by decide +kernel
theorem dX11_smooths_0 : decode cX11_smooths 0 = .ok (.aload_n 0, 1) := by decide +kernel
theorem dX11_smooths_1 : decode cX11_smooths 1 = .ok (.iconst 1, 1) := by decide +kernel
theorem dX11_smooths_2 : decode cX11_smooths 2 = .ok (.iload_n 1, 1) := by decide +kernel
theorem dX11_smooths_3 : decode cX11_smooths 3 = .ok (.iload_n 2, 1) := by decide +kernel
theorem dX11_smooths_4 : decode cX11_smooths 4 = .ok (.iload_n 3, 1) := by decide +kernel
theorem dX11_smooths_5 : decode cX11_smooths 5 = .ok (.iload 4, 2) := by decide +kernel
theorem dX11_smooths_7 : decode cX11_smooths 7 = .ok (.invokevirtual 270, 3) := by decide +kernel
theorem dX11_smooths_10 : decode cX11_smooths 10 = .ok (.iconst 0, 1) := by decide +kernel
theorem dX11_smooths_11 : decode cX11_smooths 11 = .ok (.istore 6, 2) := by decide +kernel
theorem dX11_smooths_13 : decode cX11_smooths 13 = .ok (.iload 6, 2) := by decide +kernel
theorem dX11_smooths_15 : decode cX11_smooths 15 = .ok (.iload 5, 2) := by decide +kernel
theorem dX11_smooths_17 : decode cX11_smooths 17 = .ok (.if_icmp .ge 31, 3) := by decide +kernel
theorem dX11_smooths_20 : decode cX11_smooths 20 = .ok (.iconst 0, 1) := by decide +kernel
theorem dX11_smooths_21 : decode cX11_smooths 21 = .ok (.istore 7, 2) := by decide +kernel
theorem dX11_smooths_23 : decode cX11_smooths 23 = .ok (.iload 7, 2) := by decide +kernel
theorem dX11_smooths_25 : decode cX11_smooths 25 = .ok (.iconst 3, 1) := by decide +kernel
theorem dX11_smooths_26 : decode cX11_smooths 26 = .ok (.if_icmp .ge 16, 3) := by decide +kernel
theorem dX11_smooths_29 : decode cX11_smooths 29 = .ok (.aload_n 0, 1) := by decide +kernel
theorem dX11_smooths_30 : decode cX11_smooths 30 = .ok (.iconst 1, 1) := by decide +kernel
theorem dX11_smooths_31 : decode cX11_smooths 31 = .ok (.iload 7, 2) := by decide +kernel
theorem dX11_smooths_33 : decode cX11_smooths 33 = .ok (.invokevirtual 282, 3) := by decide +kernel
theorem dX11_smooths_36 : decode cX11_smooths 36 = .ok (.iinc 7 1, 3) := by decide +kernel
theorem dX11_smooths_39 : decode cX11_smooths 39 = .ok (.goto (-16), 3) := by decide +kernel
theorem dX11_smooths_42 : decode cX11_smooths 42 = .ok (.iinc 6 1, 3) := by decide +kernel
theorem dX11_smooths_45 : decode cX11_smooths 45 = .ok (.goto (-32), 3) := by decide +kernel
theorem dX11_smooths_48 : decode cX11_smooths 48 = .ok (.aload_n 0, 1) := by decide +kernel
theorem dX11_smooths_49 : decode cX11_smooths 49 = .ok (.aload_n 0, 1) := by decide +kernel
theorem dX11_smooths_50 : decode cX11_smooths 50 = .ok (.iload_n 1, 1) := by decide +kernel
theorem dX11_smooths_51 : decode cX11_smooths 51 = .ok (.invokevirtual 170, 3) := by decide +kernel
theorem dX11_smooths_54 : decode cX11_smooths 54 = .ok (.aload_n 0, 1) := by decide +kernel
theorem dX11_smooths_55 : decode cX11_smooths 55 = .ok (.iload_n 1, 1) := by decide +kernel
theorem dX11_smooths_56 : decode cX11_smooths 56 = .ok (.invokevirtual 176, 3) := by decide +kernel
theorem dX11_smooths_59 : decode cX11_smooths 59 = .ok (.invokevirtual 200, 3) := by decide +kernel
theorem dX11_smooths_62 : decode cX11_smooths 62 = .ok (.iconst 0, 1) := by decide +kernel
theorem dX11_smooths_63 : decode cX11_smooths 63 = .ok (.istore 6, 2) := by decide +kernel
theorem dX11_smooths_65 : decode cX11_smooths 65 = .ok (.iload 6, 2) := by decide +kernel
theorem dX11_smooths_67 : decode cX11_smooths 67 = .ok (.aload_n 0, 1) := by decide +kernel
theorem dX11_smooths_68 : decode cX11_smooths 68 = .ok (.iload_n 1, 1) := by decide +kernel
theorem dX11_smooths_69 : decode cX11_smooths 69 = .ok (.invokevirtual 176, 3) := by decide +kernel
theorem dX11_smooths_72 : decode cX11_smooths 72 = .ok (.if_icmp .ge 67, 3) := by decide +kernel
theorem dX11_smooths_75 : decode cX11_smooths 75 = .ok (.iconst 0, 1) := by decide +kernel
theorem dX11_smooths_76 : decode cX11_smooths 76 = .ok (.istore 7, 2) := by decide +kernel
theorem dX11_smooths_78 : decode cX11_smooths 78 = .ok (.iload 7, 2) := by decide +kernel
theorem dX11_smooths_80 : decode cX11_smooths 80 = .ok (.aload_n 0, 1) := by decide +kernel
theorem dX11_smooths_81 : decode cX11_smooths 81 = .ok (.iload_n 1, 1) := by decide +kernel
theorem dX11_smooths_82 : decode cX11_smooths 82 = .ok (.invokevirtual 170, 3) := by decide +kernel
theorem dX11_smooths_85 : decode cX11_smooths 85 = .ok (.if_icmp .ge 48, 3) := by decide +kernel
theorem dX11_smooths_88 : decode cX11_smooths 88 = .ok (.aload_n 0, 1) := by decide +kernel
theorem dX11_smooths_89 : decode cX11_smooths 89 = .ok (.iconst 1, 1) := by decide +kernel
theorem dX11_smooths_90 : decode cX11_smooths 90 = .ok (.iload 7, 2) := by decide +kernel
theorem dX11_smooths_92 : decode cX11_smooths 92 = .ok (.iload 6, 2) := by decide +kernel
theorem dX11_smooths_94 : decode cX11_smooths 94 = .ok (.aload_n 0, 1) := by decide +kernel
theorem dX11_smooths_95 : decode cX11_smooths 95 = .ok (.iload_n 2, 1) := by decide +kernel
theorem dX11_smooths_96 : decode cX11_smooths 96 = .ok (.iload 7, 2) := by decide +kernel
theorem dX11_smooths_98 : decode cX11_smooths 98 = .ok (.iload 6, 2) := by decide +kernel
theorem dX11_smooths_100 : decode cX11_smooths 100 = .ok (.invokevirtual 182, 3) := by decide +kernel
theorem dX11_smooths_103 : decode cX11_smooths 103 = .ok (.invokevirtual 288, 3) := by decide +kernel
theorem dX11_smooths_106 : decode cX11_smooths 106 = .ok (.aload_n 0, 1) := by decide +kernel
theorem dX11_smooths_107 : decode cX11_smooths 107 = .ok (.bipush 6, 2) := by decide +kernel
theorem dX11_smooths_109 : decode cX11_smooths 109 = .ok (.iload 7, 2) := by decide +kernel
theorem dX11_smooths_111 : decode cX11_smooths 111 = .ok (.iload 6, 2) := by decide +kernel
theorem dX11_smooths_113 : decode cX11_smooths 113 = .ok (.aload_n 0, 1) := by decide +kernel
theorem dX11_smooths_114 : decode cX11_smooths 114 = .ok (.getfield 256, 3) := by decide +kernel
theorem dX11_smooths_117 : decode cX11_smooths 117 = .ok (.aload_n 0, 1) := by decide +kernel
theorem dX11_smooths_118 : decode cX11_smooths 118 = .ok (.getfield 260, 3) := by decide +kernel
theorem dX11_smooths_121 : decode cX11_smooths 121 = .ok (.invokestatic 295, 3) := by decide +kernel
theorem dX11_smooths_124 : decode cX11_smooths 124 = .ok (.invokevirtual 193, 3) := by decide +kernel
theorem dX11_smooths_127 : decode cX11_smooths 127 = .ok (.iinc 7 1, 3) := by decide +kernel
theorem dX11_smooths_130 : decode cX11_smooths 130 = .ok (.goto (-52), 3) := by decide +kernel
theorem dX11_smooths_133 : decode cX11_smooths 133 = .ok (.iinc 6 1, 3) := by decide +kernel
theorem dX11_smooths_136 : decode cX11_smooths 136 = .ok (.goto (-71), 3) := by decide +kernel
theorem dX11_smooths_139 : decode cX11_smooths 139 = .ok (.return_, 1) := by decide +kernel
theorem dX11_refusesSmooth_0 : decode cX11_refusesSmooth 0 = .ok (.aload_n 0, 1) := by decide +kernel
theorem dX11_refusesSmooth_1 : decode cX11_refusesSmooth 1 = .ok (.iload_n 1, 1) := by decide +kernel
theorem dX11_refusesSmooth_2 : decode cX11_refusesSmooth 2 = .ok (.invokevirtual 173, 3) := by decide +kernel
theorem dX11_refusesSmooth_5 : decode cX11_refusesSmooth 5 = .ok (.ifCond .eq 11, 3) := by decide +kernel
theorem dX11_refusesSmooth_8 : decode cX11_refusesSmooth 8 = .ok (.aload_n 0, 1) := by decide +kernel
theorem dX11_refusesSmooth_9 : decode cX11_refusesSmooth 9 = .ok (.iload_n 2, 1) := by decide +kernel
theorem dX11_refusesSmooth_10 : decode cX11_refusesSmooth 10 = .ok (.invokevirtual 173, 3) := by decide +kernel
theorem dX11_refusesSmooth_13 : decode cX11_refusesSmooth 13 = .ok (.ifCond .ne 5, 3) := by decide +kernel
theorem dX11_refusesSmooth_16 : decode cX11_refusesSmooth 16 = .ok (.iconst 1, 1) := by decide +kernel
theorem dX11_refusesSmooth_17 : decode cX11_refusesSmooth 17 = .ok (.ireturn, 1) := by decide +kernel
theorem dX11_refusesSmooth_18 : decode cX11_refusesSmooth 18 = .ok (.iload_n 3, 1) := by decide +kernel
theorem dX11_refusesSmooth_19 : decode cX11_refusesSmooth 19 = .ok (.iload 4, 2) := by decide +kernel
theorem dX11_refusesSmooth_21 : decode cX11_refusesSmooth 21 = .ok (.invokestatic 263, 3) := by decide +kernel
theorem dX11_refusesSmooth_24 : decode cX11_refusesSmooth 24 = .ok (.ifCond .eq 13, 3) := by decide +kernel
theorem dX11_refusesSmooth_27 : decode cX11_refusesSmooth 27 = .ok (.iload 5, 2) := by decide +kernel
theorem dX11_refusesSmooth_29 : decode cX11_refusesSmooth 29 = .ok (.iconst 0, 1) := by decide +kernel
theorem dX11_refusesSmooth_30 : decode cX11_refusesSmooth 30 = .ok (.iconst 3, 1) := by decide +kernel
theorem dX11_refusesSmooth_31 : decode cX11_refusesSmooth 31 = .ok (.invokestatic 106, 3) := by decide +kernel
theorem dX11_refusesSmooth_34 : decode cX11_refusesSmooth 34 = .ok (.ifCond .ne 7, 3) := by decide +kernel
theorem dX11_refusesSmooth_37 : decode cX11_refusesSmooth 37 = .ok (.iconst 2, 1) := by decide +kernel
theorem dX11_refusesSmooth_38 : decode cX11_refusesSmooth 38 = .ok (.goto 17, 3) := by decide +kernel
theorem dX11_refusesSmooth_41 : decode cX11_refusesSmooth 41 = .ok (.aload_n 0, 1) := by decide +kernel
theorem dX11_refusesSmooth_42 : decode cX11_refusesSmooth 42 = .ok (.iload_n 1, 1) := by decide +kernel
theorem dX11_refusesSmooth_43 : decode cX11_refusesSmooth 43 = .ok (.iload_n 2, 1) := by decide +kernel
theorem dX11_refusesSmooth_44 : decode cX11_refusesSmooth 44 = .ok (.invokevirtual 267, 3) := by decide +kernel
theorem dX11_refusesSmooth_47 : decode cX11_refusesSmooth 47 = .ok (.ifCond .ne 7, 3) := by decide +kernel
theorem dX11_refusesSmooth_50 : decode cX11_refusesSmooth 50 = .ok (.iconst 5, 1) := by decide +kernel
theorem dX11_refusesSmooth_51 : decode cX11_refusesSmooth 51 = .ok (.goto 4, 3) := by decide +kernel
theorem dX11_refusesSmooth_54 : decode cX11_refusesSmooth 54 = .ok (.iconst 0, 1) := by decide +kernel
theorem dX11_refusesSmooth_55 : decode cX11_refusesSmooth 55 = .ok (.ireturn, 1) := by decide +kernel
theorem dX11_smooth_0 : decode cX11_smooth 0 = .ok (.aload_n 0, 1) := by decide +kernel
theorem dX11_smooth_1 : decode cX11_smooth 1 = .ok (.iconst 0, 1) := by decide +kernel
theorem dX11_smooth_2 : decode cX11_smooth 2 = .ok (.putfield 85, 3) := by decide +kernel
theorem dX11_smooth_5 : decode cX11_smooth 5 = .ok (.iload_n 1, 1) := by decide +kernel
theorem dX11_smooth_6 : decode cX11_smooth 6 = .ok (.iconst 0, 1) := by decide +kernel
theorem dX11_smooth_7 : decode cX11_smooth 7 = .ok (.iconst 5, 1) := by decide +kernel
theorem dX11_smooth_8 : decode cX11_smooth 8 = .ok (.invokestatic 106, 3) := by decide +kernel
theorem dX11_smooth_11 : decode cX11_smooth 11 = .ok (.ifCond .eq 18, 3) := by decide +kernel
theorem dX11_smooth_14 : decode cX11_smooth 14 = .ok (.aload_n 0, 1) := by decide +kernel
theorem dX11_smooth_15 : decode cX11_smooth 15 = .ok (.iload_n 2, 1) := by decide +kernel
theorem dX11_smooth_16 : decode cX11_smooth 16 = .ok (.iload_n 3, 1) := by decide +kernel
theorem dX11_smooth_17 : decode cX11_smooth 17 = .ok (.iload 4, 2) := by decide +kernel
theorem dX11_smooth_19 : decode cX11_smooth 19 = .ok (.iload 5, 2) := by decide +kernel
theorem dX11_smooth_21 : decode cX11_smooth 21 = .ok (.iload 6, 2) := by decide +kernel
theorem dX11_smooth_23 : decode cX11_smooth 23 = .ok (.invokevirtual 299, 3) := by decide +kernel
theorem dX11_smooth_26 : decode cX11_smooth 26 = .ok (.goto 4, 3) := by decide +kernel
theorem dX11_smooth_29 : decode cX11_smooth 29 = .ok (.iconst 1, 1) := by decide +kernel
theorem dX11_smooth_30 : decode cX11_smooth 30 = .ok (.istore 7, 2) := by decide +kernel
theorem dX11_smooth_32 : decode cX11_smooth 32 = .ok (.iload 7, 2) := by decide +kernel
theorem dX11_smooth_34 : decode cX11_smooth 34 = .ok (.ifCond .le 10, 3) := by decide +kernel
theorem dX11_smooth_37 : decode cX11_smooth 37 = .ok (.aload_n 0, 1) := by decide +kernel
theorem dX11_smooth_38 : decode cX11_smooth 38 = .ok (.iload 7, 2) := by decide +kernel
theorem dX11_smooth_40 : decode cX11_smooth 40 = .ok (.invokevirtual 147, 3) := by decide +kernel
theorem dX11_smooth_43 : decode cX11_smooth 43 = .ok (.ireturn, 1) := by decide +kernel
theorem dX11_smooth_44 : decode cX11_smooth 44 = .ok (.aload_n 0, 1) := by decide +kernel
theorem dX11_smooth_45 : decode cX11_smooth 45 = .ok (.iload_n 2, 1) := by decide +kernel
theorem dX11_smooth_46 : decode cX11_smooth 46 = .ok (.iload_n 3, 1) := by decide +kernel
theorem dX11_smooth_47 : decode cX11_smooth 47 = .ok (.iload 4, 2) := by decide +kernel
theorem dX11_smooth_49 : decode cX11_smooth 49 = .ok (.iload 5, 2) := by decide +kernel
theorem dX11_smooth_51 : decode cX11_smooth 51 = .ok (.iload 6, 2) := by decide +kernel
theorem dX11_smooth_53 : decode cX11_smooth 53 = .ok (.invokevirtual 303, 3) := by decide +kernel
theorem dX11_smooth_56 : decode cX11_smooth 56 = .ok (.aload_n 0, 1) := by decide +kernel
theorem dX11_smooth_57 : decode cX11_smooth 57 = .ok (.iload_n 2, 1) := by decide +kernel
theorem dX11_smooth_58 : decode cX11_smooth 58 = .ok (.invokevirtual 213, 3) := by decide +kernel
theorem dX11_smooth_61 : decode cX11_smooth 61 = .ok (.istore 8, 2) := by decide +kernel
theorem dX11_smooth_63 : decode cX11_smooth 63 = .ok (.aload_n 0, 1) := by decide +kernel
theorem dX11_smooth_64 : decode cX11_smooth 64 = .ok (.iload_n 1, 1) := by decide +kernel
theorem dX11_smooth_65 : decode cX11_smooth 65 = .ok (.invokevirtual 203, 3) := by decide +kernel
theorem dX11_smooth_68 : decode cX11_smooth 68 = .ok (.aload_n 0, 1) := by decide +kernel
theorem dX11_smooth_69 : decode cX11_smooth 69 = .ok (.iload 8, 2) := by decide +kernel
theorem dX11_smooth_71 : decode cX11_smooth 71 = .ok (.invokevirtual 157, 3) := by decide +kernel
theorem dX11_smooth_74 : decode cX11_smooth 74 = .ok (.ireturn, 1) := by decide +kernel
theorem dX11_box_0 : decode cX11_box 0 = .ok (.aload_n 0, 1) := by decide +kernel
theorem dX11_box_1 : decode cX11_box 1 = .ok (.iconst 0, 1) := by decide +kernel
theorem dX11_box_2 : decode cX11_box 2 = .ok (.putfield 85, 3) := by decide +kernel
theorem dX11_box_5 : decode cX11_box 5 = .ok (.iload_n 1, 1) := by decide +kernel
theorem dX11_box_6 : decode cX11_box 6 = .ok (.iconst 0, 1) := by decide +kernel
theorem dX11_box_7 : decode cX11_box 7 = .ok (.iconst 5, 1) := by decide +kernel
theorem dX11_box_8 : decode cX11_box 8 = .ok (.invokestatic 106, 3) := by decide +kernel
theorem dX11_box_11 : decode cX11_box 11 = .ok (.ifCond .eq 11, 3) := by decide +kernel
theorem dX11_box_14 : decode cX11_box 14 = .ok (.aload_n 0, 1) := by decide +kernel
theorem dX11_box_15 : decode cX11_box 15 = .ok (.iload_n 2, 1) := by decide +kernel
theorem dX11_box_16 : decode cX11_box 16 = .ok (.invokevirtual 173, 3) := by decide +kernel
theorem dX11_box_19 : decode cX11_box 19 = .ok (.ifCond .ne 9, 3) := by decide +kernel
theorem dX11_box_22 : decode cX11_box 22 = .ok (.aload_n 0, 1) := by decide +kernel
theorem dX11_box_23 : decode cX11_box 23 = .ok (.iconst 1, 1) := by decide +kernel
theorem dX11_box_24 : decode cX11_box 24 = .ok (.invokevirtual 147, 3) := by decide +kernel
theorem dX11_box_27 : decode cX11_box 27 = .ok (.ireturn, 1) := by decide +kernel
theorem dX11_box_28 : decode cX11_box 28 = .ok (.iload_n 3, 1) := by decide +kernel
theorem dX11_box_29 : decode cX11_box 29 = .ok (.iconst 0, 1) := by decide +kernel
theorem dX11_box_30 : decode cX11_box 30 = .ok (.iconst 4, 1) := by decide +kernel
theorem dX11_box_31 : decode cX11_box 31 = .ok (.invokestatic 106, 3) := by decide +kernel
theorem dX11_box_34 : decode cX11_box 34 = .ok (.ifCond .ne 9, 3) := by decide +kernel
theorem dX11_box_37 : decode cX11_box 37 = .ok (.aload_n 0, 1) := by decide +kernel
theorem dX11_box_38 : decode cX11_box 38 = .ok (.iconst 2, 1) := by decide +kernel
theorem dX11_box_39 : decode cX11_box 39 = .ok (.invokevirtual 147, 3) := by decide +kernel
theorem dX11_box_42 : decode cX11_box 42 = .ok (.ireturn, 1) := by decide +kernel
theorem dX11_box_43 : decode cX11_box 43 = .ok (.aload_n 0, 1) := by decide +kernel
theorem dX11_box_44 : decode cX11_box 44 = .ok (.aload_n 0, 1) := by decide +kernel
theorem dX11_box_45 : decode cX11_box 45 = .ok (.iload_n 2, 1) := by decide +kernel
theorem dX11_box_46 : decode cX11_box 46 = .ok (.invokevirtual 170, 3) := by decide +kernel
theorem dX11_box_49 : decode cX11_box 49 = .ok (.aload_n 0, 1) := by decide +kernel
theorem dX11_box_50 : decode cX11_box 50 = .ok (.iload_n 2, 1) := by decide +kernel
theorem dX11_box_51 : decode cX11_box 51 = .ok (.invokevirtual 176, 3) := by decide +kernel
theorem dX11_box_54 : decode cX11_box 54 = .ok (.invokevirtual 200, 3) := by decide +kernel
theorem dX11_box_57 : decode cX11_box 57 = .ok (.iconst 0, 1) := by decide +kernel
theorem dX11_box_58 : decode cX11_box 58 = .ok (.istore 4, 2) := by decide +kernel
theorem dX11_box_60 : decode cX11_box 60 = .ok (.iload 4, 2) := by decide +kernel
theorem dX11_box_62 : decode cX11_box 62 = .ok (.aload_n 0, 1) := by decide +kernel
theorem dX11_box_63 : decode cX11_box 63 = .ok (.iload_n 2, 1) := by decide +kernel
theorem dX11_box_64 : decode cX11_box 64 = .ok (.invokevirtual 176, 3) := by decide +kernel
theorem dX11_box_67 : decode cX11_box 67 = .ok (.if_icmp .ge 48, 3) := by decide +kernel
theorem dX11_box_70 : decode cX11_box 70 = .ok (.iconst 0, 1) := by decide +kernel
theorem dX11_box_71 : decode cX11_box 71 = .ok (.istore 5, 2) := by decide +kernel
theorem dX11_box_73 : decode cX11_box 73 = .ok (.iload 5, 2) := by decide +kernel
theorem dX11_box_75 : decode cX11_box 75 = .ok (.aload_n 0, 1) := by decide +kernel
theorem dX11_box_76 : decode cX11_box 76 = .ok (.iload_n 2, 1) := by decide +kernel
theorem dX11_box_77 : decode cX11_box 77 = .ok (.invokevirtual 170, 3) := by decide +kernel
theorem dX11_box_80 : decode cX11_box 80 = .ok (.if_icmp .ge 29, 3) := by decide +kernel
theorem dX11_box_83 : decode cX11_box 83 = .ok (.aload_n 0, 1) := by decide +kernel
theorem dX11_box_84 : decode cX11_box 84 = .ok (.bipush 6, 2) := by decide +kernel
theorem dX11_box_86 : decode cX11_box 86 = .ok (.iload 5, 2) := by decide +kernel
theorem dX11_box_88 : decode cX11_box 88 = .ok (.iload 4, 2) := by decide +kernel
theorem dX11_box_90 : decode cX11_box 90 = .ok (.aload_n 0, 1) := by decide +kernel
theorem dX11_box_91 : decode cX11_box 91 = .ok (.iload_n 2, 1) := by decide +kernel
theorem dX11_box_92 : decode cX11_box 92 = .ok (.iload 5, 2) := by decide +kernel
theorem dX11_box_94 : decode cX11_box 94 = .ok (.iload 4, 2) := by decide +kernel
theorem dX11_box_96 : decode cX11_box 96 = .ok (.iload_n 3, 1) := by decide +kernel
theorem dX11_box_97 : decode cX11_box 97 = .ok (.invokevirtual 306, 3) := by decide +kernel
theorem dX11_box_100 : decode cX11_box 100 = .ok (.invokevirtual 193, 3) := by decide +kernel
theorem dX11_box_103 : decode cX11_box 103 = .ok (.iinc 5 1, 3) := by decide +kernel
theorem dX11_box_106 : decode cX11_box 106 = .ok (.goto (-33), 3) := by decide +kernel
theorem dX11_box_109 : decode cX11_box 109 = .ok (.iinc 4 1, 3) := by decide +kernel
theorem dX11_box_112 : decode cX11_box 112 = .ok (.goto (-52), 3) := by decide +kernel
theorem dX11_box_115 : decode cX11_box 115 = .ok (.aload_n 0, 1) := by decide +kernel
theorem dX11_box_116 : decode cX11_box 116 = .ok (.iload_n 2, 1) := by decide +kernel
theorem dX11_box_117 : decode cX11_box 117 = .ok (.invokevirtual 213, 3) := by decide +kernel
theorem dX11_box_120 : decode cX11_box 120 = .ok (.istore 4, 2) := by decide +kernel
theorem dX11_box_122 : decode cX11_box 122 = .ok (.aload_n 0, 1) := by decide +kernel
theorem dX11_box_123 : decode cX11_box 123 = .ok (.iload_n 1, 1) := by decide +kernel
theorem dX11_box_124 : decode cX11_box 124 = .ok (.invokevirtual 203, 3) := by decide +kernel
theorem dX11_box_127 : decode cX11_box 127 = .ok (.aload_n 0, 1) := by decide +kernel
theorem dX11_box_128 : decode cX11_box 128 = .ok (.iload 4, 2) := by decide +kernel
theorem dX11_box_130 : decode cX11_box 130 = .ok (.invokevirtual 157, 3) := by decide +kernel
theorem dX11_box_133 : decode cX11_box 133 = .ok (.ireturn, 1) := by decide +kernel
theorem dX11_meanOf_0 : decode cX11_meanOf 0 = .ok (.lconst 0, 1) := by decide +kernel
theorem dX11_meanOf_1 : decode cX11_meanOf 1 = .ok (.lstore 5, 2) := by decide +kernel
theorem dX11_meanOf_3 : decode cX11_meanOf 3 = .ok (.lconst 0, 1) := by decide +kernel
theorem dX11_meanOf_4 : decode cX11_meanOf 4 = .ok (.lstore 7, 2) := by decide +kernel
theorem dX11_meanOf_6 : decode cX11_meanOf 6 = .ok (.iload_n 3, 1) := by decide +kernel
theorem dX11_meanOf_7 : decode cX11_meanOf 7 = .ok (.iload 4, 2) := by decide +kernel
theorem dX11_meanOf_9 : decode cX11_meanOf 9 = .ok (.isub, 1) := by decide +kernel
theorem dX11_meanOf_10 : decode cX11_meanOf 10 = .ok (.istore 9, 2) := by decide +kernel
theorem dX11_meanOf_12 : decode cX11_meanOf 12 = .ok (.iload 9, 2) := by decide +kernel
theorem dX11_meanOf_14 : decode cX11_meanOf 14 = .ok (.iload_n 3, 1) := by decide +kernel
theorem dX11_meanOf_15 : decode cX11_meanOf 15 = .ok (.iload 4, 2) := by decide +kernel
theorem dX11_meanOf_17 : decode cX11_meanOf 17 = .ok (.iadd, 1) := by decide +kernel
theorem dX11_meanOf_18 : decode cX11_meanOf 18 = .ok (.if_icmp .gt 66, 3) := by decide +kernel
theorem dX11_meanOf_21 : decode cX11_meanOf 21 = .ok (.iload_n 2, 1) := by decide +kernel
theorem dX11_meanOf_22 : decode cX11_meanOf 22 = .ok (.iload 4, 2) := by decide +kernel
theorem dX11_meanOf_24 : decode cX11_meanOf 24 = .ok (.isub, 1) := by decide +kernel
theorem dX11_meanOf_25 : decode cX11_meanOf 25 = .ok (.istore 10, 2) := by decide +kernel
theorem dX11_meanOf_27 : decode cX11_meanOf 27 = .ok (.iload 10, 2) := by decide +kernel
theorem dX11_meanOf_29 : decode cX11_meanOf 29 = .ok (.iload_n 2, 1) := by decide +kernel
theorem dX11_meanOf_30 : decode cX11_meanOf 30 = .ok (.iload 4, 2) := by decide +kernel
theorem dX11_meanOf_32 : decode cX11_meanOf 32 = .ok (.iadd, 1) := by decide +kernel
theorem dX11_meanOf_33 : decode cX11_meanOf 33 = .ok (.if_icmp .gt 45, 3) := by decide +kernel
theorem dX11_meanOf_36 : decode cX11_meanOf 36 = .ok (.aload_n 0, 1) := by decide +kernel
theorem dX11_meanOf_37 : decode cX11_meanOf 37 = .ok (.iload_n 1, 1) := by decide +kernel
theorem dX11_meanOf_38 : decode cX11_meanOf 38 = .ok (.iload 10, 2) := by decide +kernel
theorem dX11_meanOf_40 : decode cX11_meanOf 40 = .ok (.iload 9, 2) := by decide +kernel
theorem dX11_meanOf_42 : decode cX11_meanOf 42 = .ok (.invokevirtual 190, 3) := by decide +kernel
theorem dX11_meanOf_45 : decode cX11_meanOf 45 = .ok (.ifCond .ne 6, 3) := by decide +kernel
theorem dX11_meanOf_48 : decode cX11_meanOf 48 = .ok (.goto 24, 3) := by decide +kernel
theorem dX11_meanOf_51 : decode cX11_meanOf 51 = .ok (.lload 5, 2) := by decide +kernel
theorem dX11_meanOf_53 : decode cX11_meanOf 53 = .ok (.aload_n 0, 1) := by decide +kernel
theorem dX11_meanOf_54 : decode cX11_meanOf 54 = .ok (.iload_n 1, 1) := by decide +kernel
theorem dX11_meanOf_55 : decode cX11_meanOf 55 = .ok (.iload 10, 2) := by decide +kernel
theorem dX11_meanOf_57 : decode cX11_meanOf 57 = .ok (.iload 9, 2) := by decide +kernel
theorem dX11_meanOf_59 : decode cX11_meanOf 59 = .ok (.invokevirtual 182, 3) := by decide +kernel
theorem dX11_meanOf_62 : decode cX11_meanOf 62 = .ok (.i2l, 1) := by decide +kernel
theorem dX11_meanOf_63 : decode cX11_meanOf 63 = .ok (.ladd, 1) := by decide +kernel
theorem dX11_meanOf_64 : decode cX11_meanOf 64 = .ok (.lstore 5, 2) := by decide +kernel
theorem dX11_meanOf_66 : decode cX11_meanOf 66 = .ok (.lload 7, 2) := by decide +kernel
theorem dX11_meanOf_68 : decode cX11_meanOf 68 = .ok (.lconst 1, 1) := by decide +kernel
theorem dX11_meanOf_69 : decode cX11_meanOf 69 = .ok (.ladd, 1) := by decide +kernel
theorem dX11_meanOf_70 : decode cX11_meanOf 70 = .ok (.lstore 7, 2) := by decide +kernel
theorem dX11_meanOf_72 : decode cX11_meanOf 72 = .ok (.iinc 10 1, 3) := by decide +kernel
theorem dX11_meanOf_75 : decode cX11_meanOf 75 = .ok (.goto (-48), 3) := by decide +kernel
theorem dX11_meanOf_78 : decode cX11_meanOf 78 = .ok (.iinc 9 1, 3) := by decide +kernel
theorem dX11_meanOf_81 : decode cX11_meanOf 81 = .ok (.goto (-69), 3) := by decide +kernel
theorem dX11_meanOf_84 : decode cX11_meanOf 84 = .ok (.lload 5, 2) := by decide +kernel
theorem dX11_meanOf_86 : decode cX11_meanOf 86 = .ok (.lload 7, 2) := by decide +kernel
theorem dX11_meanOf_88 : decode cX11_meanOf 88 = .ok (.invokestatic 295, 3) := by decide +kernel
theorem dX11_meanOf_91 : decode cX11_meanOf 91 = .ok (.ireturn, 1) := by decide +kernel
theorem dX11_sorts_0 : decode cX11_sorts 0 = .ok (.aload_n 0, 1) := by decide +kernel
theorem dX11_sorts_1 : decode cX11_sorts 1 = .ok (.getfield 310, 3) := by decide +kernel
theorem dX11_sorts_4 : decode cX11_sorts 4 = .ok (.istore_n 2, 1) := by decide +kernel
theorem dX11_sorts_5 : decode cX11_sorts 5 = .ok (.iload_n 2, 1) := by decide +kernel
theorem dX11_sorts_6 : decode cX11_sorts 6 = .ok (.ifCond .le 35, 3) := by decide +kernel
theorem dX11_sorts_9 : decode cX11_sorts 9 = .ok (.aload_n 0, 1) := by decide +kernel
theorem dX11_sorts_10 : decode cX11_sorts 10 = .ok (.getfield 70, 3) := by decide +kernel
theorem dX11_sorts_13 : decode cX11_sorts 13 = .ok (.iload_n 2, 1) := by decide +kernel
theorem dX11_sorts_14 : decode cX11_sorts 14 = .ok (.iconst 1, 1) := by decide +kernel
theorem dX11_sorts_15 : decode cX11_sorts 15 = .ok (.isub, 1) := by decide +kernel
theorem dX11_sorts_16 : decode cX11_sorts 16 = .ok (.iaload, 1) := by decide +kernel
theorem dX11_sorts_17 : decode cX11_sorts 17 = .ok (.iload_n 1, 1) := by decide +kernel
theorem dX11_sorts_18 : decode cX11_sorts 18 = .ok (.if_icmp .le 23, 3) := by decide +kernel
theorem dX11_sorts_21 : decode cX11_sorts 21 = .ok (.aload_n 0, 1) := by decide +kernel
theorem dX11_sorts_22 : decode cX11_sorts 22 = .ok (.getfield 70, 3) := by decide +kernel
theorem dX11_sorts_25 : decode cX11_sorts 25 = .ok (.iload_n 2, 1) := by decide +kernel
theorem dX11_sorts_26 : decode cX11_sorts 26 = .ok (.aload_n 0, 1) := by decide +kernel
theorem dX11_sorts_27 : decode cX11_sorts 27 = .ok (.getfield 70, 3) := by decide +kernel
theorem dX11_sorts_30 : decode cX11_sorts 30 = .ok (.iload_n 2, 1) := by decide +kernel
theorem dX11_sorts_31 : decode cX11_sorts 31 = .ok (.iconst 1, 1) := by decide +kernel
theorem dX11_sorts_32 : decode cX11_sorts 32 = .ok (.isub, 1) := by decide +kernel
theorem dX11_sorts_33 : decode cX11_sorts 33 = .ok (.iaload, 1) := by decide +kernel
theorem dX11_sorts_34 : decode cX11_sorts 34 = .ok (.iastore, 1) := by decide +kernel
theorem dX11_sorts_35 : decode cX11_sorts 35 = .ok (.iinc 2 (-1), 3) := by decide +kernel
theorem dX11_sorts_38 : decode cX11_sorts 38 = .ok (.goto (-33), 3) := by decide +kernel
theorem dX11_sorts_41 : decode cX11_sorts 41 = .ok (.aload_n 0, 1) := by decide +kernel
theorem dX11_sorts_42 : decode cX11_sorts 42 = .ok (.getfield 70, 3) := by decide +kernel
theorem dX11_sorts_45 : decode cX11_sorts 45 = .ok (.iload_n 2, 1) := by decide +kernel
theorem dX11_sorts_46 : decode cX11_sorts 46 = .ok (.iload_n 1, 1) := by decide +kernel
theorem dX11_sorts_47 : decode cX11_sorts 47 = .ok (.iastore, 1) := by decide +kernel
theorem dX11_sorts_48 : decode cX11_sorts 48 = .ok (.aload_n 0, 1) := by decide +kernel
theorem dX11_sorts_49 : decode cX11_sorts 49 = .ok (.dup, 1) := by decide +kernel
theorem dX11_sorts_50 : decode cX11_sorts 50 = .ok (.getfield 310, 3) := by decide +kernel
theorem dX11_sorts_53 : decode cX11_sorts 53 = .ok (.iconst 1, 1) := by decide +kernel
theorem dX11_sorts_54 : decode cX11_sorts 54 = .ok (.iadd, 1) := by decide +kernel
theorem dX11_sorts_55 : decode cX11_sorts 55 = .ok (.putfield 310, 3) := by decide +kernel
theorem dX11_sorts_58 : decode cX11_sorts 58 = .ok (.return_, 1) := by decide +kernel
theorem dX11_middleOf_0 : decode cX11_middleOf 0 = .ok (.aload_n 0, 1) := by decide +kernel
theorem dX11_middleOf_1 : decode cX11_middleOf 1 = .ok (.iconst 0, 1) := by decide +kernel
theorem dX11_middleOf_2 : decode cX11_middleOf 2 = .ok (.putfield 310, 3) := by decide +kernel
theorem dX11_middleOf_5 : decode cX11_middleOf 5 = .ok (.iload_n 3, 1) := by decide +kernel
theorem dX11_middleOf_6 : decode cX11_middleOf 6 = .ok (.iload 4, 2) := by decide +kernel
theorem dX11_middleOf_8 : decode cX11_middleOf 8 = .ok (.isub, 1) := by decide +kernel
theorem dX11_middleOf_9 : decode cX11_middleOf 9 = .ok (.istore 5, 2) := by decide +kernel
theorem dX11_middleOf_11 : decode cX11_middleOf 11 = .ok (.iload 5, 2) := by decide +kernel
theorem dX11_middleOf_13 : decode cX11_middleOf 13 = .ok (.iload_n 3, 1) := by decide +kernel
theorem dX11_middleOf_14 : decode cX11_middleOf 14 = .ok (.iload 4, 2) := by decide +kernel
theorem dX11_middleOf_16 : decode cX11_middleOf 16 = .ok (.iadd, 1) := by decide +kernel
theorem dX11_middleOf_17 : decode cX11_middleOf 17 = .ok (.if_icmp .gt 55, 3) := by decide +kernel
theorem dX11_middleOf_20 : decode cX11_middleOf 20 = .ok (.iload_n 2, 1) := by decide +kernel
theorem dX11_middleOf_21 : decode cX11_middleOf 21 = .ok (.iload 4, 2) := by decide +kernel
theorem dX11_middleOf_23 : decode cX11_middleOf 23 = .ok (.isub, 1) := by decide +kernel
theorem dX11_middleOf_24 : decode cX11_middleOf 24 = .ok (.istore 6, 2) := by decide +kernel
theorem dX11_middleOf_26 : decode cX11_middleOf 26 = .ok (.iload 6, 2) := by decide +kernel
theorem dX11_middleOf_28 : decode cX11_middleOf 28 = .ok (.iload_n 2, 1) := by decide +kernel
theorem dX11_middleOf_29 : decode cX11_middleOf 29 = .ok (.iload 4, 2) := by decide +kernel
theorem dX11_middleOf_31 : decode cX11_middleOf 31 = .ok (.iadd, 1) := by decide +kernel
theorem dX11_middleOf_32 : decode cX11_middleOf 32 = .ok (.if_icmp .gt 34, 3) := by decide +kernel
theorem dX11_middleOf_35 : decode cX11_middleOf 35 = .ok (.aload_n 0, 1) := by decide +kernel
theorem dX11_middleOf_36 : decode cX11_middleOf 36 = .ok (.iload_n 1, 1) := by decide +kernel
theorem dX11_middleOf_37 : decode cX11_middleOf 37 = .ok (.iload 6, 2) := by decide +kernel
theorem dX11_middleOf_39 : decode cX11_middleOf 39 = .ok (.iload 5, 2) := by decide +kernel
theorem dX11_middleOf_41 : decode cX11_middleOf 41 = .ok (.invokevirtual 190, 3) := by decide +kernel
theorem dX11_middleOf_44 : decode cX11_middleOf 44 = .ok (.ifCond .eq 16, 3) := by decide +kernel
theorem dX11_middleOf_47 : decode cX11_middleOf 47 = .ok (.aload_n 0, 1) := by decide +kernel
theorem dX11_middleOf_48 : decode cX11_middleOf 48 = .ok (.aload_n 0, 1) := by decide +kernel
theorem dX11_middleOf_49 : decode cX11_middleOf 49 = .ok (.iload_n 1, 1) := by decide +kernel
theorem dX11_middleOf_50 : decode cX11_middleOf 50 = .ok (.iload 6, 2) := by decide +kernel
theorem dX11_middleOf_52 : decode cX11_middleOf 52 = .ok (.iload 5, 2) := by decide +kernel
theorem dX11_middleOf_54 : decode cX11_middleOf 54 = .ok (.invokevirtual 182, 3) := by decide +kernel
theorem dX11_middleOf_57 : decode cX11_middleOf 57 = .ok (.invokevirtual 313, 3) := by decide +kernel
theorem dX11_middleOf_60 : decode cX11_middleOf 60 = .ok (.iinc 6 1, 3) := by decide +kernel
theorem dX11_middleOf_63 : decode cX11_middleOf 63 = .ok (.goto (-37), 3) := by decide +kernel
theorem dX11_middleOf_66 : decode cX11_middleOf 66 = .ok (.iinc 5 1, 3) := by decide +kernel
theorem dX11_middleOf_69 : decode cX11_middleOf 69 = .ok (.goto (-58), 3) := by decide +kernel
theorem dX11_middleOf_72 : decode cX11_middleOf 72 = .ok (.aload_n 0, 1) := by decide +kernel
theorem dX11_middleOf_73 : decode cX11_middleOf 73 = .ok (.getfield 70, 3) := by decide +kernel
theorem dX11_middleOf_76 : decode cX11_middleOf 76 = .ok (.aload_n 0, 1) := by decide +kernel
theorem dX11_middleOf_77 : decode cX11_middleOf 77 = .ok (.getfield 310, 3) := by decide +kernel
theorem dX11_middleOf_80 : decode cX11_middleOf 80 = .ok (.iconst 1, 1) := by decide +kernel
theorem dX11_middleOf_81 : decode cX11_middleOf 81 = .ok (.isub, 1) := by decide +kernel
theorem dX11_middleOf_82 : decode cX11_middleOf 82 = .ok (.iconst 2, 1) := by decide +kernel
theorem dX11_middleOf_83 : decode cX11_middleOf 83 = .ok (.idiv, 1) := by decide +kernel
theorem dX11_middleOf_84 : decode cX11_middleOf 84 = .ok (.iaload, 1) := by decide +kernel
theorem dX11_middleOf_85 : decode cX11_middleOf 85 = .ok (.ireturn, 1) := by decide +kernel
theorem dX11_ends_0 : decode cX11_ends 0 = .ok (.aload_n 0, 1) := by decide +kernel
theorem dX11_ends_1 : decode cX11_ends 1 = .ok (.iload_n 2, 1) := by decide +kernel
theorem dX11_ends_2 : decode cX11_ends 2 = .ok (.invokevirtual 213, 3) := by decide +kernel
theorem dX11_ends_5 : decode cX11_ends 5 = .ok (.istore_n 3, 1) := by decide +kernel
theorem dX11_ends_6 : decode cX11_ends 6 = .ok (.aload_n 0, 1) := by decide +kernel
theorem dX11_ends_7 : decode cX11_ends 7 = .ok (.iload_n 1, 1) := by decide +kernel
theorem dX11_ends_8 : decode cX11_ends 8 = .ok (.invokevirtual 203, 3) := by decide +kernel
theorem dX11_ends_11 : decode cX11_ends 11 = .ok (.aload_n 0, 1) := by decide +kernel
theorem dX11_ends_12 : decode cX11_ends 12 = .ok (.iload_n 3, 1) := by decide +kernel
theorem dX11_ends_13 : decode cX11_ends 13 = .ok (.invokevirtual 157, 3) := by decide +kernel
theorem dX11_ends_16 : decode cX11_ends 16 = .ok (.ireturn, 1) := by decide +kernel
theorem dX11_isTo_0 : decode cX11_isTo 0 = .ok (.iload_n 0, 1) := by decide +kernel
theorem dX11_isTo_1 : decode cX11_isTo 1 = .ok (.iconst 0, 1) := by decide +kernel
theorem dX11_isTo_2 : decode cX11_isTo 2 = .ok (.iconst 5, 1) := by decide +kernel
theorem dX11_isTo_3 : decode cX11_isTo 3 = .ok (.invokestatic 106, 3) := by decide +kernel
theorem dX11_isTo_6 : decode cX11_isTo 6 = .ok (.ireturn, 1) := by decide +kernel
theorem dX11_median_0 : decode cX11_median 0 = .ok (.aload_n 0, 1) := by decide +kernel
theorem dX11_median_1 : decode cX11_median 1 = .ok (.iconst 0, 1) := by decide +kernel
theorem dX11_median_2 : decode cX11_median 2 = .ok (.putfield 85, 3) := by decide +kernel
theorem dX11_median_5 : decode cX11_median 5 = .ok (.iload_n 1, 1) := by decide +kernel
theorem dX11_median_6 : decode cX11_median 6 = .ok (.invokestatic 316, 3) := by decide +kernel
theorem dX11_median_9 : decode cX11_median 9 = .ok (.ifCond .eq 11, 3) := by decide +kernel
theorem dX11_median_12 : decode cX11_median 12 = .ok (.aload_n 0, 1) := by decide +kernel
theorem dX11_median_13 : decode cX11_median 13 = .ok (.iload_n 2, 1) := by decide +kernel
theorem dX11_median_14 : decode cX11_median 14 = .ok (.invokevirtual 173, 3) := by decide +kernel
theorem dX11_median_17 : decode cX11_median 17 = .ok (.ifCond .ne 9, 3) := by decide +kernel
theorem dX11_median_20 : decode cX11_median 20 = .ok (.aload_n 0, 1) := by decide +kernel
theorem dX11_median_21 : decode cX11_median 21 = .ok (.iconst 1, 1) := by decide +kernel
theorem dX11_median_22 : decode cX11_median 22 = .ok (.invokevirtual 147, 3) := by decide +kernel
theorem dX11_median_25 : decode cX11_median 25 = .ok (.ireturn, 1) := by decide +kernel
theorem dX11_median_26 : decode cX11_median 26 = .ok (.iload_n 3, 1) := by decide +kernel
theorem dX11_median_27 : decode cX11_median 27 = .ok (.iconst 0, 1) := by decide +kernel
theorem dX11_median_28 : decode cX11_median 28 = .ok (.iconst 4, 1) := by decide +kernel
theorem dX11_median_29 : decode cX11_median 29 = .ok (.invokestatic 106, 3) := by decide +kernel
theorem dX11_median_32 : decode cX11_median 32 = .ok (.ifCond .ne 9, 3) := by decide +kernel
theorem dX11_median_35 : decode cX11_median 35 = .ok (.aload_n 0, 1) := by decide +kernel
theorem dX11_median_36 : decode cX11_median 36 = .ok (.iconst 2, 1) := by decide +kernel
theorem dX11_median_37 : decode cX11_median 37 = .ok (.invokevirtual 147, 3) := by decide +kernel
theorem dX11_median_40 : decode cX11_median 40 = .ok (.ireturn, 1) := by decide +kernel
theorem dX11_median_41 : decode cX11_median 41 = .ok (.aload_n 0, 1) := by decide +kernel
theorem dX11_median_42 : decode cX11_median 42 = .ok (.aload_n 0, 1) := by decide +kernel
theorem dX11_median_43 : decode cX11_median 43 = .ok (.iload_n 2, 1) := by decide +kernel
theorem dX11_median_44 : decode cX11_median 44 = .ok (.invokevirtual 170, 3) := by decide +kernel
theorem dX11_median_47 : decode cX11_median 47 = .ok (.aload_n 0, 1) := by decide +kernel
theorem dX11_median_48 : decode cX11_median 48 = .ok (.iload_n 2, 1) := by decide +kernel
theorem dX11_median_49 : decode cX11_median 49 = .ok (.invokevirtual 176, 3) := by decide +kernel
theorem dX11_median_52 : decode cX11_median 52 = .ok (.invokevirtual 200, 3) := by decide +kernel
theorem dX11_median_55 : decode cX11_median 55 = .ok (.iconst 0, 1) := by decide +kernel
theorem dX11_median_56 : decode cX11_median 56 = .ok (.istore 4, 2) := by decide +kernel
theorem dX11_median_58 : decode cX11_median 58 = .ok (.iload 4, 2) := by decide +kernel
theorem dX11_median_60 : decode cX11_median 60 = .ok (.aload_n 0, 1) := by decide +kernel
theorem dX11_median_61 : decode cX11_median 61 = .ok (.iload_n 2, 1) := by decide +kernel
theorem dX11_median_62 : decode cX11_median 62 = .ok (.invokevirtual 176, 3) := by decide +kernel
theorem dX11_median_65 : decode cX11_median 65 = .ok (.if_icmp .ge 48, 3) := by decide +kernel
theorem dX11_median_68 : decode cX11_median 68 = .ok (.iconst 0, 1) := by decide +kernel
theorem dX11_median_69 : decode cX11_median 69 = .ok (.istore 5, 2) := by decide +kernel
theorem dX11_median_71 : decode cX11_median 71 = .ok (.iload 5, 2) := by decide +kernel
theorem dX11_median_73 : decode cX11_median 73 = .ok (.aload_n 0, 1) := by decide +kernel
theorem dX11_median_74 : decode cX11_median 74 = .ok (.iload_n 2, 1) := by decide +kernel
theorem dX11_median_75 : decode cX11_median 75 = .ok (.invokevirtual 170, 3) := by decide +kernel
theorem dX11_median_78 : decode cX11_median 78 = .ok (.if_icmp .ge 29, 3) := by decide +kernel
theorem dX11_median_81 : decode cX11_median 81 = .ok (.aload_n 0, 1) := by decide +kernel
theorem dX11_median_82 : decode cX11_median 82 = .ok (.bipush 6, 2) := by decide +kernel
theorem dX11_median_84 : decode cX11_median 84 = .ok (.iload 5, 2) := by decide +kernel
theorem dX11_median_86 : decode cX11_median 86 = .ok (.iload 4, 2) := by decide +kernel
theorem dX11_median_88 : decode cX11_median 88 = .ok (.aload_n 0, 1) := by decide +kernel
theorem dX11_median_89 : decode cX11_median 89 = .ok (.iload_n 2, 1) := by decide +kernel
theorem dX11_median_90 : decode cX11_median 90 = .ok (.iload 5, 2) := by decide +kernel
theorem dX11_median_92 : decode cX11_median 92 = .ok (.iload 4, 2) := by decide +kernel
theorem dX11_median_94 : decode cX11_median 94 = .ok (.iload_n 3, 1) := by decide +kernel
theorem dX11_median_95 : decode cX11_median 95 = .ok (.invokevirtual 319, 3) := by decide +kernel
theorem dX11_median_98 : decode cX11_median 98 = .ok (.invokevirtual 193, 3) := by decide +kernel
theorem dX11_median_101 : decode cX11_median 101 = .ok (.iinc 5 1, 3) := by decide +kernel
theorem dX11_median_104 : decode cX11_median 104 = .ok (.goto (-33), 3) := by decide +kernel
theorem dX11_median_107 : decode cX11_median 107 = .ok (.iinc 4 1, 3) := by decide +kernel
theorem dX11_median_110 : decode cX11_median 110 = .ok (.goto (-52), 3) := by decide +kernel
theorem dX11_median_113 : decode cX11_median 113 = .ok (.aload_n 0, 1) := by decide +kernel
theorem dX11_median_114 : decode cX11_median 114 = .ok (.iload_n 1, 1) := by decide +kernel
theorem dX11_median_115 : decode cX11_median 115 = .ok (.iload_n 2, 1) := by decide +kernel
theorem dX11_median_116 : decode cX11_median 116 = .ok (.invokevirtual 322, 3) := by decide +kernel
theorem dX11_median_119 : decode cX11_median 119 = .ok (.ireturn, 1) := by decide +kernel
theorem dX11_mix_0 : decode cX11_mix 0 = .ok (.aload_n 0, 1) := by decide +kernel
theorem dX11_mix_1 : decode cX11_mix 1 = .ok (.iconst 0, 1) := by decide +kernel
theorem dX11_mix_2 : decode cX11_mix 2 = .ok (.putfield 85, 3) := by decide +kernel
theorem dX11_mix_5 : decode cX11_mix 5 = .ok (.iload_n 1, 1) := by decide +kernel
theorem dX11_mix_6 : decode cX11_mix 6 = .ok (.invokestatic 316, 3) := by decide +kernel
theorem dX11_mix_9 : decode cX11_mix 9 = .ok (.ifCond .eq 19, 3) := by decide +kernel
theorem dX11_mix_12 : decode cX11_mix 12 = .ok (.aload_n 0, 1) := by decide +kernel
theorem dX11_mix_13 : decode cX11_mix 13 = .ok (.iload_n 2, 1) := by decide +kernel
theorem dX11_mix_14 : decode cX11_mix 14 = .ok (.invokevirtual 173, 3) := by decide +kernel
theorem dX11_mix_17 : decode cX11_mix 17 = .ok (.ifCond .eq 11, 3) := by decide +kernel
theorem dX11_mix_20 : decode cX11_mix 20 = .ok (.aload_n 0, 1) := by decide +kernel
theorem dX11_mix_21 : decode cX11_mix 21 = .ok (.iload_n 3, 1) := by decide +kernel
theorem dX11_mix_22 : decode cX11_mix 22 = .ok (.invokevirtual 173, 3) := by decide +kernel
theorem dX11_mix_25 : decode cX11_mix 25 = .ok (.ifCond .ne 9, 3) := by decide +kernel
theorem dX11_mix_28 : decode cX11_mix 28 = .ok (.aload_n 0, 1) := by decide +kernel
theorem dX11_mix_29 : decode cX11_mix 29 = .ok (.iconst 1, 1) := by decide +kernel
theorem dX11_mix_30 : decode cX11_mix 30 = .ok (.invokevirtual 197, 3) := by decide +kernel
theorem dX11_mix_33 : decode cX11_mix 33 = .ok (.ireturn, 1) := by decide +kernel
theorem dX11_mix_34 : decode cX11_mix 34 = .ok (.iload 4, 2) := by decide +kernel
theorem dX11_mix_36 : decode cX11_mix 36 = .ok (.iconst 0, 1) := by decide +kernel
theorem dX11_mix_37 : decode cX11_mix 37 = .ok (.bipush 100, 2) := by decide +kernel
theorem dX11_mix_39 : decode cX11_mix 39 = .ok (.invokestatic 106, 3) := by decide +kernel
theorem dX11_mix_42 : decode cX11_mix 42 = .ok (.ifCond .ne 9, 3) := by decide +kernel
theorem dX11_mix_45 : decode cX11_mix 45 = .ok (.aload_n 0, 1) := by decide +kernel
theorem dX11_mix_46 : decode cX11_mix 46 = .ok (.iconst 2, 1) := by decide +kernel
theorem dX11_mix_47 : decode cX11_mix 47 = .ok (.invokevirtual 197, 3) := by decide +kernel
theorem dX11_mix_50 : decode cX11_mix 50 = .ok (.ireturn, 1) := by decide +kernel
theorem dX11_mix_51 : decode cX11_mix 51 = .ok (.aload_n 0, 1) := by decide +kernel
theorem dX11_mix_52 : decode cX11_mix 52 = .ok (.iload_n 2, 1) := by decide +kernel
theorem dX11_mix_53 : decode cX11_mix 53 = .ok (.iload_n 3, 1) := by decide +kernel
theorem dX11_mix_54 : decode cX11_mix 54 = .ok (.invokevirtual 267, 3) := by decide +kernel
theorem dX11_mix_57 : decode cX11_mix 57 = .ok (.ifCond .ne 9, 3) := by decide +kernel
theorem dX11_mix_60 : decode cX11_mix 60 = .ok (.aload_n 0, 1) := by decide +kernel
theorem dX11_mix_61 : decode cX11_mix 61 = .ok (.iconst 5, 1) := by decide +kernel
theorem dX11_mix_62 : decode cX11_mix 62 = .ok (.invokevirtual 197, 3) := by decide +kernel
theorem dX11_mix_65 : decode cX11_mix 65 = .ok (.ireturn, 1) := by decide +kernel
theorem dX11_mix_66 : decode cX11_mix 66 = .ok (.aload_n 0, 1) := by decide +kernel
theorem dX11_mix_67 : decode cX11_mix 67 = .ok (.aload_n 0, 1) := by decide +kernel
theorem dX11_mix_68 : decode cX11_mix 68 = .ok (.iload_n 2, 1) := by decide +kernel
theorem dX11_mix_69 : decode cX11_mix 69 = .ok (.invokevirtual 170, 3) := by decide +kernel
theorem dX11_mix_72 : decode cX11_mix 72 = .ok (.aload_n 0, 1) := by decide +kernel
theorem dX11_mix_73 : decode cX11_mix 73 = .ok (.iload_n 2, 1) := by decide +kernel
theorem dX11_mix_74 : decode cX11_mix 74 = .ok (.invokevirtual 176, 3) := by decide +kernel
theorem dX11_mix_77 : decode cX11_mix 77 = .ok (.invokevirtual 200, 3) := by decide +kernel
theorem dX11_mix_80 : decode cX11_mix 80 = .ok (.iconst 0, 1) := by decide +kernel
theorem dX11_mix_81 : decode cX11_mix 81 = .ok (.istore 5, 2) := by decide +kernel
theorem dX11_mix_83 : decode cX11_mix 83 = .ok (.iload 5, 2) := by decide +kernel
theorem dX11_mix_85 : decode cX11_mix 85 = .ok (.aload_n 0, 1) := by decide +kernel
theorem dX11_mix_86 : decode cX11_mix 86 = .ok (.iload_n 2, 1) := by decide +kernel
theorem dX11_mix_87 : decode cX11_mix 87 = .ok (.invokevirtual 176, 3) := by decide +kernel
theorem dX11_mix_90 : decode cX11_mix 90 = .ok (.if_icmp .ge 73, 3) := by decide +kernel
theorem dX11_mix_93 : decode cX11_mix 93 = .ok (.iconst 0, 1) := by decide +kernel
theorem dX11_mix_94 : decode cX11_mix 94 = .ok (.istore 6, 2) := by decide +kernel
theorem dX11_mix_96 : decode cX11_mix 96 = .ok (.iload 6, 2) := by decide +kernel
theorem dX11_mix_98 : decode cX11_mix 98 = .ok (.aload_n 0, 1) := by decide +kernel
theorem dX11_mix_99 : decode cX11_mix 99 = .ok (.iload_n 2, 1) := by decide +kernel
theorem dX11_mix_100 : decode cX11_mix 100 = .ok (.invokevirtual 170, 3) := by decide +kernel
theorem dX11_mix_103 : decode cX11_mix 103 = .ok (.if_icmp .ge 54, 3) := by decide +kernel
theorem dX11_mix_106 : decode cX11_mix 106 = .ok (.aload_n 0, 1) := by decide +kernel
theorem dX11_mix_107 : decode cX11_mix 107 = .ok (.bipush 6, 2) := by decide +kernel
theorem dX11_mix_109 : decode cX11_mix 109 = .ok (.iload 6, 2) := by decide +kernel
theorem dX11_mix_111 : decode cX11_mix 111 = .ok (.iload 5, 2) := by decide +kernel
theorem dX11_mix_113 : decode cX11_mix 113 = .ok (.iload 4, 2) := by decide +kernel
theorem dX11_mix_115 : decode cX11_mix 115 = .ok (.aload_n 0, 1) := by decide +kernel
theorem dX11_mix_116 : decode cX11_mix 116 = .ok (.iload_n 2, 1) := by decide +kernel
theorem dX11_mix_117 : decode cX11_mix 117 = .ok (.iload 6, 2) := by decide +kernel
theorem dX11_mix_119 : decode cX11_mix 119 = .ok (.iload 5, 2) := by decide +kernel
theorem dX11_mix_121 : decode cX11_mix 121 = .ok (.invokevirtual 182, 3) := by decide +kernel
theorem dX11_mix_124 : decode cX11_mix 124 = .ok (.imul, 1) := by decide +kernel
theorem dX11_mix_125 : decode cX11_mix 125 = .ok (.bipush 100, 2) := by decide +kernel
theorem dX11_mix_127 : decode cX11_mix 127 = .ok (.iload 4, 2) := by decide +kernel
theorem dX11_mix_129 : decode cX11_mix 129 = .ok (.isub, 1) := by decide +kernel
theorem dX11_mix_130 : decode cX11_mix 130 = .ok (.aload_n 0, 1) := by decide +kernel
theorem dX11_mix_131 : decode cX11_mix 131 = .ok (.iload_n 3, 1) := by decide +kernel
theorem dX11_mix_132 : decode cX11_mix 132 = .ok (.iload 6, 2) := by decide +kernel
theorem dX11_mix_134 : decode cX11_mix 134 = .ok (.iload 5, 2) := by decide +kernel
theorem dX11_mix_136 : decode cX11_mix 136 = .ok (.invokevirtual 182, 3) := by decide +kernel
theorem dX11_mix_139 : decode cX11_mix 139 = .ok (.imul, 1) := by decide +kernel
theorem dX11_mix_140 : decode cX11_mix 140 = .ok (.iadd, 1) := by decide +kernel
theorem dX11_mix_141 : decode cX11_mix 141 = .ok (.i2l, 1) := by decide +kernel
theorem dX11_mix_142 : decode cX11_mix 142 = .ok (.ldc2_w 325, 3) := by decide +kernel
theorem dX11_mix_145 : decode cX11_mix 145 = .ok (.invokestatic 295, 3) := by decide +kernel
theorem dX11_mix_148 : decode cX11_mix 148 = .ok (.invokevirtual 193, 3) := by decide +kernel
theorem dX11_mix_151 : decode cX11_mix 151 = .ok (.iinc 6 1, 3) := by decide +kernel
theorem dX11_mix_154 : decode cX11_mix 154 = .ok (.goto (-58), 3) := by decide +kernel
theorem dX11_mix_157 : decode cX11_mix 157 = .ok (.iinc 5 1, 3) := by decide +kernel
theorem dX11_mix_160 : decode cX11_mix 160 = .ok (.goto (-77), 3) := by decide +kernel
theorem dX11_mix_163 : decode cX11_mix 163 = .ok (.aload_n 0, 1) := by decide +kernel
theorem dX11_mix_164 : decode cX11_mix 164 = .ok (.iload_n 1, 1) := by decide +kernel
theorem dX11_mix_165 : decode cX11_mix 165 = .ok (.invokevirtual 203, 3) := by decide +kernel
theorem dX11_mix_168 : decode cX11_mix 168 = .ok (.aload_n 0, 1) := by decide +kernel
theorem dX11_mix_169 : decode cX11_mix 169 = .ok (.iconst 0, 1) := by decide +kernel
theorem dX11_mix_170 : decode cX11_mix 170 = .ok (.invokevirtual 197, 3) := by decide +kernel
theorem dX11_mix_173 : decode cX11_mix 173 = .ok (.ireturn, 1) := by decide +kernel
theorem dX11_above_0 : decode cX11_above 0 = .ok (.aload_n 0, 1) := by decide +kernel
theorem dX11_above_1 : decode cX11_above 1 = .ok (.iconst 0, 1) := by decide +kernel
theorem dX11_above_2 : decode cX11_above 2 = .ok (.putfield 85, 3) := by decide +kernel
theorem dX11_above_5 : decode cX11_above 5 = .ok (.iload_n 1, 1) := by decide +kernel
theorem dX11_above_6 : decode cX11_above 6 = .ok (.invokestatic 316, 3) := by decide +kernel
theorem dX11_above_9 : decode cX11_above 9 = .ok (.ifCond .eq 19, 3) := by decide +kernel
theorem dX11_above_12 : decode cX11_above 12 = .ok (.aload_n 0, 1) := by decide +kernel
theorem dX11_above_13 : decode cX11_above 13 = .ok (.iload_n 2, 1) := by decide +kernel
theorem dX11_above_14 : decode cX11_above 14 = .ok (.invokevirtual 173, 3) := by decide +kernel
theorem dX11_above_17 : decode cX11_above 17 = .ok (.ifCond .eq 11, 3) := by decide +kernel
theorem dX11_above_20 : decode cX11_above 20 = .ok (.aload_n 0, 1) := by decide +kernel
theorem dX11_above_21 : decode cX11_above 21 = .ok (.iload_n 3, 1) := by decide +kernel
theorem dX11_above_22 : decode cX11_above 22 = .ok (.invokevirtual 173, 3) := by decide +kernel
theorem dX11_above_25 : decode cX11_above 25 = .ok (.ifCond .ne 9, 3) := by decide +kernel
theorem dX11_above_28 : decode cX11_above 28 = .ok (.aload_n 0, 1) := by decide +kernel
theorem dX11_above_29 : decode cX11_above 29 = .ok (.iconst 1, 1) := by decide +kernel
theorem dX11_above_30 : decode cX11_above 30 = .ok (.invokevirtual 147, 3) := by decide +kernel
theorem dX11_above_33 : decode cX11_above 33 = .ok (.ireturn, 1) := by decide +kernel
theorem dX11_above_34 : decode cX11_above 34 = .ok (.aload_n 0, 1) := by decide +kernel
theorem dX11_above_35 : decode cX11_above 35 = .ok (.iload_n 2, 1) := by decide +kernel
theorem dX11_above_36 : decode cX11_above 36 = .ok (.iload_n 3, 1) := by decide +kernel
theorem dX11_above_37 : decode cX11_above 37 = .ok (.invokevirtual 267, 3) := by decide +kernel
theorem dX11_above_40 : decode cX11_above 40 = .ok (.ifCond .ne 9, 3) := by decide +kernel
theorem dX11_above_43 : decode cX11_above 43 = .ok (.aload_n 0, 1) := by decide +kernel
theorem dX11_above_44 : decode cX11_above 44 = .ok (.iconst 5, 1) := by decide +kernel
theorem dX11_above_45 : decode cX11_above 45 = .ok (.invokevirtual 147, 3) := by decide +kernel
theorem dX11_above_48 : decode cX11_above 48 = .ok (.ireturn, 1) := by decide +kernel
theorem dX11_above_49 : decode cX11_above 49 = .ok (.iconst 0, 1) := by decide +kernel
theorem dX11_above_50 : decode cX11_above 50 = .ok (.istore 4, 2) := by decide +kernel
theorem dX11_above_52 : decode cX11_above 52 = .ok (.aload_n 0, 1) := by decide +kernel
theorem dX11_above_53 : decode cX11_above 53 = .ok (.aload_n 0, 1) := by decide +kernel
theorem dX11_above_54 : decode cX11_above 54 = .ok (.iload_n 2, 1) := by decide +kernel
theorem dX11_above_55 : decode cX11_above 55 = .ok (.invokevirtual 170, 3) := by decide +kernel
theorem dX11_above_58 : decode cX11_above 58 = .ok (.aload_n 0, 1) := by decide +kernel
theorem dX11_above_59 : decode cX11_above 59 = .ok (.iload_n 2, 1) := by decide +kernel
theorem dX11_above_60 : decode cX11_above 60 = .ok (.invokevirtual 176, 3) := by decide +kernel
theorem dX11_above_63 : decode cX11_above 63 = .ok (.invokevirtual 200, 3) := by decide +kernel
theorem dX11_above_66 : decode cX11_above 66 = .ok (.iconst 0, 1) := by decide +kernel
theorem dX11_above_67 : decode cX11_above 67 = .ok (.istore 5, 2) := by decide +kernel
theorem dX11_above_69 : decode cX11_above 69 = .ok (.iload 5, 2) := by decide +kernel
theorem dX11_above_71 : decode cX11_above 71 = .ok (.aload_n 0, 1) := by decide +kernel
theorem dX11_above_72 : decode cX11_above 72 = .ok (.iload_n 2, 1) := by decide +kernel
theorem dX11_above_73 : decode cX11_above 73 = .ok (.invokevirtual 176, 3) := by decide +kernel
theorem dX11_above_76 : decode cX11_above 76 = .ok (.if_icmp .ge 110, 3) := by decide +kernel
theorem dX11_above_79 : decode cX11_above 79 = .ok (.iconst 0, 1) := by decide +kernel
theorem dX11_above_80 : decode cX11_above 80 = .ok (.istore 6, 2) := by decide +kernel
theorem dX11_above_82 : decode cX11_above 82 = .ok (.iload 6, 2) := by decide +kernel
theorem dX11_above_84 : decode cX11_above 84 = .ok (.aload_n 0, 1) := by decide +kernel
theorem dX11_above_85 : decode cX11_above 85 = .ok (.iload_n 2, 1) := by decide +kernel
theorem dX11_above_86 : decode cX11_above 86 = .ok (.invokevirtual 170, 3) := by decide +kernel
theorem dX11_above_89 : decode cX11_above 89 = .ok (.if_icmp .ge 91, 3) := by decide +kernel
theorem dX11_above_92 : decode cX11_above 92 = .ok (.sipush 128, 3) := by decide +kernel
theorem dX11_above_95 : decode cX11_above 95 = .ok (.aload_n 0, 1) := by decide +kernel
theorem dX11_above_96 : decode cX11_above 96 = .ok (.iload_n 2, 1) := by decide +kernel
theorem dX11_above_97 : decode cX11_above 97 = .ok (.iload 6, 2) := by decide +kernel
theorem dX11_above_99 : decode cX11_above 99 = .ok (.iload 5, 2) := by decide +kernel
theorem dX11_above_101 : decode cX11_above 101 = .ok (.invokevirtual 182, 3) := by decide +kernel
theorem dX11_above_104 : decode cX11_above 104 = .ok (.iadd, 1) := by decide +kernel
theorem dX11_above_105 : decode cX11_above 105 = .ok (.aload_n 0, 1) := by decide +kernel
theorem dX11_above_106 : decode cX11_above 106 = .ok (.iload_n 3, 1) := by decide +kernel
theorem dX11_above_107 : decode cX11_above 107 = .ok (.iload 6, 2) := by decide +kernel
theorem dX11_above_109 : decode cX11_above 109 = .ok (.iload 5, 2) := by decide +kernel
theorem dX11_above_111 : decode cX11_above 111 = .ok (.invokevirtual 182, 3) := by decide +kernel
theorem dX11_above_114 : decode cX11_above 114 = .ok (.isub, 1) := by decide +kernel
theorem dX11_above_115 : decode cX11_above 115 = .ok (.istore 7, 2) := by decide +kernel
theorem dX11_above_117 : decode cX11_above 117 = .ok (.iload 4, 2) := by decide +kernel
theorem dX11_above_119 : decode cX11_above 119 = .ok (.iload 7, 2) := by decide +kernel
theorem dX11_above_121 : decode cX11_above 121 = .ok (.iconst 0, 1) := by decide +kernel
theorem dX11_above_122 : decode cX11_above 122 = .ok (.sipush 255, 3) := by decide +kernel
theorem dX11_above_125 : decode cX11_above 125 = .ok (.invokestatic 106, 3) := by decide +kernel
theorem dX11_above_128 : decode cX11_above 128 = .ok (.ifCond .eq 7, 3) := by decide +kernel
theorem dX11_above_131 : decode cX11_above 131 = .ok (.iconst 0, 1) := by decide +kernel
theorem dX11_above_132 : decode cX11_above 132 = .ok (.goto 4, 3) := by decide +kernel
theorem dX11_above_135 : decode cX11_above 135 = .ok (.iconst 1, 1) := by decide +kernel
theorem dX11_above_136 : decode cX11_above 136 = .ok (.iadd, 1) := by decide +kernel
theorem dX11_above_137 : decode cX11_above 137 = .ok (.istore 4, 2) := by decide +kernel
theorem dX11_above_139 : decode cX11_above 139 = .ok (.aload_n 0, 1) := by decide +kernel
theorem dX11_above_140 : decode cX11_above 140 = .ok (.bipush 6, 2) := by decide +kernel
theorem dX11_above_142 : decode cX11_above 142 = .ok (.iload 6, 2) := by decide +kernel
theorem dX11_above_144 : decode cX11_above 144 = .ok (.iload 5, 2) := by decide +kernel
theorem dX11_above_146 : decode cX11_above 146 = .ok (.iload 7, 2) := by decide +kernel
theorem dX11_above_148 : decode cX11_above 148 = .ok (.ifCond .ge 7, 3) := by decide +kernel
theorem dX11_above_151 : decode cX11_above 151 = .ok (.iconst 0, 1) := by decide +kernel
theorem dX11_above_152 : decode cX11_above 152 = .ok (.goto 19, 3) := by decide +kernel
theorem dX11_above_155 : decode cX11_above 155 = .ok (.iload 7, 2) := by decide +kernel
theorem dX11_above_157 : decode cX11_above 157 = .ok (.sipush 255, 3) := by decide +kernel
theorem dX11_above_160 : decode cX11_above 160 = .ok (.if_icmp .le 9, 3) := by decide +kernel
theorem dX11_above_163 : decode cX11_above 163 = .ok (.sipush 255, 3) := by decide +kernel
theorem dX11_above_166 : decode cX11_above 166 = .ok (.goto 5, 3) := by decide +kernel
theorem dX11_above_169 : decode cX11_above 169 = .ok (.iload 7, 2) := by decide +kernel
theorem dX11_above_171 : decode cX11_above 171 = .ok (.invokevirtual 193, 3) := by decide +kernel
theorem dX11_above_174 : decode cX11_above 174 = .ok (.iinc 6 1, 3) := by decide +kernel
theorem dX11_above_177 : decode cX11_above 177 = .ok (.goto (-95), 3) := by decide +kernel
theorem dX11_above_180 : decode cX11_above 180 = .ok (.iinc 5 1, 3) := by decide +kernel
theorem dX11_above_183 : decode cX11_above 183 = .ok (.goto (-114), 3) := by decide +kernel
theorem dX11_above_186 : decode cX11_above 186 = .ok (.aload_n 0, 1) := by decide +kernel
theorem dX11_above_187 : decode cX11_above 187 = .ok (.iload_n 1, 1) := by decide +kernel
theorem dX11_above_188 : decode cX11_above 188 = .ok (.invokevirtual 203, 3) := by decide +kernel
theorem dX11_above_191 : decode cX11_above 191 = .ok (.aload_n 0, 1) := by decide +kernel
theorem dX11_above_192 : decode cX11_above 192 = .ok (.iload 4, 2) := by decide +kernel
theorem dX11_above_194 : decode cX11_above 194 = .ok (.invokevirtual 157, 3) := by decide +kernel
theorem dX11_above_197 : decode cX11_above 197 = .ok (.ireturn, 1) := by decide +kernel
theorem dX11_levels_0 : decode cX11_levels 0 = .ok (.aload_n 0, 1) := by decide +kernel
theorem dX11_levels_1 : decode cX11_levels 1 = .ok (.iconst 0, 1) := by decide +kernel
theorem dX11_levels_2 : decode cX11_levels 2 = .ok (.putfield 85, 3) := by decide +kernel
theorem dX11_levels_5 : decode cX11_levels 5 = .ok (.iload_n 1, 1) := by decide +kernel
theorem dX11_levels_6 : decode cX11_levels 6 = .ok (.invokestatic 316, 3) := by decide +kernel
theorem dX11_levels_9 : decode cX11_levels 9 = .ok (.ifCond .eq 11, 3) := by decide +kernel
theorem dX11_levels_12 : decode cX11_levels 12 = .ok (.aload_n 0, 1) := by decide +kernel
theorem dX11_levels_13 : decode cX11_levels 13 = .ok (.iload_n 2, 1) := by decide +kernel
theorem dX11_levels_14 : decode cX11_levels 14 = .ok (.invokevirtual 173, 3) := by decide +kernel
theorem dX11_levels_17 : decode cX11_levels 17 = .ok (.ifCond .ne 9, 3) := by decide +kernel
theorem dX11_levels_20 : decode cX11_levels 20 = .ok (.aload_n 0, 1) := by decide +kernel
theorem dX11_levels_21 : decode cX11_levels 21 = .ok (.iconst 1, 1) := by decide +kernel
theorem dX11_levels_22 : decode cX11_levels 22 = .ok (.invokevirtual 147, 3) := by decide +kernel
theorem dX11_levels_25 : decode cX11_levels 25 = .ok (.ireturn, 1) := by decide +kernel
theorem dX11_levels_26 : decode cX11_levels 26 = .ok (.iload_n 3, 1) := by decide +kernel
theorem dX11_levels_27 : decode cX11_levels 27 = .ok (.iconst 2, 1) := by decide +kernel
theorem dX11_levels_28 : decode cX11_levels 28 = .ok (.bipush 64, 2) := by decide +kernel
theorem dX11_levels_30 : decode cX11_levels 30 = .ok (.invokestatic 106, 3) := by decide +kernel
theorem dX11_levels_33 : decode cX11_levels 33 = .ok (.ifCond .ne 9, 3) := by decide +kernel
theorem dX11_levels_36 : decode cX11_levels 36 = .ok (.aload_n 0, 1) := by decide +kernel
theorem dX11_levels_37 : decode cX11_levels 37 = .ok (.iconst 2, 1) := by decide +kernel
theorem dX11_levels_38 : decode cX11_levels 38 = .ok (.invokevirtual 147, 3) := by decide +kernel
theorem dX11_levels_41 : decode cX11_levels 41 = .ok (.ireturn, 1) := by decide +kernel
theorem dX11_levels_42 : decode cX11_levels 42 = .ok (.aload_n 0, 1) := by decide +kernel
theorem dX11_levels_43 : decode cX11_levels 43 = .ok (.aload_n 0, 1) := by decide +kernel
theorem dX11_levels_44 : decode cX11_levels 44 = .ok (.iload_n 2, 1) := by decide +kernel
theorem dX11_levels_45 : decode cX11_levels 45 = .ok (.invokevirtual 170, 3) := by decide +kernel
theorem dX11_levels_48 : decode cX11_levels 48 = .ok (.aload_n 0, 1) := by decide +kernel
theorem dX11_levels_49 : decode cX11_levels 49 = .ok (.iload_n 2, 1) := by decide +kernel
theorem dX11_levels_50 : decode cX11_levels 50 = .ok (.invokevirtual 176, 3) := by decide +kernel
theorem dX11_levels_53 : decode cX11_levels 53 = .ok (.invokevirtual 200, 3) := by decide +kernel
theorem dX11_levels_56 : decode cX11_levels 56 = .ok (.iconst 0, 1) := by decide +kernel
theorem dX11_levels_57 : decode cX11_levels 57 = .ok (.istore 4, 2) := by decide +kernel
theorem dX11_levels_59 : decode cX11_levels 59 = .ok (.iload 4, 2) := by decide +kernel
theorem dX11_levels_61 : decode cX11_levels 61 = .ok (.aload_n 0, 1) := by decide +kernel
theorem dX11_levels_62 : decode cX11_levels 62 = .ok (.iload_n 2, 1) := by decide +kernel
theorem dX11_levels_63 : decode cX11_levels 63 = .ok (.invokevirtual 176, 3) := by decide +kernel
theorem dX11_levels_66 : decode cX11_levels 66 = .ok (.if_icmp .ge 61, 3) := by decide +kernel
theorem dX11_levels_69 : decode cX11_levels 69 = .ok (.iconst 0, 1) := by decide +kernel
theorem dX11_levels_70 : decode cX11_levels 70 = .ok (.istore 5, 2) := by decide +kernel
theorem dX11_levels_72 : decode cX11_levels 72 = .ok (.iload 5, 2) := by decide +kernel
theorem dX11_levels_74 : decode cX11_levels 74 = .ok (.aload_n 0, 1) := by decide +kernel
theorem dX11_levels_75 : decode cX11_levels 75 = .ok (.iload_n 2, 1) := by decide +kernel
theorem dX11_levels_76 : decode cX11_levels 76 = .ok (.invokevirtual 170, 3) := by decide +kernel
theorem dX11_levels_79 : decode cX11_levels 79 = .ok (.if_icmp .ge 42, 3) := by decide +kernel
theorem dX11_levels_82 : decode cX11_levels 82 = .ok (.aload_n 0, 1) := by decide +kernel
theorem dX11_levels_83 : decode cX11_levels 83 = .ok (.bipush 6, 2) := by decide +kernel
theorem dX11_levels_85 : decode cX11_levels 85 = .ok (.iload 5, 2) := by decide +kernel
theorem dX11_levels_87 : decode cX11_levels 87 = .ok (.iload 4, 2) := by decide +kernel
theorem dX11_levels_89 : decode cX11_levels 89 = .ok (.sipush 255, 3) := by decide +kernel
theorem dX11_levels_92 : decode cX11_levels 92 = .ok (.aload_n 0, 1) := by decide +kernel
theorem dX11_levels_93 : decode cX11_levels 93 = .ok (.iload_n 2, 1) := by decide +kernel
theorem dX11_levels_94 : decode cX11_levels 94 = .ok (.iload 5, 2) := by decide +kernel
theorem dX11_levels_96 : decode cX11_levels 96 = .ok (.iload 4, 2) := by decide +kernel
theorem dX11_levels_98 : decode cX11_levels 98 = .ok (.invokevirtual 182, 3) := by decide +kernel
theorem dX11_levels_101 : decode cX11_levels 101 = .ok (.iload_n 3, 1) := by decide +kernel
theorem dX11_levels_102 : decode cX11_levels 102 = .ok (.imul, 1) := by decide +kernel
theorem dX11_levels_103 : decode cX11_levels 103 = .ok (.sipush 256, 3) := by decide +kernel
theorem dX11_levels_106 : decode cX11_levels 106 = .ok (.idiv, 1) := by decide +kernel
theorem dX11_levels_107 : decode cX11_levels 107 = .ok (.imul, 1) := by decide +kernel
theorem dX11_levels_108 : decode cX11_levels 108 = .ok (.iload_n 3, 1) := by decide +kernel
theorem dX11_levels_109 : decode cX11_levels 109 = .ok (.iconst 1, 1) := by decide +kernel
theorem dX11_levels_110 : decode cX11_levels 110 = .ok (.isub, 1) := by decide +kernel
theorem dX11_levels_111 : decode cX11_levels 111 = .ok (.idiv, 1) := by decide +kernel
theorem dX11_levels_112 : decode cX11_levels 112 = .ok (.invokevirtual 193, 3) := by decide +kernel
theorem dX11_levels_115 : decode cX11_levels 115 = .ok (.iinc 5 1, 3) := by decide +kernel
theorem dX11_levels_118 : decode cX11_levels 118 = .ok (.goto (-46), 3) := by decide +kernel
theorem dX11_levels_121 : decode cX11_levels 121 = .ok (.iinc 4 1, 3) := by decide +kernel
theorem dX11_levels_124 : decode cX11_levels 124 = .ok (.goto (-65), 3) := by decide +kernel
theorem dX11_levels_127 : decode cX11_levels 127 = .ok (.aload_n 0, 1) := by decide +kernel
theorem dX11_levels_128 : decode cX11_levels 128 = .ok (.iload_n 1, 1) := by decide +kernel
theorem dX11_levels_129 : decode cX11_levels 129 = .ok (.iload_n 2, 1) := by decide +kernel
theorem dX11_levels_130 : decode cX11_levels 130 = .ok (.invokevirtual 322, 3) := by decide +kernel
theorem dX11_levels_133 : decode cX11_levels 133 = .ok (.ireturn, 1) := by decide +kernel
theorem dX11_endOf_0 : decode cX11_endOf 0 = .ok (.aload_n 0, 1) := by decide +kernel
theorem dX11_endOf_1 : decode cX11_endOf 1 = .ok (.iload_n 1, 1) := by decide +kernel
theorem dX11_endOf_2 : decode cX11_endOf 2 = .ok (.iconst 0, 1) := by decide +kernel
theorem dX11_endOf_3 : decode cX11_endOf 3 = .ok (.iconst 0, 1) := by decide +kernel
theorem dX11_endOf_4 : decode cX11_endOf 4 = .ok (.invokevirtual 182, 3) := by decide +kernel
theorem dX11_endOf_7 : decode cX11_endOf 7 = .ok (.istore_n 3, 1) := by decide +kernel
theorem dX11_endOf_8 : decode cX11_endOf 8 = .ok (.iconst 0, 1) := by decide +kernel
theorem dX11_endOf_9 : decode cX11_endOf 9 = .ok (.istore 4, 2) := by decide +kernel
theorem dX11_endOf_11 : decode cX11_endOf 11 = .ok (.iload 4, 2) := by decide +kernel
theorem dX11_endOf_13 : decode cX11_endOf 13 = .ok (.aload_n 0, 1) := by decide +kernel
theorem dX11_endOf_14 : decode cX11_endOf 14 = .ok (.iload_n 1, 1) := by decide +kernel
theorem dX11_endOf_15 : decode cX11_endOf 15 = .ok (.invokevirtual 176, 3) := by decide +kernel
theorem dX11_endOf_18 : decode cX11_endOf 18 = .ok (.if_icmp .ge 71, 3) := by decide +kernel
theorem dX11_endOf_21 : decode cX11_endOf 21 = .ok (.iconst 0, 1) := by decide +kernel
theorem dX11_endOf_22 : decode cX11_endOf 22 = .ok (.istore 5, 2) := by decide +kernel
theorem dX11_endOf_24 : decode cX11_endOf 24 = .ok (.iload 5, 2) := by decide +kernel
theorem dX11_endOf_26 : decode cX11_endOf 26 = .ok (.aload_n 0, 1) := by decide +kernel
theorem dX11_endOf_27 : decode cX11_endOf 27 = .ok (.iload_n 1, 1) := by decide +kernel
theorem dX11_endOf_28 : decode cX11_endOf 28 = .ok (.invokevirtual 170, 3) := by decide +kernel
theorem dX11_endOf_31 : decode cX11_endOf 31 = .ok (.if_icmp .ge 52, 3) := by decide +kernel
theorem dX11_endOf_34 : decode cX11_endOf 34 = .ok (.iload_n 2, 1) := by decide +kernel
theorem dX11_endOf_35 : decode cX11_endOf 35 = .ok (.ifCond .eq 19, 3) := by decide +kernel
theorem dX11_endOf_38 : decode cX11_endOf 38 = .ok (.aload_n 0, 1) := by decide +kernel
theorem dX11_endOf_39 : decode cX11_endOf 39 = .ok (.iload_n 1, 1) := by decide +kernel
theorem dX11_endOf_40 : decode cX11_endOf 40 = .ok (.iload 5, 2) := by decide +kernel
theorem dX11_endOf_42 : decode cX11_endOf 42 = .ok (.iload 4, 2) := by decide +kernel
theorem dX11_endOf_44 : decode cX11_endOf 44 = .ok (.invokevirtual 182, 3) := by decide +kernel
theorem dX11_endOf_47 : decode cX11_endOf 47 = .ok (.iload_n 3, 1) := by decide +kernel
theorem dX11_endOf_48 : decode cX11_endOf 48 = .ok (.if_icmp .le 29, 3) := by decide +kernel
theorem dX11_endOf_51 : decode cX11_endOf 51 = .ok (.goto 16, 3) := by decide +kernel
theorem dX11_endOf_54 : decode cX11_endOf 54 = .ok (.aload_n 0, 1) := by decide +kernel
theorem dX11_endOf_55 : decode cX11_endOf 55 = .ok (.iload_n 1, 1) := by decide +kernel
theorem dX11_endOf_56 : decode cX11_endOf 56 = .ok (.iload 5, 2) := by decide +kernel
theorem dX11_endOf_58 : decode cX11_endOf 58 = .ok (.iload 4, 2) := by decide +kernel
theorem dX11_endOf_60 : decode cX11_endOf 60 = .ok (.invokevirtual 182, 3) := by decide +kernel
theorem dX11_endOf_63 : decode cX11_endOf 63 = .ok (.iload_n 3, 1) := by decide +kernel
theorem dX11_endOf_64 : decode cX11_endOf 64 = .ok (.if_icmp .ge 13, 3) := by decide +kernel
theorem dX11_endOf_67 : decode cX11_endOf 67 = .ok (.aload_n 0, 1) := by decide +kernel
theorem dX11_endOf_68 : decode cX11_endOf 68 = .ok (.iload_n 1, 1) := by decide +kernel
theorem dX11_endOf_69 : decode cX11_endOf 69 = .ok (.iload 5, 2) := by decide +kernel
theorem dX11_endOf_71 : decode cX11_endOf 71 = .ok (.iload 4, 2) := by decide +kernel
theorem dX11_endOf_73 : decode cX11_endOf 73 = .ok (.invokevirtual 182, 3) := by decide +kernel
theorem dX11_endOf_76 : decode cX11_endOf 76 = .ok (.istore_n 3, 1) := by decide +kernel
theorem dX11_endOf_77 : decode cX11_endOf 77 = .ok (.iinc 5 1, 3) := by decide +kernel
theorem dX11_endOf_80 : decode cX11_endOf 80 = .ok (.goto (-56), 3) := by decide +kernel
theorem dX11_endOf_83 : decode cX11_endOf 83 = .ok (.iinc 4 1, 3) := by decide +kernel
theorem dX11_endOf_86 : decode cX11_endOf 86 = .ok (.goto (-75), 3) := by decide +kernel
theorem dX11_endOf_89 : decode cX11_endOf 89 = .ok (.iload_n 3, 1) := by decide +kernel
theorem dX11_endOf_90 : decode cX11_endOf 90 = .ok (.ireturn, 1) := by decide +kernel
theorem dX11_stretch_0 : decode cX11_stretch 0 = .ok (.aload_n 0, 1) := by decide +kernel
theorem dX11_stretch_1 : decode cX11_stretch 1 = .ok (.iconst 0, 1) := by decide +kernel
theorem dX11_stretch_2 : decode cX11_stretch 2 = .ok (.putfield 85, 3) := by decide +kernel
theorem dX11_stretch_5 : decode cX11_stretch 5 = .ok (.iload_n 1, 1) := by decide +kernel
theorem dX11_stretch_6 : decode cX11_stretch 6 = .ok (.invokestatic 316, 3) := by decide +kernel
theorem dX11_stretch_9 : decode cX11_stretch 9 = .ok (.ifCond .eq 11, 3) := by decide +kernel
theorem dX11_stretch_12 : decode cX11_stretch 12 = .ok (.aload_n 0, 1) := by decide +kernel
theorem dX11_stretch_13 : decode cX11_stretch 13 = .ok (.iload_n 2, 1) := by decide +kernel
theorem dX11_stretch_14 : decode cX11_stretch 14 = .ok (.invokevirtual 173, 3) := by decide +kernel
theorem dX11_stretch_17 : decode cX11_stretch 17 = .ok (.ifCond .ne 9, 3) := by decide +kernel
theorem dX11_stretch_20 : decode cX11_stretch 20 = .ok (.aload_n 0, 1) := by decide +kernel
theorem dX11_stretch_21 : decode cX11_stretch 21 = .ok (.iconst 1, 1) := by decide +kernel
theorem dX11_stretch_22 : decode cX11_stretch 22 = .ok (.invokevirtual 147, 3) := by decide +kernel
theorem dX11_stretch_25 : decode cX11_stretch 25 = .ok (.ireturn, 1) := by decide +kernel
theorem dX11_stretch_26 : decode cX11_stretch 26 = .ok (.aload_n 0, 1) := by decide +kernel
theorem dX11_stretch_27 : decode cX11_stretch 27 = .ok (.iload_n 2, 1) := by decide +kernel
theorem dX11_stretch_28 : decode cX11_stretch 28 = .ok (.iconst 0, 1) := by decide +kernel
theorem dX11_stretch_29 : decode cX11_stretch 29 = .ok (.invokevirtual 327, 3) := by decide +kernel
theorem dX11_stretch_32 : decode cX11_stretch 32 = .ok (.istore_n 3, 1) := by decide +kernel
theorem dX11_stretch_33 : decode cX11_stretch 33 = .ok (.aload_n 0, 1) := by decide +kernel
theorem dX11_stretch_34 : decode cX11_stretch 34 = .ok (.iload_n 2, 1) := by decide +kernel
theorem dX11_stretch_35 : decode cX11_stretch 35 = .ok (.iconst 1, 1) := by decide +kernel
theorem dX11_stretch_36 : decode cX11_stretch 36 = .ok (.invokevirtual 327, 3) := by decide +kernel
theorem dX11_stretch_39 : decode cX11_stretch 39 = .ok (.istore 4, 2) := by decide +kernel
theorem dX11_stretch_41 : decode cX11_stretch 41 = .ok (.iload_n 3, 1) := by decide +kernel
theorem dX11_stretch_42 : decode cX11_stretch 42 = .ok (.iload 4, 2) := by decide +kernel
theorem dX11_stretch_44 : decode cX11_stretch 44 = .ok (.if_icmp .ne 9, 3) := by decide +kernel
theorem dX11_stretch_47 : decode cX11_stretch 47 = .ok (.aload_n 0, 1) := by decide +kernel
theorem dX11_stretch_48 : decode cX11_stretch 48 = .ok (.iconst 5, 1) := by decide +kernel
theorem dX11_stretch_49 : decode cX11_stretch 49 = .ok (.invokevirtual 147, 3) := by decide +kernel
theorem dX11_stretch_52 : decode cX11_stretch 52 = .ok (.ireturn, 1) := by decide +kernel
theorem dX11_stretch_53 : decode cX11_stretch 53 = .ok (.aload_n 0, 1) := by decide +kernel
theorem dX11_stretch_54 : decode cX11_stretch 54 = .ok (.aload_n 0, 1) := by decide +kernel
theorem dX11_stretch_55 : decode cX11_stretch 55 = .ok (.iload_n 2, 1) := by decide +kernel
theorem dX11_stretch_56 : decode cX11_stretch 56 = .ok (.invokevirtual 170, 3) := by decide +kernel
theorem dX11_stretch_59 : decode cX11_stretch 59 = .ok (.aload_n 0, 1) := by decide +kernel
theorem dX11_stretch_60 : decode cX11_stretch 60 = .ok (.iload_n 2, 1) := by decide +kernel
theorem dX11_stretch_61 : decode cX11_stretch 61 = .ok (.invokevirtual 176, 3) := by decide +kernel
theorem dX11_stretch_64 : decode cX11_stretch 64 = .ok (.invokevirtual 200, 3) := by decide +kernel
theorem dX11_stretch_67 : decode cX11_stretch 67 = .ok (.iconst 0, 1) := by decide +kernel
theorem dX11_stretch_68 : decode cX11_stretch 68 = .ok (.istore 5, 2) := by decide +kernel
theorem dX11_stretch_70 : decode cX11_stretch 70 = .ok (.iload 5, 2) := by decide +kernel
theorem dX11_stretch_72 : decode cX11_stretch 72 = .ok (.aload_n 0, 1) := by decide +kernel
theorem dX11_stretch_73 : decode cX11_stretch 73 = .ok (.iload_n 2, 1) := by decide +kernel
theorem dX11_stretch_74 : decode cX11_stretch 74 = .ok (.invokevirtual 176, 3) := by decide +kernel
theorem dX11_stretch_77 : decode cX11_stretch 77 = .ok (.if_icmp .ge 58, 3) := by decide +kernel
theorem dX11_stretch_80 : decode cX11_stretch 80 = .ok (.iconst 0, 1) := by decide +kernel
theorem dX11_stretch_81 : decode cX11_stretch 81 = .ok (.istore 6, 2) := by decide +kernel
theorem dX11_stretch_83 : decode cX11_stretch 83 = .ok (.iload 6, 2) := by decide +kernel
theorem dX11_stretch_85 : decode cX11_stretch 85 = .ok (.aload_n 0, 1) := by decide +kernel
theorem dX11_stretch_86 : decode cX11_stretch 86 = .ok (.iload_n 2, 1) := by decide +kernel
theorem dX11_stretch_87 : decode cX11_stretch 87 = .ok (.invokevirtual 170, 3) := by decide +kernel
theorem dX11_stretch_90 : decode cX11_stretch 90 = .ok (.if_icmp .ge 39, 3) := by decide +kernel
theorem dX11_stretch_93 : decode cX11_stretch 93 = .ok (.aload_n 0, 1) := by decide +kernel
theorem dX11_stretch_94 : decode cX11_stretch 94 = .ok (.bipush 6, 2) := by decide +kernel
theorem dX11_stretch_96 : decode cX11_stretch 96 = .ok (.iload 6, 2) := by decide +kernel
theorem dX11_stretch_98 : decode cX11_stretch 98 = .ok (.iload 5, 2) := by decide +kernel
theorem dX11_stretch_100 : decode cX11_stretch 100 = .ok (.sipush 255, 3) := by decide +kernel
theorem dX11_stretch_103 : decode cX11_stretch 103 = .ok (.aload_n 0, 1) := by decide +kernel
theorem dX11_stretch_104 : decode cX11_stretch 104 = .ok (.iload_n 2, 1) := by decide +kernel
theorem dX11_stretch_105 : decode cX11_stretch 105 = .ok (.iload 6, 2) := by decide +kernel
theorem dX11_stretch_107 : decode cX11_stretch 107 = .ok (.iload 5, 2) := by decide +kernel
theorem dX11_stretch_109 : decode cX11_stretch 109 = .ok (.invokevirtual 182, 3) := by decide +kernel
theorem dX11_stretch_112 : decode cX11_stretch 112 = .ok (.iload_n 3, 1) := by decide +kernel
theorem dX11_stretch_113 : decode cX11_stretch 113 = .ok (.isub, 1) := by decide +kernel
theorem dX11_stretch_114 : decode cX11_stretch 114 = .ok (.imul, 1) := by decide +kernel
theorem dX11_stretch_115 : decode cX11_stretch 115 = .ok (.iload 4, 2) := by decide +kernel
theorem dX11_stretch_117 : decode cX11_stretch 117 = .ok (.iload_n 3, 1) := by decide +kernel
theorem dX11_stretch_118 : decode cX11_stretch 118 = .ok (.isub, 1) := by decide +kernel
theorem dX11_stretch_119 : decode cX11_stretch 119 = .ok (.idiv, 1) := by decide +kernel
theorem dX11_stretch_120 : decode cX11_stretch 120 = .ok (.invokevirtual 193, 3) := by decide +kernel
theorem dX11_stretch_123 : decode cX11_stretch 123 = .ok (.iinc 6 1, 3) := by decide +kernel
theorem dX11_stretch_126 : decode cX11_stretch 126 = .ok (.goto (-43), 3) := by decide +kernel
theorem dX11_stretch_129 : decode cX11_stretch 129 = .ok (.iinc 5 1, 3) := by decide +kernel
theorem dX11_stretch_132 : decode cX11_stretch 132 = .ok (.goto (-62), 3) := by decide +kernel
theorem dX11_stretch_135 : decode cX11_stretch 135 = .ok (.aload_n 0, 1) := by decide +kernel
theorem dX11_stretch_136 : decode cX11_stretch 136 = .ok (.iload_n 1, 1) := by decide +kernel
theorem dX11_stretch_137 : decode cX11_stretch 137 = .ok (.iload_n 2, 1) := by decide +kernel
theorem dX11_stretch_138 : decode cX11_stretch 138 = .ok (.invokevirtual 322, 3) := by decide +kernel
theorem dX11_stretch_141 : decode cX11_stretch 141 = .ok (.ireturn, 1) := by decide +kernel
theorem dX11_larger_0 : decode cX11_larger 0 = .ok (.aload_n 0, 1) := by decide +kernel
theorem dX11_larger_1 : decode cX11_larger 1 = .ok (.iconst 0, 1) := by decide +kernel
theorem dX11_larger_2 : decode cX11_larger 2 = .ok (.putfield 85, 3) := by decide +kernel
theorem dX11_larger_5 : decode cX11_larger 5 = .ok (.iload_n 1, 1) := by decide +kernel
theorem dX11_larger_6 : decode cX11_larger 6 = .ok (.invokestatic 316, 3) := by decide +kernel
theorem dX11_larger_9 : decode cX11_larger 9 = .ok (.ifCond .eq 11, 3) := by decide +kernel
theorem dX11_larger_12 : decode cX11_larger 12 = .ok (.aload_n 0, 1) := by decide +kernel
theorem dX11_larger_13 : decode cX11_larger 13 = .ok (.iload_n 2, 1) := by decide +kernel
theorem dX11_larger_14 : decode cX11_larger 14 = .ok (.invokevirtual 173, 3) := by decide +kernel
theorem dX11_larger_17 : decode cX11_larger 17 = .ok (.ifCond .ne 9, 3) := by decide +kernel
theorem dX11_larger_20 : decode cX11_larger 20 = .ok (.aload_n 0, 1) := by decide +kernel
theorem dX11_larger_21 : decode cX11_larger 21 = .ok (.iconst 1, 1) := by decide +kernel
theorem dX11_larger_22 : decode cX11_larger 22 = .ok (.invokevirtual 197, 3) := by decide +kernel
theorem dX11_larger_25 : decode cX11_larger 25 = .ok (.ireturn, 1) := by decide +kernel
theorem dX11_larger_26 : decode cX11_larger 26 = .ok (.iload_n 3, 1) := by decide +kernel
theorem dX11_larger_27 : decode cX11_larger 27 = .ok (.iconst 2, 1) := by decide +kernel
theorem dX11_larger_28 : decode cX11_larger 28 = .ok (.iconst 4, 1) := by decide +kernel
theorem dX11_larger_29 : decode cX11_larger 29 = .ok (.invokestatic 106, 3) := by decide +kernel
theorem dX11_larger_32 : decode cX11_larger 32 = .ok (.ifCond .ne 9, 3) := by decide +kernel
theorem dX11_larger_35 : decode cX11_larger 35 = .ok (.aload_n 0, 1) := by decide +kernel
theorem dX11_larger_36 : decode cX11_larger 36 = .ok (.iconst 2, 1) := by decide +kernel
theorem dX11_larger_37 : decode cX11_larger 37 = .ok (.invokevirtual 197, 3) := by decide +kernel
theorem dX11_larger_40 : decode cX11_larger 40 = .ok (.ireturn, 1) := by decide +kernel
theorem dX11_larger_41 : decode cX11_larger 41 = .ok (.aload_n 0, 1) := by decide +kernel
theorem dX11_larger_42 : decode cX11_larger 42 = .ok (.iload_n 2, 1) := by decide +kernel
theorem dX11_larger_43 : decode cX11_larger 43 = .ok (.invokevirtual 170, 3) := by decide +kernel
theorem dX11_larger_46 : decode cX11_larger 46 = .ok (.iload_n 3, 1) := by decide +kernel
theorem dX11_larger_47 : decode cX11_larger 47 = .ok (.imul, 1) := by decide +kernel
theorem dX11_larger_48 : decode cX11_larger 48 = .ok (.bipush 16, 2) := by decide +kernel
theorem dX11_larger_50 : decode cX11_larger 50 = .ok (.if_icmp .gt 15, 3) := by decide +kernel
theorem dX11_larger_53 : decode cX11_larger 53 = .ok (.aload_n 0, 1) := by decide +kernel
theorem dX11_larger_54 : decode cX11_larger 54 = .ok (.iload_n 2, 1) := by decide +kernel
theorem dX11_larger_55 : decode cX11_larger 55 = .ok (.invokevirtual 176, 3) := by decide +kernel
theorem dX11_larger_58 : decode cX11_larger 58 = .ok (.iload_n 3, 1) := by decide +kernel
theorem dX11_larger_59 : decode cX11_larger 59 = .ok (.imul, 1) := by decide +kernel
theorem dX11_larger_60 : decode cX11_larger 60 = .ok (.bipush 12, 2) := by decide +kernel
theorem dX11_larger_62 : decode cX11_larger 62 = .ok (.if_icmp .le 9, 3) := by decide +kernel
theorem dX11_larger_65 : decode cX11_larger 65 = .ok (.aload_n 0, 1) := by decide +kernel
theorem dX11_larger_66 : decode cX11_larger 66 = .ok (.iconst 3, 1) := by decide +kernel
theorem dX11_larger_67 : decode cX11_larger 67 = .ok (.invokevirtual 197, 3) := by decide +kernel
theorem dX11_larger_70 : decode cX11_larger 70 = .ok (.ireturn, 1) := by decide +kernel
theorem dX11_larger_71 : decode cX11_larger 71 = .ok (.aload_n 0, 1) := by decide +kernel
theorem dX11_larger_72 : decode cX11_larger 72 = .ok (.aload_n 0, 1) := by decide +kernel
theorem dX11_larger_73 : decode cX11_larger 73 = .ok (.iload_n 2, 1) := by decide +kernel
theorem dX11_larger_74 : decode cX11_larger 74 = .ok (.invokevirtual 170, 3) := by decide +kernel
theorem dX11_larger_77 : decode cX11_larger 77 = .ok (.iload_n 3, 1) := by decide +kernel
theorem dX11_larger_78 : decode cX11_larger 78 = .ok (.imul, 1) := by decide +kernel
theorem dX11_larger_79 : decode cX11_larger 79 = .ok (.aload_n 0, 1) := by decide +kernel
theorem dX11_larger_80 : decode cX11_larger 80 = .ok (.iload_n 2, 1) := by decide +kernel
theorem dX11_larger_81 : decode cX11_larger 81 = .ok (.invokevirtual 176, 3) := by decide +kernel
theorem dX11_larger_84 : decode cX11_larger 84 = .ok (.iload_n 3, 1) := by decide +kernel
theorem dX11_larger_85 : decode cX11_larger 85 = .ok (.imul, 1) := by decide +kernel
theorem dX11_larger_86 : decode cX11_larger 86 = .ok (.invokevirtual 200, 3) := by decide +kernel
theorem dX11_larger_89 : decode cX11_larger 89 = .ok (.iconst 0, 1) := by decide +kernel
theorem dX11_larger_90 : decode cX11_larger 90 = .ok (.istore 4, 2) := by decide +kernel
theorem dX11_larger_92 : decode cX11_larger 92 = .ok (.iload 4, 2) := by decide +kernel
theorem dX11_larger_94 : decode cX11_larger 94 = .ok (.aload_n 0, 1) := by decide +kernel
theorem dX11_larger_95 : decode cX11_larger 95 = .ok (.bipush 6, 2) := by decide +kernel
theorem dX11_larger_97 : decode cX11_larger 97 = .ok (.invokevirtual 176, 3) := by decide +kernel
theorem dX11_larger_100 : decode cX11_larger 100 = .ok (.if_icmp .ge 52, 3) := by decide +kernel
theorem dX11_larger_103 : decode cX11_larger 103 = .ok (.iconst 0, 1) := by decide +kernel
theorem dX11_larger_104 : decode cX11_larger 104 = .ok (.istore 5, 2) := by decide +kernel
theorem dX11_larger_106 : decode cX11_larger 106 = .ok (.iload 5, 2) := by decide +kernel
theorem dX11_larger_108 : decode cX11_larger 108 = .ok (.aload_n 0, 1) := by decide +kernel
theorem dX11_larger_109 : decode cX11_larger 109 = .ok (.bipush 6, 2) := by decide +kernel
theorem dX11_larger_111 : decode cX11_larger 111 = .ok (.invokevirtual 170, 3) := by decide +kernel
theorem dX11_larger_114 : decode cX11_larger 114 = .ok (.if_icmp .ge 32, 3) := by decide +kernel
theorem dX11_larger_117 : decode cX11_larger 117 = .ok (.aload_n 0, 1) := by decide +kernel
theorem dX11_larger_118 : decode cX11_larger 118 = .ok (.bipush 6, 2) := by decide +kernel
theorem dX11_larger_120 : decode cX11_larger 120 = .ok (.iload 5, 2) := by decide +kernel
theorem dX11_larger_122 : decode cX11_larger 122 = .ok (.iload 4, 2) := by decide +kernel
theorem dX11_larger_124 : decode cX11_larger 124 = .ok (.aload_n 0, 1) := by decide +kernel
theorem dX11_larger_125 : decode cX11_larger 125 = .ok (.iload_n 2, 1) := by decide +kernel
theorem dX11_larger_126 : decode cX11_larger 126 = .ok (.iload 5, 2) := by decide +kernel
theorem dX11_larger_128 : decode cX11_larger 128 = .ok (.iload_n 3, 1) := by decide +kernel
theorem dX11_larger_129 : decode cX11_larger 129 = .ok (.idiv, 1) := by decide +kernel
theorem dX11_larger_130 : decode cX11_larger 130 = .ok (.iload 4, 2) := by decide +kernel
theorem dX11_larger_132 : decode cX11_larger 132 = .ok (.iload_n 3, 1) := by decide +kernel
theorem dX11_larger_133 : decode cX11_larger 133 = .ok (.idiv, 1) := by decide +kernel
theorem dX11_larger_134 : decode cX11_larger 134 = .ok (.invokevirtual 182, 3) := by decide +kernel
theorem dX11_larger_137 : decode cX11_larger 137 = .ok (.invokevirtual 193, 3) := by decide +kernel
theorem dX11_larger_140 : decode cX11_larger 140 = .ok (.iinc 5 1, 3) := by decide +kernel
theorem dX11_larger_143 : decode cX11_larger 143 = .ok (.goto (-37), 3) := by decide +kernel
theorem dX11_larger_146 : decode cX11_larger 146 = .ok (.iinc 4 1, 3) := by decide +kernel
theorem dX11_larger_149 : decode cX11_larger 149 = .ok (.goto (-57), 3) := by decide +kernel
theorem dX11_larger_152 : decode cX11_larger 152 = .ok (.aload_n 0, 1) := by decide +kernel
theorem dX11_larger_153 : decode cX11_larger 153 = .ok (.iload_n 1, 1) := by decide +kernel
theorem dX11_larger_154 : decode cX11_larger 154 = .ok (.invokevirtual 203, 3) := by decide +kernel
theorem dX11_larger_157 : decode cX11_larger 157 = .ok (.aload_n 0, 1) := by decide +kernel
theorem dX11_larger_158 : decode cX11_larger 158 = .ok (.iconst 0, 1) := by decide +kernel
theorem dX11_larger_159 : decode cX11_larger 159 = .ok (.invokevirtual 197, 3) := by decide +kernel
theorem dX11_larger_162 : decode cX11_larger 162 = .ok (.ireturn, 1) := by decide +kernel
