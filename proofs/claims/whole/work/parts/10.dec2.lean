theorem dX1_isMade_0 : decode cX1_isMade 0 = .ok (.aload_n 0, 1) := by decide +kernel
theorem dX1_isMade_1 : decode cX1_isMade 1 = .ok (.getfield 31, 3) := by decide +kernel
theorem dX1_isMade_4 : decode cX1_isMade 4 = .ok (.ifCond .le 7, 3) := by decide +kernel
theorem dX1_isMade_7 : decode cX1_isMade 7 = .ok (.iconst 1, 1) := by decide +kernel
theorem dX1_isMade_8 : decode cX1_isMade 8 = .ok (.goto 4, 3) := by decide +kernel
theorem dX1_isMade_11 : decode cX1_isMade 11 = .ok (.iconst 0, 1) := by decide +kernel
theorem dX1_isMade_12 : decode cX1_isMade 12 = .ok (.ireturn, 1) := by decide +kernel
theorem dX1_forget_0 : decode cX1_forget 0 = .ok (.aload_n 0, 1) := by decide +kernel
theorem dX1_forget_1 : decode cX1_forget 1 = .ok (.iconst 0, 1) := by decide +kernel
theorem dX1_forget_2 : decode cX1_forget 2 = .ok (.putfield 31, 3) := by decide +kernel
theorem dX1_forget_5 : decode cX1_forget 5 = .ok (.return_, 1) := by decide +kernel
theorem dX1_spread_0 : decode cX1_spread 0 = .ok (.aload_n 0, 1) := by decide +kernel
theorem dX1_spread_1 : decode cX1_spread 1 = .ok (.getfield 12, 3) := by decide +kernel
theorem dX1_spread_4 : decode cX1_spread 4 = .ok (.aload_n 1, 1) := by decide +kernel
theorem dX1_spread_5 : decode cX1_spread 5 = .ok (.invokevirtual 35, 3) := by decide +kernel
theorem dX1_spread_8 : decode cX1_spread 8 = .ok (.aload_n 0, 1) := by decide +kernel
theorem dX1_spread_9 : decode cX1_spread 9 = .ok (.getfield 18, 3) := by decide +kernel
theorem dX1_spread_12 : decode cX1_spread 12 = .ok (.aload_n 2, 1) := by decide +kernel
theorem dX1_spread_13 : decode cX1_spread 13 = .ok (.invokevirtual 35, 3) := by decide +kernel
theorem dX1_spread_16 : decode cX1_spread 16 = .ok (.aload_n 0, 1) := by decide +kernel
theorem dX1_spread_17 : decode cX1_spread 17 = .ok (.iload_n 3, 1) := by decide +kernel
theorem dX1_spread_18 : decode cX1_spread 18 = .ok (.putfield 31, 3) := by decide +kernel
theorem dX1_spread_21 : decode cX1_spread 21 = .ok (.aload_n 0, 1) := by decide +kernel
theorem dX1_spread_22 : decode cX1_spread 22 = .ok (.iload 4, 2) := by decide +kernel
theorem dX1_spread_24 : decode cX1_spread 24 = .ok (.putfield 39, 3) := by decide +kernel
theorem dX1_spread_27 : decode cX1_spread 27 = .ok (.aload_n 0, 1) := by decide +kernel
theorem dX1_spread_28 : decode cX1_spread 28 = .ok (.getfield 21, 3) := by decide +kernel
theorem dX1_spread_31 : decode cX1_spread 31 = .ok (.iload 5, 2) := by decide +kernel
theorem dX1_spread_33 : decode cX1_spread 33 = .ok (.invokestatic 42, 3) := by decide +kernel
theorem dX1_spread_36 : decode cX1_spread 36 = .ok (.aload_n 0, 1) := by decide +kernel
theorem dX1_spread_37 : decode cX1_spread 37 = .ok (.invokevirtual 48, 3) := by decide +kernel
theorem dX1_spread_40 : decode cX1_spread 40 = .ok (.return_, 1) := by decide +kernel
theorem dX1_blurAlong_0 : decode cX1_blurAlong 0 = .ok (.iload_n 1, 1) := by decide +kernel
theorem dX1_blurAlong_1 : decode cX1_blurAlong 1 = .ok (.iconst 0, 1) := by decide +kernel
theorem dX1_blurAlong_2 : decode cX1_blurAlong 2 = .ok (.iconst 2, 1) := by decide +kernel
theorem dX1_blurAlong_3 : decode cX1_blurAlong 3 = .ok (.invokestatic 51, 3) := by decide +kernel
theorem dX1_blurAlong_6 : decode cX1_blurAlong 6 = .ok (.ifCond .eq 17, 3) := by decide +kernel
theorem dX1_blurAlong_9 : decode cX1_blurAlong 9 = .ok (.aload_n 0, 1) := by decide +kernel
theorem dX1_blurAlong_10 : decode cX1_blurAlong 10 = .ok (.getfield 21, 3) := by decide +kernel
theorem dX1_blurAlong_13 : decode cX1_blurAlong 13 = .ok (.iload_n 1, 1) := by decide +kernel
theorem dX1_blurAlong_14 : decode cX1_blurAlong 14 = .ok (.dup2, 1) := by decide +kernel
theorem dX1_blurAlong_15 : decode cX1_blurAlong 15 = .ok (.iaload, 1) := by decide +kernel
theorem dX1_blurAlong_16 : decode cX1_blurAlong 16 = .ok (.iconst 1, 1) := by decide +kernel
theorem dX1_blurAlong_17 : decode cX1_blurAlong 17 = .ok (.iadd, 1) := by decide +kernel
theorem dX1_blurAlong_18 : decode cX1_blurAlong 18 = .ok (.iastore, 1) := by decide +kernel
theorem dX1_blurAlong_19 : decode cX1_blurAlong 19 = .ok (.aload_n 0, 1) := by decide +kernel
theorem dX1_blurAlong_20 : decode cX1_blurAlong 20 = .ok (.invokevirtual 48, 3) := by decide +kernel
theorem dX1_blurAlong_23 : decode cX1_blurAlong 23 = .ok (.return_, 1) := by decide +kernel
theorem dX1_blursAlong_0 : decode cX1_blursAlong 0 = .ok (.iload_n 1, 1) := by decide +kernel
theorem dX1_blursAlong_1 : decode cX1_blursAlong 1 = .ok (.iconst 0, 1) := by decide +kernel
theorem dX1_blursAlong_2 : decode cX1_blursAlong 2 = .ok (.iconst 2, 1) := by decide +kernel
theorem dX1_blursAlong_3 : decode cX1_blursAlong 3 = .ok (.invokestatic 51, 3) := by decide +kernel
theorem dX1_blursAlong_6 : decode cX1_blursAlong 6 = .ok (.ifCond .eq 12, 3) := by decide +kernel
theorem dX1_blursAlong_9 : decode cX1_blursAlong 9 = .ok (.aload_n 0, 1) := by decide +kernel
theorem dX1_blursAlong_10 : decode cX1_blursAlong 10 = .ok (.getfield 21, 3) := by decide +kernel
theorem dX1_blursAlong_13 : decode cX1_blursAlong 13 = .ok (.iload_n 1, 1) := by decide +kernel
theorem dX1_blursAlong_14 : decode cX1_blursAlong 14 = .ok (.iaload, 1) := by decide +kernel
theorem dX1_blursAlong_15 : decode cX1_blursAlong 15 = .ok (.goto 4, 3) := by decide +kernel
theorem dX1_blursAlong_18 : decode cX1_blursAlong 18 = .ok (.iconst 0, 1) := by decide +kernel
theorem dX1_blursAlong_19 : decode cX1_blursAlong 19 = .ok (.ireturn, 1) := by decide +kernel
theorem dX1_hasDot_0 : decode cX1_hasDot 0 = .ok (.aload_n 0, 1) := by decide +kernel
theorem dX1_hasDot_1 : decode cX1_hasDot 1 = .ok (.invokevirtual 55, 3) := by decide +kernel
theorem dX1_hasDot_4 : decode cX1_hasDot 4 = .ok (.ifCond .eq 19, 3) := by decide +kernel
theorem dX1_hasDot_7 : decode cX1_hasDot 7 = .ok (.aload_n 0, 1) := by decide +kernel
theorem dX1_hasDot_8 : decode cX1_hasDot 8 = .ok (.getfield 12, 3) := by decide +kernel
theorem dX1_hasDot_11 : decode cX1_hasDot 11 = .ok (.iload_n 1, 1) := by decide +kernel
theorem dX1_hasDot_12 : decode cX1_hasDot 12 = .ok (.iload_n 2, 1) := by decide +kernel
theorem dX1_hasDot_13 : decode cX1_hasDot 13 = .ok (.invokevirtual 59, 3) := by decide +kernel
theorem dX1_hasDot_16 : decode cX1_hasDot 16 = .ok (.ifCond .eq 7, 3) := by decide +kernel
theorem dX1_hasDot_19 : decode cX1_hasDot 19 = .ok (.iconst 1, 1) := by decide +kernel
theorem dX1_hasDot_20 : decode cX1_hasDot 20 = .ok (.goto 4, 3) := by decide +kernel
theorem dX1_hasDot_23 : decode cX1_hasDot 23 = .ok (.iconst 0, 1) := by decide +kernel
theorem dX1_hasDot_24 : decode cX1_hasDot 24 = .ok (.ireturn, 1) := by decide +kernel
theorem dX1_nodeHolds_0 : decode cX1_nodeHolds 0 = .ok (.iload_n 1, 1) := by decide +kernel
theorem dX1_nodeHolds_1 : decode cX1_nodeHolds 1 = .ok (.bipush (-64), 2) := by decide +kernel
theorem dX1_nodeHolds_3 : decode cX1_nodeHolds 3 = .ok (.bipush 64, 2) := by decide +kernel
theorem dX1_nodeHolds_5 : decode cX1_nodeHolds 5 = .ok (.invokestatic 51, 3) := by decide +kernel
theorem dX1_nodeHolds_8 : decode cX1_nodeHolds 8 = .ok (.ifCond .eq 25, 3) := by decide +kernel
theorem dX1_nodeHolds_11 : decode cX1_nodeHolds 11 = .ok (.iload_n 2, 1) := by decide +kernel
theorem dX1_nodeHolds_12 : decode cX1_nodeHolds 12 = .ok (.bipush (-64), 2) := by decide +kernel
theorem dX1_nodeHolds_14 : decode cX1_nodeHolds 14 = .ok (.bipush 64, 2) := by decide +kernel
theorem dX1_nodeHolds_16 : decode cX1_nodeHolds 16 = .ok (.invokestatic 51, 3) := by decide +kernel
theorem dX1_nodeHolds_19 : decode cX1_nodeHolds 19 = .ok (.ifCond .eq 14, 3) := by decide +kernel
theorem dX1_nodeHolds_22 : decode cX1_nodeHolds 22 = .ok (.iload_n 3, 1) := by decide +kernel
theorem dX1_nodeHolds_23 : decode cX1_nodeHolds 23 = .ok (.bipush (-64), 2) := by decide +kernel
theorem dX1_nodeHolds_25 : decode cX1_nodeHolds 25 = .ok (.bipush 64, 2) := by decide +kernel
theorem dX1_nodeHolds_27 : decode cX1_nodeHolds 27 = .ok (.invokestatic 51, 3) := by decide +kernel
theorem dX1_nodeHolds_30 : decode cX1_nodeHolds 30 = .ok (.ifCond .ne 5, 3) := by decide +kernel
theorem dX1_nodeHolds_33 : decode cX1_nodeHolds 33 = .ok (.lconst 0, 1) := by decide +kernel
theorem dX1_nodeHolds_34 : decode cX1_nodeHolds 34 = .ok (.lreturn, 1) := by decide +kernel
theorem dX1_nodeHolds_35 : decode cX1_nodeHolds 35 = .ok (.lconst 0, 1) := by decide +kernel
theorem dX1_nodeHolds_36 : decode cX1_nodeHolds 36 = .ok (.lstore 5, 2) := by decide +kernel
theorem dX1_nodeHolds_38 : decode cX1_nodeHolds 38 = .ok (.iconst 0, 1) := by decide +kernel
theorem dX1_nodeHolds_39 : decode cX1_nodeHolds 39 = .ok (.istore 7, 2) := by decide +kernel
theorem dX1_nodeHolds_41 : decode cX1_nodeHolds 41 = .ok (.iload 7, 2) := by decide +kernel
theorem dX1_nodeHolds_43 : decode cX1_nodeHolds 43 = .ok (.aload_n 0, 1) := by decide +kernel
theorem dX1_nodeHolds_44 : decode cX1_nodeHolds 44 = .ok (.getfield 18, 3) := by decide +kernel
theorem dX1_nodeHolds_47 : decode cX1_nodeHolds 47 = .ok (.getfield 63, 3) := by decide +kernel
theorem dX1_nodeHolds_50 : decode cX1_nodeHolds 50 = .ok (.if_icmp .ge 128, 3) := by decide +kernel
theorem dX1_nodeHolds_53 : decode cX1_nodeHolds 53 = .ok (.iload 7, 2) := by decide +kernel
theorem dX1_nodeHolds_55 : decode cX1_nodeHolds 55 = .ok (.iload_n 2, 1) := by decide +kernel
theorem dX1_nodeHolds_56 : decode cX1_nodeHolds 56 = .ok (.aload_n 0, 1) := by decide +kernel
theorem dX1_nodeHolds_57 : decode cX1_nodeHolds 57 = .ok (.getfield 31, 3) := by decide +kernel
theorem dX1_nodeHolds_60 : decode cX1_nodeHolds 60 = .ok (.aload_n 0, 1) := by decide +kernel
theorem dX1_nodeHolds_61 : decode cX1_nodeHolds 61 = .ok (.getfield 21, 3) := by decide +kernel
theorem dX1_nodeHolds_64 : decode cX1_nodeHolds 64 = .ok (.iconst 1, 1) := by decide +kernel
theorem dX1_nodeHolds_65 : decode cX1_nodeHolds 65 = .ok (.iaload, 1) := by decide +kernel
theorem dX1_nodeHolds_66 : decode cX1_nodeHolds 66 = .ok (.invokestatic 66, 3) := by decide +kernel
theorem dX1_nodeHolds_69 : decode cX1_nodeHolds 69 = .ok (.i2l, 1) := by decide +kernel
theorem dX1_nodeHolds_70 : decode cX1_nodeHolds 70 = .ok (.lstore 8, 2) := by decide +kernel
theorem dX1_nodeHolds_72 : decode cX1_nodeHolds 72 = .ok (.iconst 0, 1) := by decide +kernel
theorem dX1_nodeHolds_73 : decode cX1_nodeHolds 73 = .ok (.istore 10, 2) := by decide +kernel
theorem dX1_nodeHolds_75 : decode cX1_nodeHolds 75 = .ok (.iload 10, 2) := by decide +kernel
theorem dX1_nodeHolds_77 : decode cX1_nodeHolds 77 = .ok (.aload_n 0, 1) := by decide +kernel
theorem dX1_nodeHolds_78 : decode cX1_nodeHolds 78 = .ok (.getfield 18, 3) := by decide +kernel
theorem dX1_nodeHolds_81 : decode cX1_nodeHolds 81 = .ok (.getfield 70, 3) := by decide +kernel
theorem dX1_nodeHolds_84 : decode cX1_nodeHolds 84 = .ok (.if_icmp .ge 88, 3) := by decide +kernel
theorem dX1_nodeHolds_87 : decode cX1_nodeHolds 87 = .ok (.lload 8, 2) := by decide +kernel
theorem dX1_nodeHolds_89 : decode cX1_nodeHolds 89 = .ok (.iload 10, 2) := by decide +kernel
theorem dX1_nodeHolds_91 : decode cX1_nodeHolds 91 = .ok (.iload_n 1, 1) := by decide +kernel
theorem dX1_nodeHolds_92 : decode cX1_nodeHolds 92 = .ok (.aload_n 0, 1) := by decide +kernel
theorem dX1_nodeHolds_93 : decode cX1_nodeHolds 93 = .ok (.getfield 31, 3) := by decide +kernel
theorem dX1_nodeHolds_96 : decode cX1_nodeHolds 96 = .ok (.aload_n 0, 1) := by decide +kernel
theorem dX1_nodeHolds_97 : decode cX1_nodeHolds 97 = .ok (.getfield 21, 3) := by decide +kernel
theorem dX1_nodeHolds_100 : decode cX1_nodeHolds 100 = .ok (.iconst 0, 1) := by decide +kernel
theorem dX1_nodeHolds_101 : decode cX1_nodeHolds 101 = .ok (.iaload, 1) := by decide +kernel
theorem dX1_nodeHolds_102 : decode cX1_nodeHolds 102 = .ok (.invokestatic 66, 3) := by decide +kernel
theorem dX1_nodeHolds_105 : decode cX1_nodeHolds 105 = .ok (.i2l, 1) := by decide +kernel
theorem dX1_nodeHolds_106 : decode cX1_nodeHolds 106 = .ok (.lmul, 1) := by decide +kernel
theorem dX1_nodeHolds_107 : decode cX1_nodeHolds 107 = .ok (.aload_n 0, 1) := by decide +kernel
theorem dX1_nodeHolds_108 : decode cX1_nodeHolds 108 = .ok (.getfield 18, 3) := by decide +kernel
theorem dX1_nodeHolds_111 : decode cX1_nodeHolds 111 = .ok (.iload 10, 2) := by decide +kernel
theorem dX1_nodeHolds_113 : decode cX1_nodeHolds 113 = .ok (.iload 7, 2) := by decide +kernel
theorem dX1_nodeHolds_115 : decode cX1_nodeHolds 115 = .ok (.invokevirtual 73, 3) := by decide +kernel
theorem dX1_nodeHolds_118 : decode cX1_nodeHolds 118 = .ok (.iload_n 3, 1) := by decide +kernel
theorem dX1_nodeHolds_119 : decode cX1_nodeHolds 119 = .ok (.aload_n 0, 1) := by decide +kernel
theorem dX1_nodeHolds_120 : decode cX1_nodeHolds 120 = .ok (.getfield 39, 3) := by decide +kernel
theorem dX1_nodeHolds_123 : decode cX1_nodeHolds 123 = .ok (.aload_n 0, 1) := by decide +kernel
theorem dX1_nodeHolds_124 : decode cX1_nodeHolds 124 = .ok (.getfield 21, 3) := by decide +kernel
theorem dX1_nodeHolds_127 : decode cX1_nodeHolds 127 = .ok (.iconst 2, 1) := by decide +kernel
theorem dX1_nodeHolds_128 : decode cX1_nodeHolds 128 = .ok (.iaload, 1) := by decide +kernel
theorem dX1_nodeHolds_129 : decode cX1_nodeHolds 129 = .ok (.invokestatic 66, 3) := by decide +kernel
theorem dX1_nodeHolds_132 : decode cX1_nodeHolds 132 = .ok (.i2l, 1) := by decide +kernel
theorem dX1_nodeHolds_133 : decode cX1_nodeHolds 133 = .ok (.lmul, 1) := by decide +kernel
theorem dX1_nodeHolds_134 : decode cX1_nodeHolds 134 = .ok (.lstore 11, 2) := by decide +kernel
theorem dX1_nodeHolds_136 : decode cX1_nodeHolds 136 = .ok (.lload 5, 2) := by decide +kernel
theorem dX1_nodeHolds_138 : decode cX1_nodeHolds 138 = .ok (.iload 4, 2) := by decide +kernel
theorem dX1_nodeHolds_140 : decode cX1_nodeHolds 140 = .ok (.ifCond .eq 21, 3) := by decide +kernel
theorem dX1_nodeHolds_143 : decode cX1_nodeHolds 143 = .ok (.lload 11, 2) := by decide +kernel
theorem dX1_nodeHolds_145 : decode cX1_nodeHolds 145 = .ok (.aload_n 0, 1) := by decide +kernel
theorem dX1_nodeHolds_146 : decode cX1_nodeHolds 146 = .ok (.getfield 12, 3) := by decide +kernel
theorem dX1_nodeHolds_149 : decode cX1_nodeHolds 149 = .ok (.iload 10, 2) := by decide +kernel
theorem dX1_nodeHolds_151 : decode cX1_nodeHolds 151 = .ok (.iload 7, 2) := by decide +kernel
theorem dX1_nodeHolds_153 : decode cX1_nodeHolds 153 = .ok (.invokevirtual 73, 3) := by decide +kernel
theorem dX1_nodeHolds_156 : decode cX1_nodeHolds 156 = .ok (.i2l, 1) := by decide +kernel
theorem dX1_nodeHolds_157 : decode cX1_nodeHolds 157 = .ok (.lmul, 1) := by decide +kernel
theorem dX1_nodeHolds_158 : decode cX1_nodeHolds 158 = .ok (.goto 5, 3) := by decide +kernel
theorem dX1_nodeHolds_161 : decode cX1_nodeHolds 161 = .ok (.lload 11, 2) := by decide +kernel
theorem dX1_nodeHolds_163 : decode cX1_nodeHolds 163 = .ok (.ladd, 1) := by decide +kernel
theorem dX1_nodeHolds_164 : decode cX1_nodeHolds 164 = .ok (.lstore 5, 2) := by decide +kernel
theorem dX1_nodeHolds_166 : decode cX1_nodeHolds 166 = .ok (.iinc 10 1, 3) := by decide +kernel
theorem dX1_nodeHolds_169 : decode cX1_nodeHolds 169 = .ok (.goto (-94), 3) := by decide +kernel
theorem dX1_nodeHolds_172 : decode cX1_nodeHolds 172 = .ok (.iinc 7 1, 3) := by decide +kernel
theorem dX1_nodeHolds_175 : decode cX1_nodeHolds 175 = .ok (.goto (-134), 3) := by decide +kernel
theorem dX1_nodeHolds_178 : decode cX1_nodeHolds 178 = .ok (.lload 5, 2) := by decide +kernel
theorem dX1_nodeHolds_180 : decode cX1_nodeHolds 180 = .ok (.lreturn, 1) := by decide +kernel
theorem dX1_allHold_0 : decode cX1_allHold 0 = .ok (.aload_n 0, 1) := by decide +kernel
theorem dX1_allHold_1 : decode cX1_allHold 1 = .ok (.getfield 31, 3) := by decide +kernel
theorem dX1_allHold_4 : decode cX1_allHold 4 = .ok (.i2l, 1) := by decide +kernel
theorem dX1_allHold_5 : decode cX1_allHold 5 = .ok (.aload_n 0, 1) := by decide +kernel
theorem dX1_allHold_6 : decode cX1_allHold 6 = .ok (.getfield 31, 3) := by decide +kernel
theorem dX1_allHold_9 : decode cX1_allHold 9 = .ok (.i2l, 1) := by decide +kernel
theorem dX1_allHold_10 : decode cX1_allHold 10 = .ok (.lmul, 1) := by decide +kernel
theorem dX1_allHold_11 : decode cX1_allHold 11 = .ok (.aload_n 0, 1) := by decide +kernel
theorem dX1_allHold_12 : decode cX1_allHold 12 = .ok (.getfield 39, 3) := by decide +kernel
theorem dX1_allHold_15 : decode cX1_allHold 15 = .ok (.i2l, 1) := by decide +kernel
theorem dX1_allHold_16 : decode cX1_allHold 16 = .ok (.lmul, 1) := by decide +kernel
theorem dX1_allHold_17 : decode cX1_allHold 17 = .ok (.lstore_n 2, 1) := by decide +kernel
theorem dX1_allHold_18 : decode cX1_allHold 18 = .ok (.iload_n 1, 1) := by decide +kernel
theorem dX1_allHold_19 : decode cX1_allHold 19 = .ok (.ifCond .eq 14, 3) := by decide +kernel
theorem dX1_allHold_22 : decode cX1_allHold 22 = .ok (.aload_n 0, 1) := by decide +kernel
theorem dX1_allHold_23 : decode cX1_allHold 23 = .ok (.getfield 12, 3) := by decide +kernel
theorem dX1_allHold_26 : decode cX1_allHold 26 = .ok (.invokevirtual 77, 3) := by decide +kernel
theorem dX1_allHold_29 : decode cX1_allHold 29 = .ok (.i2l, 1) := by decide +kernel
theorem dX1_allHold_30 : decode cX1_allHold 30 = .ok (.goto 11, 3) := by decide +kernel
theorem dX1_allHold_33 : decode cX1_allHold 33 = .ok (.aload_n 0, 1) := by decide +kernel
theorem dX1_allHold_34 : decode cX1_allHold 34 = .ok (.getfield 12, 3) := by decide +kernel
theorem dX1_allHold_37 : decode cX1_allHold 37 = .ok (.invokevirtual 81, 3) := by decide +kernel
theorem dX1_allHold_40 : decode cX1_allHold 40 = .ok (.i2l, 1) := by decide +kernel
theorem dX1_allHold_41 : decode cX1_allHold 41 = .ok (.lstore 4, 2) := by decide +kernel
theorem dX1_allHold_43 : decode cX1_allHold 43 = .ok (.lload 4, 2) := by decide +kernel
theorem dX1_allHold_45 : decode cX1_allHold 45 = .ok (.lload_n 2, 1) := by decide +kernel
theorem dX1_allHold_46 : decode cX1_allHold 46 = .ok (.lmul, 1) := by decide +kernel
theorem dX1_allHold_47 : decode cX1_allHold 47 = .ok (.iconst 2, 1) := by decide +kernel
theorem dX1_allHold_48 : decode cX1_allHold 48 = .ok (.aload_n 0, 1) := by decide +kernel
theorem dX1_allHold_49 : decode cX1_allHold 49 = .ok (.getfield 21, 3) := by decide +kernel
theorem dX1_allHold_52 : decode cX1_allHold 52 = .ok (.iconst 0, 1) := by decide +kernel
theorem dX1_allHold_53 : decode cX1_allHold 53 = .ok (.iaload, 1) := by decide +kernel
theorem dX1_allHold_54 : decode cX1_allHold 54 = .ok (.aload_n 0, 1) := by decide +kernel
theorem dX1_allHold_55 : decode cX1_allHold 55 = .ok (.getfield 21, 3) := by decide +kernel
theorem dX1_allHold_58 : decode cX1_allHold 58 = .ok (.iconst 1, 1) := by decide +kernel
theorem dX1_allHold_59 : decode cX1_allHold 59 = .ok (.iaload, 1) := by decide +kernel
theorem dX1_allHold_60 : decode cX1_allHold 60 = .ok (.iadd, 1) := by decide +kernel
theorem dX1_allHold_61 : decode cX1_allHold 61 = .ok (.aload_n 0, 1) := by decide +kernel
theorem dX1_allHold_62 : decode cX1_allHold 62 = .ok (.getfield 21, 3) := by decide +kernel
theorem dX1_allHold_65 : decode cX1_allHold 65 = .ok (.iconst 2, 1) := by decide +kernel
theorem dX1_allHold_66 : decode cX1_allHold 66 = .ok (.iaload, 1) := by decide +kernel
theorem dX1_allHold_67 : decode cX1_allHold 67 = .ok (.iadd, 1) := by decide +kernel
theorem dX1_allHold_68 : decode cX1_allHold 68 = .ok (.imul, 1) := by decide +kernel
theorem dX1_allHold_69 : decode cX1_allHold 69 = .ok (.lshl, 1) := by decide +kernel
theorem dX1_allHold_70 : decode cX1_allHold 70 = .ok (.lreturn, 1) := by decide +kernel
theorem dX1_shadeRead_0 : decode cX1_shadeRead 0 = .ok (.aload_n 0, 1) := by decide +kernel
theorem dX1_shadeRead_1 : decode cX1_shadeRead 1 = .ok (.iload_n 1, 1) := by decide +kernel
theorem dX1_shadeRead_2 : decode cX1_shadeRead 2 = .ok (.iload_n 2, 1) := by decide +kernel
theorem dX1_shadeRead_3 : decode cX1_shadeRead 3 = .ok (.aload_n 0, 1) := by decide +kernel
theorem dX1_shadeRead_4 : decode cX1_shadeRead 4 = .ok (.getfield 18, 3) := by decide +kernel
theorem dX1_shadeRead_7 : decode cX1_shadeRead 7 = .ok (.iload_n 1, 1) := by decide +kernel
theorem dX1_shadeRead_8 : decode cX1_shadeRead 8 = .ok (.iload_n 2, 1) := by decide +kernel
theorem dX1_shadeRead_9 : decode cX1_shadeRead 9 = .ok (.invokevirtual 73, 3) := by decide +kernel
theorem dX1_shadeRead_12 : decode cX1_shadeRead 12 = .ok (.invokevirtual 84, 3) := by decide +kernel
theorem dX1_shadeRead_15 : decode cX1_shadeRead 15 = .ok (.aload_n 0, 1) := by decide +kernel
theorem dX1_shadeRead_16 : decode cX1_shadeRead 16 = .ok (.getfield 88, 3) := by decide +kernel
theorem dX1_shadeRead_19 : decode cX1_shadeRead 19 = .ok (.aload_n 0, 1) := by decide +kernel
theorem dX1_shadeRead_20 : decode cX1_shadeRead 20 = .ok (.getfield 92, 3) := by decide +kernel
theorem dX1_shadeRead_23 : decode cX1_shadeRead 23 = .ok (.invokestatic 95, 3) := by decide +kernel
theorem dX1_shadeRead_26 : decode cX1_shadeRead 26 = .ok (.ireturn, 1) := by decide +kernel
theorem dX1_gather_0 : decode cX1_gather 0 = .ok (.aload_n 0, 1) := by decide +kernel
theorem dX1_gather_1 : decode cX1_gather 1 = .ok (.lconst 0, 1) := by decide +kernel
theorem dX1_gather_2 : decode cX1_gather 2 = .ok (.putfield 92, 3) := by decide +kernel
theorem dX1_gather_5 : decode cX1_gather 5 = .ok (.aload_n 0, 1) := by decide +kernel
theorem dX1_gather_6 : decode cX1_gather 6 = .ok (.lconst 0, 1) := by decide +kernel
theorem dX1_gather_7 : decode cX1_gather 7 = .ok (.putfield 88, 3) := by decide +kernel
theorem dX1_gather_10 : decode cX1_gather 10 = .ok (.aload_n 0, 1) := by decide +kernel
theorem dX1_gather_11 : decode cX1_gather 11 = .ok (.getfield 12, 3) := by decide +kernel
theorem dX1_gather_14 : decode cX1_gather 14 = .ok (.iload_n 1, 1) := by decide +kernel
theorem dX1_gather_15 : decode cX1_gather 15 = .ok (.iload_n 2, 1) := by decide +kernel
theorem dX1_gather_16 : decode cX1_gather 16 = .ok (.invokevirtual 59, 3) := by decide +kernel
theorem dX1_gather_19 : decode cX1_gather 19 = .ok (.ifCond .ne 4, 3) := by decide +kernel
theorem dX1_gather_22 : decode cX1_gather 22 = .ok (.return_, 1) := by decide +kernel
theorem dX1_gather_23 : decode cX1_gather 23 = .ok (.iconst 0, 1) := by decide +kernel
theorem dX1_gather_24 : decode cX1_gather 24 = .ok (.istore 4, 2) := by decide +kernel
theorem dX1_gather_26 : decode cX1_gather 26 = .ok (.iconst 0, 1) := by decide +kernel
theorem dX1_gather_27 : decode cX1_gather 27 = .ok (.istore 5, 2) := by decide +kernel
theorem dX1_gather_29 : decode cX1_gather 29 = .ok (.iload 5, 2) := by decide +kernel
theorem dX1_gather_31 : decode cX1_gather 31 = .ok (.aload_n 0, 1) := by decide +kernel
theorem dX1_gather_32 : decode cX1_gather 32 = .ok (.getfield 12, 3) := by decide +kernel
theorem dX1_gather_35 : decode cX1_gather 35 = .ok (.getfield 63, 3) := by decide +kernel
theorem dX1_gather_38 : decode cX1_gather 38 = .ok (.if_icmp .ge 137, 3) := by decide +kernel
theorem dX1_gather_41 : decode cX1_gather 41 = .ok (.aload_n 0, 1) := by decide +kernel
theorem dX1_gather_42 : decode cX1_gather 42 = .ok (.getfield 28, 3) := by decide +kernel
theorem dX1_gather_45 : decode cX1_gather 45 = .ok (.iload_n 2, 1) := by decide +kernel
theorem dX1_gather_46 : decode cX1_gather 46 = .ok (.bipush 12, 2) := by decide +kernel
theorem dX1_gather_48 : decode cX1_gather 48 = .ok (.imul, 1) := by decide +kernel
theorem dX1_gather_49 : decode cX1_gather 49 = .ok (.iload 5, 2) := by decide +kernel
theorem dX1_gather_51 : decode cX1_gather 51 = .ok (.iadd, 1) := by decide +kernel
theorem dX1_gather_52 : decode cX1_gather 52 = .ok (.iaload, 1) := by decide +kernel
theorem dX1_gather_53 : decode cX1_gather 53 = .ok (.i2l, 1) := by decide +kernel
theorem dX1_gather_54 : decode cX1_gather 54 = .ok (.lstore 6, 2) := by decide +kernel
theorem dX1_gather_56 : decode cX1_gather 56 = .ok (.iconst 0, 1) := by decide +kernel
theorem dX1_gather_57 : decode cX1_gather 57 = .ok (.istore 8, 2) := by decide +kernel
theorem dX1_gather_59 : decode cX1_gather 59 = .ok (.iload 8, 2) := by decide +kernel
theorem dX1_gather_61 : decode cX1_gather 61 = .ok (.aload_n 0, 1) := by decide +kernel
theorem dX1_gather_62 : decode cX1_gather 62 = .ok (.getfield 12, 3) := by decide +kernel
theorem dX1_gather_65 : decode cX1_gather 65 = .ok (.getfield 70, 3) := by decide +kernel
theorem dX1_gather_68 : decode cX1_gather 68 = .ok (.if_icmp .ge 101, 3) := by decide +kernel
theorem dX1_gather_71 : decode cX1_gather 71 = .ok (.lload 6, 2) := by decide +kernel
theorem dX1_gather_73 : decode cX1_gather 73 = .ok (.aload_n 0, 1) := by decide +kernel
theorem dX1_gather_74 : decode cX1_gather 74 = .ok (.getfield 25, 3) := by decide +kernel
theorem dX1_gather_77 : decode cX1_gather 77 = .ok (.iload_n 1, 1) := by decide +kernel
theorem dX1_gather_78 : decode cX1_gather 78 = .ok (.bipush 16, 2) := by decide +kernel
theorem dX1_gather_80 : decode cX1_gather 80 = .ok (.imul, 1) := by decide +kernel
theorem dX1_gather_81 : decode cX1_gather 81 = .ok (.iload 8, 2) := by decide +kernel
theorem dX1_gather_83 : decode cX1_gather 83 = .ok (.iadd, 1) := by decide +kernel
theorem dX1_gather_84 : decode cX1_gather 84 = .ok (.iaload, 1) := by decide +kernel
theorem dX1_gather_85 : decode cX1_gather 85 = .ok (.i2l, 1) := by decide +kernel
theorem dX1_gather_86 : decode cX1_gather 86 = .ok (.lmul, 1) := by decide +kernel
theorem dX1_gather_87 : decode cX1_gather 87 = .ok (.lstore 9, 2) := by decide +kernel
theorem dX1_gather_89 : decode cX1_gather 89 = .ok (.lload 9, 2) := by decide +kernel
theorem dX1_gather_91 : decode cX1_gather 91 = .ok (.lconst 0, 1) := by decide +kernel
theorem dX1_gather_92 : decode cX1_gather 92 = .ok (.lcmp, 1) := by decide +kernel
theorem dX1_gather_93 : decode cX1_gather 93 = .ok (.ifCond .le 67, 3) := by decide +kernel
theorem dX1_gather_96 : decode cX1_gather 96 = .ok (.lload 9, 2) := by decide +kernel
theorem dX1_gather_98 : decode cX1_gather 98 = .ok (.iload_n 3, 1) := by decide +kernel
theorem dX1_gather_99 : decode cX1_gather 99 = .ok (.aload_n 0, 1) := by decide +kernel
theorem dX1_gather_100 : decode cX1_gather 100 = .ok (.getfield 18, 3) := by decide +kernel
theorem dX1_gather_103 : decode cX1_gather 103 = .ok (.getfield 99, 3) := by decide +kernel
theorem dX1_gather_106 : decode cX1_gather 106 = .ok (.iload 4, 2) := by decide +kernel
theorem dX1_gather_108 : decode cX1_gather 108 = .ok (.iaload, 1) := by decide +kernel
theorem dX1_gather_109 : decode cX1_gather 109 = .ok (.aload_n 0, 1) := by decide +kernel
theorem dX1_gather_110 : decode cX1_gather 110 = .ok (.getfield 39, 3) := by decide +kernel
theorem dX1_gather_113 : decode cX1_gather 113 = .ok (.aload_n 0, 1) := by decide +kernel
theorem dX1_gather_114 : decode cX1_gather 114 = .ok (.getfield 21, 3) := by decide +kernel
theorem dX1_gather_117 : decode cX1_gather 117 = .ok (.iconst 2, 1) := by decide +kernel
theorem dX1_gather_118 : decode cX1_gather 118 = .ok (.iaload, 1) := by decide +kernel
theorem dX1_gather_119 : decode cX1_gather 119 = .ok (.invokestatic 102, 3) := by decide +kernel
theorem dX1_gather_122 : decode cX1_gather 122 = .ok (.i2l, 1) := by decide +kernel
theorem dX1_gather_123 : decode cX1_gather 123 = .ok (.lmul, 1) := by decide +kernel
theorem dX1_gather_124 : decode cX1_gather 124 = .ok (.lstore 9, 2) := by decide +kernel
theorem dX1_gather_126 : decode cX1_gather 126 = .ok (.aload_n 0, 1) := by decide +kernel
theorem dX1_gather_127 : decode cX1_gather 127 = .ok (.dup, 1) := by decide +kernel
theorem dX1_gather_128 : decode cX1_gather 128 = .ok (.getfield 92, 3) := by decide +kernel
theorem dX1_gather_131 : decode cX1_gather 131 = .ok (.lload 9, 2) := by decide +kernel
theorem dX1_gather_133 : decode cX1_gather 133 = .ok (.ladd, 1) := by decide +kernel
theorem dX1_gather_134 : decode cX1_gather 134 = .ok (.putfield 92, 3) := by decide +kernel
theorem dX1_gather_137 : decode cX1_gather 137 = .ok (.aload_n 0, 1) := by decide +kernel
theorem dX1_gather_138 : decode cX1_gather 138 = .ok (.dup, 1) := by decide +kernel
theorem dX1_gather_139 : decode cX1_gather 139 = .ok (.getfield 88, 3) := by decide +kernel
theorem dX1_gather_142 : decode cX1_gather 142 = .ok (.lload 9, 2) := by decide +kernel
theorem dX1_gather_144 : decode cX1_gather 144 = .ok (.aload_n 0, 1) := by decide +kernel
theorem dX1_gather_145 : decode cX1_gather 145 = .ok (.getfield 12, 3) := by decide +kernel
theorem dX1_gather_148 : decode cX1_gather 148 = .ok (.getfield 99, 3) := by decide +kernel
theorem dX1_gather_151 : decode cX1_gather 151 = .ok (.iload 4, 2) := by decide +kernel
theorem dX1_gather_153 : decode cX1_gather 153 = .ok (.iaload, 1) := by decide +kernel
theorem dX1_gather_154 : decode cX1_gather 154 = .ok (.i2l, 1) := by decide +kernel
theorem dX1_gather_155 : decode cX1_gather 155 = .ok (.lmul, 1) := by decide +kernel
theorem dX1_gather_156 : decode cX1_gather 156 = .ok (.ladd, 1) := by decide +kernel
theorem dX1_gather_157 : decode cX1_gather 157 = .ok (.putfield 88, 3) := by decide +kernel
theorem dX1_gather_160 : decode cX1_gather 160 = .ok (.iinc 4 1, 3) := by decide +kernel
theorem dX1_gather_163 : decode cX1_gather 163 = .ok (.iinc 8 1, 3) := by decide +kernel
theorem dX1_gather_166 : decode cX1_gather 166 = .ok (.goto (-107), 3) := by decide +kernel
theorem dX1_gather_169 : decode cX1_gather 169 = .ok (.iinc 5 1, 3) := by decide +kernel
theorem dX1_gather_172 : decode cX1_gather 172 = .ok (.goto (-143), 3) := by decide +kernel
theorem dX1_gather_175 : decode cX1_gather 175 = .ok (.return_, 1) := by decide +kernel
theorem dX1_bindPlaces_0 : decode cX1_bindPlaces 0 = .ok (.iconst 0, 1) := by decide +kernel
theorem dX1_bindPlaces_1 : decode cX1_bindPlaces 1 = .ok (.istore_n 1, 1) := by decide +kernel
theorem dX1_bindPlaces_2 : decode cX1_bindPlaces 2 = .ok (.iload_n 1, 1) := by decide +kernel
theorem dX1_bindPlaces_3 : decode cX1_bindPlaces 3 = .ok (.aload_n 0, 1) := by decide +kernel
theorem dX1_bindPlaces_4 : decode cX1_bindPlaces 4 = .ok (.getfield 12, 3) := by decide +kernel
theorem dX1_bindPlaces_7 : decode cX1_bindPlaces 7 = .ok (.getfield 70, 3) := by decide +kernel
theorem dX1_bindPlaces_10 : decode cX1_bindPlaces 10 = .ok (.if_icmp .ge 54, 3) := by decide +kernel
theorem dX1_bindPlaces_13 : decode cX1_bindPlaces 13 = .ok (.iconst 0, 1) := by decide +kernel
theorem dX1_bindPlaces_14 : decode cX1_bindPlaces 14 = .ok (.istore_n 2, 1) := by decide +kernel
theorem dX1_bindPlaces_15 : decode cX1_bindPlaces 15 = .ok (.iload_n 2, 1) := by decide +kernel
theorem dX1_bindPlaces_16 : decode cX1_bindPlaces 16 = .ok (.aload_n 0, 1) := by decide +kernel
theorem dX1_bindPlaces_17 : decode cX1_bindPlaces 17 = .ok (.getfield 12, 3) := by decide +kernel
theorem dX1_bindPlaces_20 : decode cX1_bindPlaces 20 = .ok (.getfield 70, 3) := by decide +kernel
theorem dX1_bindPlaces_23 : decode cX1_bindPlaces 23 = .ok (.if_icmp .ge 35, 3) := by decide +kernel
theorem dX1_bindPlaces_26 : decode cX1_bindPlaces 26 = .ok (.aload_n 0, 1) := by decide +kernel
theorem dX1_bindPlaces_27 : decode cX1_bindPlaces 27 = .ok (.getfield 25, 3) := by decide +kernel
theorem dX1_bindPlaces_30 : decode cX1_bindPlaces 30 = .ok (.iload_n 1, 1) := by decide +kernel
theorem dX1_bindPlaces_31 : decode cX1_bindPlaces 31 = .ok (.bipush 16, 2) := by decide +kernel
theorem dX1_bindPlaces_33 : decode cX1_bindPlaces 33 = .ok (.imul, 1) := by decide +kernel
theorem dX1_bindPlaces_34 : decode cX1_bindPlaces 34 = .ok (.iload_n 2, 1) := by decide +kernel
theorem dX1_bindPlaces_35 : decode cX1_bindPlaces 35 = .ok (.iadd, 1) := by decide +kernel
theorem dX1_bindPlaces_36 : decode cX1_bindPlaces 36 = .ok (.iload_n 1, 1) := by decide +kernel
theorem dX1_bindPlaces_37 : decode cX1_bindPlaces 37 = .ok (.iload_n 2, 1) := by decide +kernel
theorem dX1_bindPlaces_38 : decode cX1_bindPlaces 38 = .ok (.aload_n 0, 1) := by decide +kernel
theorem dX1_bindPlaces_39 : decode cX1_bindPlaces 39 = .ok (.getfield 31, 3) := by decide +kernel
theorem dX1_bindPlaces_42 : decode cX1_bindPlaces 42 = .ok (.aload_n 0, 1) := by decide +kernel
theorem dX1_bindPlaces_43 : decode cX1_bindPlaces 43 = .ok (.getfield 21, 3) := by decide +kernel
theorem dX1_bindPlaces_46 : decode cX1_bindPlaces 46 = .ok (.iconst 0, 1) := by decide +kernel
theorem dX1_bindPlaces_47 : decode cX1_bindPlaces 47 = .ok (.iaload, 1) := by decide +kernel
theorem dX1_bindPlaces_48 : decode cX1_bindPlaces 48 = .ok (.invokestatic 102, 3) := by decide +kernel
theorem dX1_bindPlaces_51 : decode cX1_bindPlaces 51 = .ok (.iastore, 1) := by decide +kernel
theorem dX1_bindPlaces_52 : decode cX1_bindPlaces 52 = .ok (.iinc 2 1, 3) := by decide +kernel
theorem dX1_bindPlaces_55 : decode cX1_bindPlaces 55 = .ok (.goto (-40), 3) := by decide +kernel
theorem dX1_bindPlaces_58 : decode cX1_bindPlaces 58 = .ok (.iinc 1 1, 3) := by decide +kernel
theorem dX1_bindPlaces_61 : decode cX1_bindPlaces 61 = .ok (.goto (-59), 3) := by decide +kernel
theorem dX1_bindPlaces_64 : decode cX1_bindPlaces 64 = .ok (.iconst 0, 1) := by decide +kernel
theorem dX1_bindPlaces_65 : decode cX1_bindPlaces 65 = .ok (.istore_n 1, 1) := by decide +kernel
theorem dX1_bindPlaces_66 : decode cX1_bindPlaces 66 = .ok (.iload_n 1, 1) := by decide +kernel
theorem dX1_bindPlaces_67 : decode cX1_bindPlaces 67 = .ok (.aload_n 0, 1) := by decide +kernel
theorem dX1_bindPlaces_68 : decode cX1_bindPlaces 68 = .ok (.getfield 12, 3) := by decide +kernel
theorem dX1_bindPlaces_71 : decode cX1_bindPlaces 71 = .ok (.getfield 63, 3) := by decide +kernel
theorem dX1_bindPlaces_74 : decode cX1_bindPlaces 74 = .ok (.if_icmp .ge 54, 3) := by decide +kernel
theorem dX1_bindPlaces_77 : decode cX1_bindPlaces 77 = .ok (.iconst 0, 1) := by decide +kernel
theorem dX1_bindPlaces_78 : decode cX1_bindPlaces 78 = .ok (.istore_n 2, 1) := by decide +kernel
theorem dX1_bindPlaces_79 : decode cX1_bindPlaces 79 = .ok (.iload_n 2, 1) := by decide +kernel
theorem dX1_bindPlaces_80 : decode cX1_bindPlaces 80 = .ok (.aload_n 0, 1) := by decide +kernel
theorem dX1_bindPlaces_81 : decode cX1_bindPlaces 81 = .ok (.getfield 12, 3) := by decide +kernel
theorem dX1_bindPlaces_84 : decode cX1_bindPlaces 84 = .ok (.getfield 63, 3) := by decide +kernel
theorem dX1_bindPlaces_87 : decode cX1_bindPlaces 87 = .ok (.if_icmp .ge 35, 3) := by decide +kernel
theorem dX1_bindPlaces_90 : decode cX1_bindPlaces 90 = .ok (.aload_n 0, 1) := by decide +kernel
theorem dX1_bindPlaces_91 : decode cX1_bindPlaces 91 = .ok (.getfield 28, 3) := by decide +kernel
theorem dX1_bindPlaces_94 : decode cX1_bindPlaces 94 = .ok (.iload_n 1, 1) := by decide +kernel
theorem dX1_bindPlaces_95 : decode cX1_bindPlaces 95 = .ok (.bipush 12, 2) := by decide +kernel
theorem dX1_bindPlaces_97 : decode cX1_bindPlaces 97 = .ok (.imul, 1) := by decide +kernel
theorem dX1_bindPlaces_98 : decode cX1_bindPlaces 98 = .ok (.iload_n 2, 1) := by decide +kernel
theorem dX1_bindPlaces_99 : decode cX1_bindPlaces 99 = .ok (.iadd, 1) := by decide +kernel
theorem dX1_bindPlaces_100 : decode cX1_bindPlaces 100 = .ok (.iload_n 1, 1) := by decide +kernel
theorem dX1_bindPlaces_101 : decode cX1_bindPlaces 101 = .ok (.iload_n 2, 1) := by decide +kernel
theorem dX1_bindPlaces_102 : decode cX1_bindPlaces 102 = .ok (.aload_n 0, 1) := by decide +kernel
theorem dX1_bindPlaces_103 : decode cX1_bindPlaces 103 = .ok (.getfield 31, 3) := by decide +kernel
theorem dX1_bindPlaces_106 : decode cX1_bindPlaces 106 = .ok (.aload_n 0, 1) := by decide +kernel
theorem dX1_bindPlaces_107 : decode cX1_bindPlaces 107 = .ok (.getfield 21, 3) := by decide +kernel
theorem dX1_bindPlaces_110 : decode cX1_bindPlaces 110 = .ok (.iconst 1, 1) := by decide +kernel
theorem dX1_bindPlaces_111 : decode cX1_bindPlaces 111 = .ok (.iaload, 1) := by decide +kernel
theorem dX1_bindPlaces_112 : decode cX1_bindPlaces 112 = .ok (.invokestatic 102, 3) := by decide +kernel
theorem dX1_bindPlaces_115 : decode cX1_bindPlaces 115 = .ok (.iastore, 1) := by decide +kernel
theorem dX1_bindPlaces_116 : decode cX1_bindPlaces 116 = .ok (.iinc 2 1, 3) := by decide +kernel
theorem dX1_bindPlaces_119 : decode cX1_bindPlaces 119 = .ok (.goto (-40), 3) := by decide +kernel
theorem dX1_bindPlaces_122 : decode cX1_bindPlaces 122 = .ok (.iinc 1 1, 3) := by decide +kernel
theorem dX1_bindPlaces_125 : decode cX1_bindPlaces 125 = .ok (.goto (-59), 3) := by decide +kernel
theorem dX1_bindPlaces_128 : decode cX1_bindPlaces 128 = .ok (.return_, 1) := by decide +kernel
theorem dX1_bond_0 : decode cX1_bond 0 = .ok (.iload_n 2, 1) := by decide +kernel
theorem dX1_bond_1 : decode cX1_bond 1 = .ok (.ifCond .gt 5, 3) := by decide +kernel
theorem dX1_bond_4 : decode cX1_bond 4 = .ok (.iconst 0, 1) := by decide +kernel
theorem dX1_bond_5 : decode cX1_bond 5 = .ok (.ireturn, 1) := by decide +kernel
theorem dX1_bond_6 : decode cX1_bond 6 = .ok (.iload_n 0, 1) := by decide +kernel
theorem dX1_bond_7 : decode cX1_bond 7 = .ok (.iload_n 2, 1) := by decide +kernel
theorem dX1_bond_8 : decode cX1_bond 8 = .ok (.idiv, 1) := by decide +kernel
theorem dX1_bond_9 : decode cX1_bond 9 = .ok (.iload_n 1, 1) := by decide +kernel
theorem dX1_bond_10 : decode cX1_bond 10 = .ok (.iload_n 2, 1) := by decide +kernel
theorem dX1_bond_11 : decode cX1_bond 11 = .ok (.idiv, 1) := by decide +kernel
theorem dX1_bond_12 : decode cX1_bond 12 = .ok (.isub, 1) := by decide +kernel
theorem dX1_bond_13 : decode cX1_bond 13 = .ok (.istore 4, 2) := by decide +kernel
theorem dX1_bond_15 : decode cX1_bond 15 = .ok (.iload 4, 2) := by decide +kernel
theorem dX1_bond_17 : decode cX1_bond 17 = .ok (.iload_n 3, 1) := by decide +kernel
theorem dX1_bond_18 : decode cX1_bond 18 = .ok (.iconst 1, 1) := by decide +kernel
theorem dX1_bond_19 : decode cX1_bond 19 = .ok (.iadd, 1) := by decide +kernel
theorem dX1_bond_20 : decode cX1_bond 20 = .ok (.if_icmp .gt 12, 3) := by decide +kernel
theorem dX1_bond_23 : decode cX1_bond 23 = .ok (.iload 4, 2) := by decide +kernel
theorem dX1_bond_25 : decode cX1_bond 25 = .ok (.iload_n 3, 1) := by decide +kernel
theorem dX1_bond_26 : decode cX1_bond 26 = .ok (.ineg, 1) := by decide +kernel
theorem dX1_bond_27 : decode cX1_bond 27 = .ok (.iconst 1, 1) := by decide +kernel
theorem dX1_bond_28 : decode cX1_bond 28 = .ok (.isub, 1) := by decide +kernel
theorem dX1_bond_29 : decode cX1_bond 29 = .ok (.if_icmp .ge 5, 3) := by decide +kernel
theorem dX1_bond_32 : decode cX1_bond 32 = .ok (.iconst 0, 1) := by decide +kernel
theorem dX1_bond_33 : decode cX1_bond 33 = .ok (.ireturn, 1) := by decide +kernel
theorem dX1_bond_34 : decode cX1_bond 34 = .ok (.iload_n 0, 1) := by decide +kernel
theorem dX1_bond_35 : decode cX1_bond 35 = .ok (.iload_n 2, 1) := by decide +kernel
theorem dX1_bond_36 : decode cX1_bond 36 = .ok (.irem, 1) := by decide +kernel
theorem dX1_bond_37 : decode cX1_bond 37 = .ok (.istore 5, 2) := by decide +kernel
theorem dX1_bond_39 : decode cX1_bond 39 = .ok (.iload_n 1, 1) := by decide +kernel
theorem dX1_bond_40 : decode cX1_bond 40 = .ok (.iload_n 2, 1) := by decide +kernel
theorem dX1_bond_41 : decode cX1_bond 41 = .ok (.irem, 1) := by decide +kernel
theorem dX1_bond_42 : decode cX1_bond 42 = .ok (.istore 6, 2) := by decide +kernel
theorem dX1_bond_44 : decode cX1_bond 44 = .ok (.iload_n 2, 1) := by decide +kernel
theorem dX1_bond_45 : decode cX1_bond 45 = .ok (.iload 5, 2) := by decide +kernel
theorem dX1_bond_47 : decode cX1_bond 47 = .ok (.isub, 1) := by decide +kernel
theorem dX1_bond_48 : decode cX1_bond 48 = .ok (.iload_n 2, 1) := by decide +kernel
theorem dX1_bond_49 : decode cX1_bond 49 = .ok (.iload 6, 2) := by decide +kernel
theorem dX1_bond_51 : decode cX1_bond 51 = .ok (.isub, 1) := by decide +kernel
theorem dX1_bond_52 : decode cX1_bond 52 = .ok (.imul, 1) := by decide +kernel
theorem dX1_bond_53 : decode cX1_bond 53 = .ok (.iload 5, 2) := by decide +kernel
theorem dX1_bond_55 : decode cX1_bond 55 = .ok (.iload 6, 2) := by decide +kernel
theorem dX1_bond_57 : decode cX1_bond 57 = .ok (.imul, 1) := by decide +kernel
theorem dX1_bond_58 : decode cX1_bond 58 = .ok (.iadd, 1) := by decide +kernel
theorem dX1_bond_59 : decode cX1_bond 59 = .ok (.iload_n 3, 1) := by decide +kernel
theorem dX1_bond_60 : decode cX1_bond 60 = .ok (.iload 4, 2) := by decide +kernel
theorem dX1_bond_62 : decode cX1_bond 62 = .ok (.invokestatic 105, 3) := by decide +kernel
theorem dX1_bond_65 : decode cX1_bond 65 = .ok (.imul, 1) := by decide +kernel
theorem dX1_bond_66 : decode cX1_bond 66 = .ok (.iload 5, 2) := by decide +kernel
theorem dX1_bond_68 : decode cX1_bond 68 = .ok (.iload_n 2, 1) := by decide +kernel
theorem dX1_bond_69 : decode cX1_bond 69 = .ok (.iload 6, 2) := by decide +kernel
theorem dX1_bond_71 : decode cX1_bond 71 = .ok (.isub, 1) := by decide +kernel
theorem dX1_bond_72 : decode cX1_bond 72 = .ok (.imul, 1) := by decide +kernel
theorem dX1_bond_73 : decode cX1_bond 73 = .ok (.iload_n 3, 1) := by decide +kernel
theorem dX1_bond_74 : decode cX1_bond 74 = .ok (.iload 4, 2) := by decide +kernel
theorem dX1_bond_76 : decode cX1_bond 76 = .ok (.iconst 1, 1) := by decide +kernel
theorem dX1_bond_77 : decode cX1_bond 77 = .ok (.iadd, 1) := by decide +kernel
theorem dX1_bond_78 : decode cX1_bond 78 = .ok (.invokestatic 105, 3) := by decide +kernel
theorem dX1_bond_81 : decode cX1_bond 81 = .ok (.imul, 1) := by decide +kernel
theorem dX1_bond_82 : decode cX1_bond 82 = .ok (.iadd, 1) := by decide +kernel
theorem dX1_bond_83 : decode cX1_bond 83 = .ok (.iload_n 2, 1) := by decide +kernel
theorem dX1_bond_84 : decode cX1_bond 84 = .ok (.iload 5, 2) := by decide +kernel
theorem dX1_bond_86 : decode cX1_bond 86 = .ok (.isub, 1) := by decide +kernel
theorem dX1_bond_87 : decode cX1_bond 87 = .ok (.iload 6, 2) := by decide +kernel
theorem dX1_bond_89 : decode cX1_bond 89 = .ok (.imul, 1) := by decide +kernel
theorem dX1_bond_90 : decode cX1_bond 90 = .ok (.iload_n 3, 1) := by decide +kernel
theorem dX1_bond_91 : decode cX1_bond 91 = .ok (.iload 4, 2) := by decide +kernel
theorem dX1_bond_93 : decode cX1_bond 93 = .ok (.iconst 1, 1) := by decide +kernel
theorem dX1_bond_94 : decode cX1_bond 94 = .ok (.isub, 1) := by decide +kernel
theorem dX1_bond_95 : decode cX1_bond 95 = .ok (.invokestatic 105, 3) := by decide +kernel
theorem dX1_bond_98 : decode cX1_bond 98 = .ok (.imul, 1) := by decide +kernel
theorem dX1_bond_99 : decode cX1_bond 99 = .ok (.iadd, 1) := by decide +kernel
theorem dX1_bond_100 : decode cX1_bond 100 = .ok (.ireturn, 1) := by decide +kernel
theorem dX1_gift_0 : decode cX1_gift 0 = .ok (.iload_n 2, 1) := by decide +kernel
theorem dX1_gift_1 : decode cX1_gift 1 = .ok (.ifCond .gt 5, 3) := by decide +kernel
theorem dX1_gift_4 : decode cX1_gift 4 = .ok (.iconst 0, 1) := by decide +kernel
theorem dX1_gift_5 : decode cX1_gift 5 = .ok (.ireturn, 1) := by decide +kernel
theorem dX1_gift_6 : decode cX1_gift 6 = .ok (.iload_n 1, 1) := by decide +kernel
theorem dX1_gift_7 : decode cX1_gift 7 = .ok (.iload_n 0, 1) := by decide +kernel
theorem dX1_gift_8 : decode cX1_gift 8 = .ok (.iload_n 2, 1) := by decide +kernel
theorem dX1_gift_9 : decode cX1_gift 9 = .ok (.idiv, 1) := by decide +kernel
theorem dX1_gift_10 : decode cX1_gift 10 = .ok (.isub, 1) := by decide +kernel
theorem dX1_gift_11 : decode cX1_gift 11 = .ok (.istore 4, 2) := by decide +kernel
theorem dX1_gift_13 : decode cX1_gift 13 = .ok (.iload_n 0, 1) := by decide +kernel
theorem dX1_gift_14 : decode cX1_gift 14 = .ok (.iload_n 2, 1) := by decide +kernel
theorem dX1_gift_15 : decode cX1_gift 15 = .ok (.irem, 1) := by decide +kernel
theorem dX1_gift_16 : decode cX1_gift 16 = .ok (.istore 5, 2) := by decide +kernel
theorem dX1_gift_18 : decode cX1_gift 18 = .ok (.iload_n 2, 1) := by decide +kernel
theorem dX1_gift_19 : decode cX1_gift 19 = .ok (.iload 5, 2) := by decide +kernel
theorem dX1_gift_21 : decode cX1_gift 21 = .ok (.isub, 1) := by decide +kernel
theorem dX1_gift_22 : decode cX1_gift 22 = .ok (.iload_n 3, 1) := by decide +kernel
theorem dX1_gift_23 : decode cX1_gift 23 = .ok (.iload 4, 2) := by decide +kernel
theorem dX1_gift_25 : decode cX1_gift 25 = .ok (.invokestatic 105, 3) := by decide +kernel
theorem dX1_gift_28 : decode cX1_gift 28 = .ok (.imul, 1) := by decide +kernel
theorem dX1_gift_29 : decode cX1_gift 29 = .ok (.iload 5, 2) := by decide +kernel
theorem dX1_gift_31 : decode cX1_gift 31 = .ok (.iload_n 3, 1) := by decide +kernel
theorem dX1_gift_32 : decode cX1_gift 32 = .ok (.iload 4, 2) := by decide +kernel
theorem dX1_gift_34 : decode cX1_gift 34 = .ok (.iconst 1, 1) := by decide +kernel
theorem dX1_gift_35 : decode cX1_gift 35 = .ok (.isub, 1) := by decide +kernel
theorem dX1_gift_36 : decode cX1_gift 36 = .ok (.invokestatic 105, 3) := by decide +kernel
theorem dX1_gift_39 : decode cX1_gift 39 = .ok (.imul, 1) := by decide +kernel
theorem dX1_gift_40 : decode cX1_gift 40 = .ok (.iadd, 1) := by decide +kernel
theorem dX1_gift_41 : decode cX1_gift 41 = .ok (.ireturn, 1) := by decide +kernel
theorem dX1_echo_0 : decode cX1_echo 0 = .ok (.iload_n 0, 1) := by decide +kernel
theorem dX1_echo_1 : decode cX1_echo 1 = .ok (.ifCond .lt 34, 3) := by decide +kernel
theorem dX1_echo_4 : decode cX1_echo 4 = .ok (.iload_n 0, 1) := by decide +kernel
theorem dX1_echo_5 : decode cX1_echo 5 = .ok (.iconst 3, 1) := by decide +kernel
theorem dX1_echo_6 : decode cX1_echo 6 = .ok (.if_icmp .gt 29, 3) := by decide +kernel
theorem dX1_echo_9 : decode cX1_echo 9 = .ok (.iload_n 1, 1) := by decide +kernel
theorem dX1_echo_10 : decode cX1_echo 10 = .ok (.iload_n 0, 1) := by decide +kernel
theorem dX1_echo_11 : decode cX1_echo 11 = .ok (.ineg, 1) := by decide +kernel
theorem dX1_echo_12 : decode cX1_echo 12 = .ok (.if_icmp .lt 23, 3) := by decide +kernel
theorem dX1_echo_15 : decode cX1_echo 15 = .ok (.iload_n 1, 1) := by decide +kernel
theorem dX1_echo_16 : decode cX1_echo 16 = .ok (.iload_n 0, 1) := by decide +kernel
theorem dX1_echo_17 : decode cX1_echo 17 = .ok (.if_icmp .gt 18, 3) := by decide +kernel
theorem dX1_echo_20 : decode cX1_echo 20 = .ok (.getstatic 108, 3) := by decide +kernel
theorem dX1_echo_23 : decode cX1_echo 23 = .ok (.iload_n 0, 1) := by decide +kernel
theorem dX1_echo_24 : decode cX1_echo 24 = .ok (.bipush 7, 2) := by decide +kernel
theorem dX1_echo_26 : decode cX1_echo 26 = .ok (.imul, 1) := by decide +kernel
theorem dX1_echo_27 : decode cX1_echo 27 = .ok (.iconst 3, 1) := by decide +kernel
theorem dX1_echo_28 : decode cX1_echo 28 = .ok (.iadd, 1) := by decide +kernel
theorem dX1_echo_29 : decode cX1_echo 29 = .ok (.iload_n 1, 1) := by decide +kernel
theorem dX1_echo_30 : decode cX1_echo 30 = .ok (.iadd, 1) := by decide +kernel
theorem dX1_echo_31 : decode cX1_echo 31 = .ok (.iaload, 1) := by decide +kernel
theorem dX1_echo_32 : decode cX1_echo 32 = .ok (.goto 4, 3) := by decide +kernel
theorem dX1_echo_35 : decode cX1_echo 35 = .ok (.iconst 0, 1) := by decide +kernel
theorem dX1_echo_36 : decode cX1_echo 36 = .ok (.ireturn, 1) := by decide +kernel
theorem dX3_spread_0 : decode cX3_spread 0 = .ok (.aload_n 0, 1) := by decide +kernel
theorem dX3_spread_1 : decode cX3_spread 1 = .ok (.getfield 11, 3) := by decide +kernel
theorem dX3_spread_4 : decode cX3_spread 4 = .ok (.lconst 0, 1) := by decide +kernel
theorem dX3_spread_5 : decode cX3_spread 5 = .ok (.invokestatic 15, 3) := by decide +kernel
theorem dX3_spread_8 : decode cX3_spread 8 = .ok (.iconst 0, 1) := by decide +kernel
theorem dX3_spread_9 : decode cX3_spread 9 = .ok (.istore 4, 2) := by decide +kernel
theorem dX3_spread_11 : decode cX3_spread 11 = .ok (.iload 4, 2) := by decide +kernel
theorem dX3_spread_13 : decode cX3_spread 13 = .ok (.aload_n 1, 1) := by decide +kernel
theorem dX3_spread_14 : decode cX3_spread 14 = .ok (.getfield 21, 3) := by decide +kernel
theorem dX3_spread_17 : decode cX3_spread 17 = .ok (.if_icmp .ge 48, 3) := by decide +kernel
theorem dX3_spread_20 : decode cX3_spread 20 = .ok (.iconst 0, 1) := by decide +kernel
theorem dX3_spread_21 : decode cX3_spread 21 = .ok (.istore 5, 2) := by decide +kernel
theorem dX3_spread_23 : decode cX3_spread 23 = .ok (.iload 5, 2) := by decide +kernel
theorem dX3_spread_25 : decode cX3_spread 25 = .ok (.aload_n 1, 1) := by decide +kernel
theorem dX3_spread_26 : decode cX3_spread 26 = .ok (.getfield 27, 3) := by decide +kernel
theorem dX3_spread_29 : decode cX3_spread 29 = .ok (.if_icmp .ge 30, 3) := by decide +kernel
theorem dX3_spread_32 : decode cX3_spread 32 = .ok (.aload_n 0, 1) := by decide +kernel
theorem dX3_spread_33 : decode cX3_spread 33 = .ok (.iload 5, 2) := by decide +kernel
theorem dX3_spread_35 : decode cX3_spread 35 = .ok (.iload 4, 2) := by decide +kernel
theorem dX3_spread_37 : decode cX3_spread 37 = .ok (.iload_n 2, 1) := by decide +kernel
theorem dX3_spread_38 : decode cX3_spread 38 = .ok (.aload_n 1, 1) := by decide +kernel
theorem dX3_spread_39 : decode cX3_spread 39 = .ok (.iload 5, 2) := by decide +kernel
theorem dX3_spread_41 : decode cX3_spread 41 = .ok (.iload 4, 2) := by decide +kernel
theorem dX3_spread_43 : decode cX3_spread 43 = .ok (.invokevirtual 30, 3) := by decide +kernel
theorem dX3_spread_46 : decode cX3_spread 46 = .ok (.iload_n 3, 1) := by decide +kernel
theorem dX3_spread_47 : decode cX3_spread 47 = .ok (.invokestatic 34, 3) := by decide +kernel
theorem dX3_spread_50 : decode cX3_spread 50 = .ok (.invokevirtual 38, 3) := by decide +kernel
theorem dX3_spread_53 : decode cX3_spread 53 = .ok (.iinc 5 1, 3) := by decide +kernel
theorem dX3_spread_56 : decode cX3_spread 56 = .ok (.goto (-33), 3) := by decide +kernel
theorem dX3_spread_59 : decode cX3_spread 59 = .ok (.iinc 4 1, 3) := by decide +kernel
theorem dX3_spread_62 : decode cX3_spread 62 = .ok (.goto (-51), 3) := by decide +kernel
theorem dX3_spread_65 : decode cX3_spread 65 = .ok (.return_, 1) := by decide +kernel
theorem dX3_spreadDot_0 : decode cX3_spreadDot 0 = .ok (.iload_n 3, 1) := by decide +kernel
theorem dX3_spreadDot_1 : decode cX3_spreadDot 1 = .ok (.ifCond .gt 4, 3) := by decide +kernel
theorem dX3_spreadDot_4 : decode cX3_spreadDot 4 = .ok (.return_, 1) := by decide +kernel
theorem dX3_spreadDot_5 : decode cX3_spreadDot 5 = .ok (.iload_n 1, 1) := by decide +kernel
theorem dX3_spreadDot_6 : decode cX3_spreadDot 6 = .ok (.iload_n 3, 1) := by decide +kernel
theorem dX3_spreadDot_7 : decode cX3_spreadDot 7 = .ok (.idiv, 1) := by decide +kernel
theorem dX3_spreadDot_8 : decode cX3_spreadDot 8 = .ok (.istore 6, 2) := by decide +kernel
theorem dX3_spreadDot_10 : decode cX3_spreadDot 10 = .ok (.iload_n 2, 1) := by decide +kernel
theorem dX3_spreadDot_11 : decode cX3_spreadDot 11 = .ok (.iload_n 3, 1) := by decide +kernel
theorem dX3_spreadDot_12 : decode cX3_spreadDot 12 = .ok (.idiv, 1) := by decide +kernel
theorem dX3_spreadDot_13 : decode cX3_spreadDot 13 = .ok (.istore 7, 2) := by decide +kernel
theorem dX3_spreadDot_15 : decode cX3_spreadDot 15 = .ok (.iload_n 1, 1) := by decide +kernel
theorem dX3_spreadDot_16 : decode cX3_spreadDot 16 = .ok (.iload_n 3, 1) := by decide +kernel
theorem dX3_spreadDot_17 : decode cX3_spreadDot 17 = .ok (.irem, 1) := by decide +kernel
theorem dX3_spreadDot_18 : decode cX3_spreadDot 18 = .ok (.ifCond .le 7, 3) := by decide +kernel
theorem dX3_spreadDot_21 : decode cX3_spreadDot 21 = .ok (.iconst 1, 1) := by decide +kernel
theorem dX3_spreadDot_22 : decode cX3_spreadDot 22 = .ok (.goto 4, 3) := by decide +kernel
theorem dX3_spreadDot_25 : decode cX3_spreadDot 25 = .ok (.iconst 0, 1) := by decide +kernel
theorem dX3_spreadDot_26 : decode cX3_spreadDot 26 = .ok (.istore 8, 2) := by decide +kernel
theorem dX3_spreadDot_28 : decode cX3_spreadDot 28 = .ok (.iload_n 2, 1) := by decide +kernel
theorem dX3_spreadDot_29 : decode cX3_spreadDot 29 = .ok (.iload_n 3, 1) := by decide +kernel
theorem dX3_spreadDot_30 : decode cX3_spreadDot 30 = .ok (.irem, 1) := by decide +kernel
theorem dX3_spreadDot_31 : decode cX3_spreadDot 31 = .ok (.ifCond .le 7, 3) := by decide +kernel
theorem dX3_spreadDot_34 : decode cX3_spreadDot 34 = .ok (.iconst 1, 1) := by decide +kernel
theorem dX3_spreadDot_35 : decode cX3_spreadDot 35 = .ok (.goto 4, 3) := by decide +kernel
theorem dX3_spreadDot_38 : decode cX3_spreadDot 38 = .ok (.iconst 0, 1) := by decide +kernel
theorem dX3_spreadDot_39 : decode cX3_spreadDot 39 = .ok (.istore 9, 2) := by decide +kernel
theorem dX3_spreadDot_41 : decode cX3_spreadDot 41 = .ok (.aload_n 0, 1) := by decide +kernel
theorem dX3_spreadDot_42 : decode cX3_spreadDot 42 = .ok (.iload 6, 2) := by decide +kernel
theorem dX3_spreadDot_44 : decode cX3_spreadDot 44 = .ok (.iload 7, 2) := by decide +kernel
theorem dX3_spreadDot_46 : decode cX3_spreadDot 46 = .ok (.lload 4, 2) := by decide +kernel
theorem dX3_spreadDot_48 : decode cX3_spreadDot 48 = .ok (.invokevirtual 42, 3) := by decide +kernel
theorem dX3_spreadDot_51 : decode cX3_spreadDot 51 = .ok (.aload_n 0, 1) := by decide +kernel
theorem dX3_spreadDot_52 : decode cX3_spreadDot 52 = .ok (.iload 6, 2) := by decide +kernel
theorem dX3_spreadDot_54 : decode cX3_spreadDot 54 = .ok (.iconst 1, 1) := by decide +kernel
theorem dX3_spreadDot_55 : decode cX3_spreadDot 55 = .ok (.iadd, 1) := by decide +kernel
theorem dX3_spreadDot_56 : decode cX3_spreadDot 56 = .ok (.iload 7, 2) := by decide +kernel
theorem dX3_spreadDot_58 : decode cX3_spreadDot 58 = .ok (.iload 8, 2) := by decide +kernel
theorem dX3_spreadDot_60 : decode cX3_spreadDot 60 = .ok (.ifCond .eq 8, 3) := by decide +kernel
theorem dX3_spreadDot_63 : decode cX3_spreadDot 63 = .ok (.lload 4, 2) := by decide +kernel
theorem dX3_spreadDot_65 : decode cX3_spreadDot 65 = .ok (.goto 4, 3) := by decide +kernel
theorem dX3_spreadDot_68 : decode cX3_spreadDot 68 = .ok (.lconst 0, 1) := by decide +kernel
theorem dX3_spreadDot_69 : decode cX3_spreadDot 69 = .ok (.invokevirtual 42, 3) := by decide +kernel
theorem dX3_spreadDot_72 : decode cX3_spreadDot 72 = .ok (.aload_n 0, 1) := by decide +kernel
theorem dX3_spreadDot_73 : decode cX3_spreadDot 73 = .ok (.iload 6, 2) := by decide +kernel
theorem dX3_spreadDot_75 : decode cX3_spreadDot 75 = .ok (.iload 7, 2) := by decide +kernel
theorem dX3_spreadDot_77 : decode cX3_spreadDot 77 = .ok (.iconst 1, 1) := by decide +kernel
theorem dX3_spreadDot_78 : decode cX3_spreadDot 78 = .ok (.iadd, 1) := by decide +kernel
theorem dX3_spreadDot_79 : decode cX3_spreadDot 79 = .ok (.iload 9, 2) := by decide +kernel
theorem dX3_spreadDot_81 : decode cX3_spreadDot 81 = .ok (.ifCond .eq 8, 3) := by decide +kernel
theorem dX3_spreadDot_84 : decode cX3_spreadDot 84 = .ok (.lload 4, 2) := by decide +kernel
theorem dX3_spreadDot_86 : decode cX3_spreadDot 86 = .ok (.goto 4, 3) := by decide +kernel
theorem dX3_spreadDot_89 : decode cX3_spreadDot 89 = .ok (.lconst 0, 1) := by decide +kernel
theorem dX3_spreadDot_90 : decode cX3_spreadDot 90 = .ok (.invokevirtual 42, 3) := by decide +kernel
theorem dX3_spreadDot_93 : decode cX3_spreadDot 93 = .ok (.aload_n 0, 1) := by decide +kernel
theorem dX3_spreadDot_94 : decode cX3_spreadDot 94 = .ok (.iload 6, 2) := by decide +kernel
theorem dX3_spreadDot_96 : decode cX3_spreadDot 96 = .ok (.iconst 1, 1) := by decide +kernel
theorem dX3_spreadDot_97 : decode cX3_spreadDot 97 = .ok (.iadd, 1) := by decide +kernel
theorem dX3_spreadDot_98 : decode cX3_spreadDot 98 = .ok (.iload 7, 2) := by decide +kernel
theorem dX3_spreadDot_100 : decode cX3_spreadDot 100 = .ok (.iconst 1, 1) := by decide +kernel
theorem dX3_spreadDot_101 : decode cX3_spreadDot 101 = .ok (.iadd, 1) := by decide +kernel
theorem dX3_spreadDot_102 : decode cX3_spreadDot 102 = .ok (.iload 8, 2) := by decide +kernel
theorem dX3_spreadDot_104 : decode cX3_spreadDot 104 = .ok (.ifCond .eq 13, 3) := by decide +kernel
theorem dX3_spreadDot_107 : decode cX3_spreadDot 107 = .ok (.iload 9, 2) := by decide +kernel
theorem dX3_spreadDot_109 : decode cX3_spreadDot 109 = .ok (.ifCond .eq 8, 3) := by decide +kernel
theorem dX3_spreadDot_112 : decode cX3_spreadDot 112 = .ok (.lload 4, 2) := by decide +kernel
theorem dX3_spreadDot_114 : decode cX3_spreadDot 114 = .ok (.goto 4, 3) := by decide +kernel
theorem dX3_spreadDot_117 : decode cX3_spreadDot 117 = .ok (.lconst 0, 1) := by decide +kernel
theorem dX3_spreadDot_118 : decode cX3_spreadDot 118 = .ok (.invokevirtual 42, 3) := by decide +kernel
theorem dX3_spreadDot_121 : decode cX3_spreadDot 121 = .ok (.return_, 1) := by decide +kernel
theorem dX3_shadeNodes_0 : decode cX3_shadeNodes 0 = .ok (.iload_n 1, 1) := by decide +kernel
theorem dX3_shadeNodes_1 : decode cX3_shadeNodes 1 = .ok (.ifCond .gt 5, 3) := by decide +kernel
theorem dX3_shadeNodes_4 : decode cX3_shadeNodes 4 = .ok (.lconst 0, 1) := by decide +kernel
theorem dX3_shadeNodes_5 : decode cX3_shadeNodes 5 = .ok (.lreturn, 1) := by decide +kernel
theorem dX3_shadeNodes_6 : decode cX3_shadeNodes 6 = .ok (.iload_n 0, 1) := by decide +kernel
theorem dX3_shadeNodes_7 : decode cX3_shadeNodes 7 = .ok (.iload_n 1, 1) := by decide +kernel
theorem dX3_shadeNodes_8 : decode cX3_shadeNodes 8 = .ok (.idiv, 1) := by decide +kernel
theorem dX3_shadeNodes_9 : decode cX3_shadeNodes 9 = .ok (.iconst 3, 1) := by decide +kernel
theorem dX3_shadeNodes_10 : decode cX3_shadeNodes 10 = .ok (.iadd, 1) := by decide +kernel
theorem dX3_shadeNodes_11 : decode cX3_shadeNodes 11 = .ok (.istore_n 2, 1) := by decide +kernel
theorem dX3_shadeNodes_12 : decode cX3_shadeNodes 12 = .ok (.iload_n 0, 1) := by decide +kernel
theorem dX3_shadeNodes_13 : decode cX3_shadeNodes 13 = .ok (.iload_n 1, 1) := by decide +kernel
theorem dX3_shadeNodes_14 : decode cX3_shadeNodes 14 = .ok (.irem, 1) := by decide +kernel
theorem dX3_shadeNodes_15 : decode cX3_shadeNodes 15 = .ok (.ifCond .le 9, 3) := by decide +kernel
theorem dX3_shadeNodes_18 : decode cX3_shadeNodes 18 = .ok (.ldc2_w 46, 3) := by decide +kernel
theorem dX3_shadeNodes_21 : decode cX3_shadeNodes 21 = .ok (.goto 4, 3) := by decide +kernel
theorem dX3_shadeNodes_24 : decode cX3_shadeNodes 24 = .ok (.lconst 1, 1) := by decide +kernel
theorem dX3_shadeNodes_25 : decode cX3_shadeNodes 25 = .ok (.iload_n 2, 1) := by decide +kernel
theorem dX3_shadeNodes_26 : decode cX3_shadeNodes 26 = .ok (.lshl, 1) := by decide +kernel
theorem dX3_shadeNodes_27 : decode cX3_shadeNodes 27 = .ok (.lreturn, 1) := by decide +kernel
theorem dX3_add_0 : decode cX3_add 0 = .ok (.iload_n 1, 1) := by decide +kernel
theorem dX3_add_1 : decode cX3_add 1 = .ok (.iconst 3, 1) := by decide +kernel
theorem dX3_add_2 : decode cX3_add 2 = .ok (.iadd, 1) := by decide +kernel
theorem dX3_add_3 : decode cX3_add 3 = .ok (.istore 5, 2) := by decide +kernel
theorem dX3_add_5 : decode cX3_add 5 = .ok (.iload_n 2, 1) := by decide +kernel
theorem dX3_add_6 : decode cX3_add 6 = .ok (.iconst 3, 1) := by decide +kernel
theorem dX3_add_7 : decode cX3_add 7 = .ok (.iadd, 1) := by decide +kernel
theorem dX3_add_8 : decode cX3_add 8 = .ok (.istore 6, 2) := by decide +kernel
theorem dX3_add_10 : decode cX3_add 10 = .ok (.iload 5, 2) := by decide +kernel
theorem dX3_add_12 : decode cX3_add 12 = .ok (.iconst 0, 1) := by decide +kernel
theorem dX3_add_13 : decode cX3_add 13 = .ok (.bipush 21, 2) := by decide +kernel
theorem dX3_add_15 : decode cX3_add 15 = .ok (.invokestatic 48, 3) := by decide +kernel
theorem dX3_add_18 : decode cX3_add 18 = .ok (.ifCond .eq 31, 3) := by decide +kernel
theorem dX3_add_21 : decode cX3_add 21 = .ok (.iload 6, 2) := by decide +kernel
theorem dX3_add_23 : decode cX3_add 23 = .ok (.iconst 0, 1) := by decide +kernel
theorem dX3_add_24 : decode cX3_add 24 = .ok (.bipush 17, 2) := by decide +kernel
theorem dX3_add_26 : decode cX3_add 26 = .ok (.invokestatic 48, 3) := by decide +kernel
theorem dX3_add_29 : decode cX3_add 29 = .ok (.ifCond .eq 20, 3) := by decide +kernel
theorem dX3_add_32 : decode cX3_add 32 = .ok (.aload_n 0, 1) := by decide +kernel
theorem dX3_add_33 : decode cX3_add 33 = .ok (.getfield 11, 3) := by decide +kernel
theorem dX3_add_36 : decode cX3_add 36 = .ok (.iload 5, 2) := by decide +kernel
theorem dX3_add_38 : decode cX3_add 38 = .ok (.bipush 18, 2) := by decide +kernel
theorem dX3_add_40 : decode cX3_add 40 = .ok (.imul, 1) := by decide +kernel
theorem dX3_add_41 : decode cX3_add 41 = .ok (.iload 6, 2) := by decide +kernel
theorem dX3_add_43 : decode cX3_add 43 = .ok (.iadd, 1) := by decide +kernel
theorem dX3_add_44 : decode cX3_add 44 = .ok (.dup2, 1) := by decide +kernel
theorem dX3_add_45 : decode cX3_add 45 = .ok (.laload, 1) := by decide +kernel
theorem dX3_add_46 : decode cX3_add 46 = .ok (.lload_n 3, 1) := by decide +kernel
theorem dX3_add_47 : decode cX3_add 47 = .ok (.lor, 1) := by decide +kernel
theorem dX3_add_48 : decode cX3_add 48 = .ok (.lastore, 1) := by decide +kernel
theorem dX3_add_49 : decode cX3_add 49 = .ok (.return_, 1) := by decide +kernel
theorem dX3_widen_0 : decode cX3_widen 0 = .ok (.iload_n 1, 1) := by decide +kernel
theorem dX3_widen_1 : decode cX3_widen 1 = .ok (.ifCond .ne 29, 3) := by decide +kernel
theorem dX3_widen_4 : decode cX3_widen 4 = .ok (.iconst 0, 1) := by decide +kernel
theorem dX3_widen_5 : decode cX3_widen 5 = .ok (.istore_n 2, 1) := by decide +kernel
theorem dX3_widen_6 : decode cX3_widen 6 = .ok (.iload_n 2, 1) := by decide +kernel
theorem dX3_widen_7 : decode cX3_widen 7 = .ok (.bipush 18, 2) := by decide +kernel
theorem dX3_widen_9 : decode cX3_widen 9 = .ok (.if_icmp .ge 18, 3) := by decide +kernel
theorem dX3_widen_12 : decode cX3_widen 12 = .ok (.aload_n 0, 1) := by decide +kernel
theorem dX3_widen_13 : decode cX3_widen 13 = .ok (.iload_n 2, 1) := by decide +kernel
theorem dX3_widen_14 : decode cX3_widen 14 = .ok (.bipush 18, 2) := by decide +kernel
theorem dX3_widen_16 : decode cX3_widen 16 = .ok (.bipush 22, 2) := by decide +kernel
theorem dX3_widen_18 : decode cX3_widen 18 = .ok (.invokevirtual 52, 3) := by decide +kernel
theorem dX3_widen_21 : decode cX3_widen 21 = .ok (.iinc 2 1, 3) := by decide +kernel
theorem dX3_widen_24 : decode cX3_widen 24 = .ok (.goto (-18), 3) := by decide +kernel
theorem dX3_widen_27 : decode cX3_widen 27 = .ok (.goto 77, 3) := by decide +kernel
theorem dX3_widen_30 : decode cX3_widen 30 = .ok (.iload_n 1, 1) := by decide +kernel
theorem dX3_widen_31 : decode cX3_widen 31 = .ok (.iconst 1, 1) := by decide +kernel
theorem dX3_widen_32 : decode cX3_widen 32 = .ok (.if_icmp .ne 31, 3) := by decide +kernel
theorem dX3_widen_35 : decode cX3_widen 35 = .ok (.iconst 0, 1) := by decide +kernel
theorem dX3_widen_36 : decode cX3_widen 36 = .ok (.istore_n 2, 1) := by decide +kernel
theorem dX3_widen_37 : decode cX3_widen 37 = .ok (.iload_n 2, 1) := by decide +kernel
theorem dX3_widen_38 : decode cX3_widen 38 = .ok (.bipush 22, 2) := by decide +kernel
theorem dX3_widen_40 : decode cX3_widen 40 = .ok (.if_icmp .ge 20, 3) := by decide +kernel
theorem dX3_widen_43 : decode cX3_widen 43 = .ok (.aload_n 0, 1) := by decide +kernel
theorem dX3_widen_44 : decode cX3_widen 44 = .ok (.iload_n 2, 1) := by decide +kernel
theorem dX3_widen_45 : decode cX3_widen 45 = .ok (.bipush 18, 2) := by decide +kernel
theorem dX3_widen_47 : decode cX3_widen 47 = .ok (.imul, 1) := by decide +kernel
theorem dX3_widen_48 : decode cX3_widen 48 = .ok (.iconst 1, 1) := by decide +kernel
theorem dX3_widen_49 : decode cX3_widen 49 = .ok (.bipush 18, 2) := by decide +kernel
theorem dX3_widen_51 : decode cX3_widen 51 = .ok (.invokevirtual 52, 3) := by decide +kernel
theorem dX3_widen_54 : decode cX3_widen 54 = .ok (.iinc 2 1, 3) := by decide +kernel
theorem dX3_widen_57 : decode cX3_widen 57 = .ok (.goto (-20), 3) := by decide +kernel
theorem dX3_widen_60 : decode cX3_widen 60 = .ok (.goto 44, 3) := by decide +kernel
theorem dX3_widen_63 : decode cX3_widen 63 = .ok (.iconst 0, 1) := by decide +kernel
theorem dX3_widen_64 : decode cX3_widen 64 = .ok (.istore_n 2, 1) := by decide +kernel
theorem dX3_widen_65 : decode cX3_widen 65 = .ok (.iload_n 2, 1) := by decide +kernel
theorem dX3_widen_66 : decode cX3_widen 66 = .ok (.sipush 396, 3) := by decide +kernel
theorem dX3_widen_69 : decode cX3_widen 69 = .ok (.if_icmp .ge 35, 3) := by decide +kernel
theorem dX3_widen_72 : decode cX3_widen 72 = .ok (.aload_n 0, 1) := by decide +kernel
theorem dX3_widen_73 : decode cX3_widen 73 = .ok (.getfield 11, 3) := by decide +kernel
theorem dX3_widen_76 : decode cX3_widen 76 = .ok (.iload_n 2, 1) := by decide +kernel
theorem dX3_widen_77 : decode cX3_widen 77 = .ok (.dup2, 1) := by decide +kernel
theorem dX3_widen_78 : decode cX3_widen 78 = .ok (.laload, 1) := by decide +kernel
theorem dX3_widen_79 : decode cX3_widen 79 = .ok (.aload_n 0, 1) := by decide +kernel
theorem dX3_widen_80 : decode cX3_widen 80 = .ok (.getfield 11, 3) := by decide +kernel
theorem dX3_widen_83 : decode cX3_widen 83 = .ok (.iload_n 2, 1) := by decide +kernel
theorem dX3_widen_84 : decode cX3_widen 84 = .ok (.laload, 1) := by decide +kernel
theorem dX3_widen_85 : decode cX3_widen 85 = .ok (.iconst 1, 1) := by decide +kernel
theorem dX3_widen_86 : decode cX3_widen 86 = .ok (.lshl, 1) := by decide +kernel
theorem dX3_widen_87 : decode cX3_widen 87 = .ok (.aload_n 0, 1) := by decide +kernel
theorem dX3_widen_88 : decode cX3_widen 88 = .ok (.getfield 11, 3) := by decide +kernel
theorem dX3_widen_91 : decode cX3_widen 91 = .ok (.iload_n 2, 1) := by decide +kernel
theorem dX3_widen_92 : decode cX3_widen 92 = .ok (.laload, 1) := by decide +kernel
theorem dX3_widen_93 : decode cX3_widen 93 = .ok (.iconst 1, 1) := by decide +kernel
theorem dX3_widen_94 : decode cX3_widen 94 = .ok (.lushr, 1) := by decide +kernel
theorem dX3_widen_95 : decode cX3_widen 95 = .ok (.lor, 1) := by decide +kernel
theorem dX3_widen_96 : decode cX3_widen 96 = .ok (.lor, 1) := by decide +kernel
theorem dX3_widen_97 : decode cX3_widen 97 = .ok (.lastore, 1) := by decide +kernel
theorem dX3_widen_98 : decode cX3_widen 98 = .ok (.iinc 2 1, 3) := by decide +kernel
theorem dX3_widen_101 : decode cX3_widen 101 = .ok (.goto (-36), 3) := by decide +kernel
theorem dX3_widen_104 : decode cX3_widen 104 = .ok (.return_, 1) := by decide +kernel
theorem dX3_widenLine_0 : decode cX3_widenLine 0 = .ok (.lconst 0, 1) := by decide +kernel
theorem dX3_widenLine_1 : decode cX3_widenLine 1 = .ok (.lstore 4, 2) := by decide +kernel
theorem dX3_widenLine_3 : decode cX3_widenLine 3 = .ok (.iconst 0, 1) := by decide +kernel
theorem dX3_widenLine_4 : decode cX3_widenLine 4 = .ok (.istore 6, 2) := by decide +kernel
theorem dX3_widenLine_6 : decode cX3_widenLine 6 = .ok (.iload 6, 2) := by decide +kernel
theorem dX3_widenLine_8 : decode cX3_widenLine 8 = .ok (.iload_n 3, 1) := by decide +kernel
theorem dX3_widenLine_9 : decode cX3_widenLine 9 = .ok (.if_icmp .ge 68, 3) := by decide +kernel
theorem dX3_widenLine_12 : decode cX3_widenLine 12 = .ok (.iload_n 1, 1) := by decide +kernel
theorem dX3_widenLine_13 : decode cX3_widenLine 13 = .ok (.iload 6, 2) := by decide +kernel
theorem dX3_widenLine_15 : decode cX3_widenLine 15 = .ok (.iload_n 2, 1) := by decide +kernel
theorem dX3_widenLine_16 : decode cX3_widenLine 16 = .ok (.imul, 1) := by decide +kernel
theorem dX3_widenLine_17 : decode cX3_widenLine 17 = .ok (.iadd, 1) := by decide +kernel
theorem dX3_widenLine_18 : decode cX3_widenLine 18 = .ok (.istore 7, 2) := by decide +kernel
theorem dX3_widenLine_20 : decode cX3_widenLine 20 = .ok (.aload_n 0, 1) := by decide +kernel
theorem dX3_widenLine_21 : decode cX3_widenLine 21 = .ok (.getfield 11, 3) := by decide +kernel
theorem dX3_widenLine_24 : decode cX3_widenLine 24 = .ok (.iload 7, 2) := by decide +kernel
theorem dX3_widenLine_26 : decode cX3_widenLine 26 = .ok (.laload, 1) := by decide +kernel
theorem dX3_widenLine_27 : decode cX3_widenLine 27 = .ok (.lstore 8, 2) := by decide +kernel
theorem dX3_widenLine_29 : decode cX3_widenLine 29 = .ok (.iload 6, 2) := by decide +kernel
theorem dX3_widenLine_31 : decode cX3_widenLine 31 = .ok (.iload_n 3, 1) := by decide +kernel
theorem dX3_widenLine_32 : decode cX3_widenLine 32 = .ok (.iconst 1, 1) := by decide +kernel
theorem dX3_widenLine_33 : decode cX3_widenLine 33 = .ok (.isub, 1) := by decide +kernel
theorem dX3_widenLine_34 : decode cX3_widenLine 34 = .ok (.if_icmp .ge 15, 3) := by decide +kernel
theorem dX3_widenLine_37 : decode cX3_widenLine 37 = .ok (.aload_n 0, 1) := by decide +kernel
theorem dX3_widenLine_38 : decode cX3_widenLine 38 = .ok (.getfield 11, 3) := by decide +kernel
theorem dX3_widenLine_41 : decode cX3_widenLine 41 = .ok (.iload 7, 2) := by decide +kernel
theorem dX3_widenLine_43 : decode cX3_widenLine 43 = .ok (.iload_n 2, 1) := by decide +kernel
theorem dX3_widenLine_44 : decode cX3_widenLine 44 = .ok (.iadd, 1) := by decide +kernel
theorem dX3_widenLine_45 : decode cX3_widenLine 45 = .ok (.laload, 1) := by decide +kernel
theorem dX3_widenLine_46 : decode cX3_widenLine 46 = .ok (.goto 4, 3) := by decide +kernel
theorem dX3_widenLine_49 : decode cX3_widenLine 49 = .ok (.lconst 0, 1) := by decide +kernel
theorem dX3_widenLine_50 : decode cX3_widenLine 50 = .ok (.lstore 10, 2) := by decide +kernel
theorem dX3_widenLine_52 : decode cX3_widenLine 52 = .ok (.aload_n 0, 1) := by decide +kernel
theorem dX3_widenLine_53 : decode cX3_widenLine 53 = .ok (.getfield 11, 3) := by decide +kernel
theorem dX3_widenLine_56 : decode cX3_widenLine 56 = .ok (.iload 7, 2) := by decide +kernel
theorem dX3_widenLine_58 : decode cX3_widenLine 58 = .ok (.lload 4, 2) := by decide +kernel
theorem dX3_widenLine_60 : decode cX3_widenLine 60 = .ok (.lload 8, 2) := by decide +kernel
theorem dX3_widenLine_62 : decode cX3_widenLine 62 = .ok (.lor, 1) := by decide +kernel
theorem dX3_widenLine_63 : decode cX3_widenLine 63 = .ok (.lload 10, 2) := by decide +kernel
theorem dX3_widenLine_65 : decode cX3_widenLine 65 = .ok (.lor, 1) := by decide +kernel
theorem dX3_widenLine_66 : decode cX3_widenLine 66 = .ok (.lastore, 1) := by decide +kernel
theorem dX3_widenLine_67 : decode cX3_widenLine 67 = .ok (.lload 8, 2) := by decide +kernel
theorem dX3_widenLine_69 : decode cX3_widenLine 69 = .ok (.lstore 4, 2) := by decide +kernel
theorem dX3_widenLine_71 : decode cX3_widenLine 71 = .ok (.iinc 6 1, 3) := by decide +kernel
theorem dX3_widenLine_74 : decode cX3_widenLine 74 = .ok (.goto (-68), 3) := by decide +kernel
theorem dX3_widenLine_77 : decode cX3_widenLine 77 = .ok (.return_, 1) := by decide +kernel
theorem dX3_count_0 : decode cX3_count 0 = .ok (.iconst 0, 1) := by decide +kernel
theorem dX3_count_1 : decode cX3_count 1 = .ok (.istore_n 1, 1) := by decide +kernel
theorem dX3_count_2 : decode cX3_count 2 = .ok (.iconst 0, 1) := by decide +kernel
theorem dX3_count_3 : decode cX3_count 3 = .ok (.istore_n 2, 1) := by decide +kernel
theorem dX3_count_4 : decode cX3_count 4 = .ok (.iload_n 2, 1) := by decide +kernel
theorem dX3_count_5 : decode cX3_count 5 = .ok (.sipush 396, 3) := by decide +kernel
theorem dX3_count_8 : decode cX3_count 8 = .ok (.if_icmp .ge 21, 3) := by decide +kernel
theorem dX3_count_11 : decode cX3_count 11 = .ok (.iload_n 1, 1) := by decide +kernel
theorem dX3_count_12 : decode cX3_count 12 = .ok (.aload_n 0, 1) := by decide +kernel
theorem dX3_count_13 : decode cX3_count 13 = .ok (.getfield 11, 3) := by decide +kernel
theorem dX3_count_16 : decode cX3_count 16 = .ok (.iload_n 2, 1) := by decide +kernel
theorem dX3_count_17 : decode cX3_count 17 = .ok (.laload, 1) := by decide +kernel
theorem dX3_count_18 : decode cX3_count 18 = .ok (.invokestatic 56, 3) := by decide +kernel
theorem dX3_count_21 : decode cX3_count 21 = .ok (.iadd, 1) := by decide +kernel
theorem dX3_count_22 : decode cX3_count 22 = .ok (.istore_n 1, 1) := by decide +kernel
theorem dX3_count_23 : decode cX3_count 23 = .ok (.iinc 2 1, 3) := by decide +kernel
theorem dX3_count_26 : decode cX3_count 26 = .ok (.goto (-22), 3) := by decide +kernel
theorem dX3_count_29 : decode cX3_count 29 = .ok (.iload_n 1, 1) := by decide +kernel
theorem dX3_count_30 : decode cX3_count 30 = .ok (.ireturn, 1) := by decide +kernel
theorem dX3_placeOf_0 : decode cX3_placeOf 0 = .ok (.iload_n 1, 1) := by decide +kernel
theorem dX3_placeOf_1 : decode cX3_placeOf 1 = .ok (.istore_n 3, 1) := by decide +kernel
theorem dX3_placeOf_2 : decode cX3_placeOf 2 = .ok (.iconst 0, 1) := by decide +kernel
theorem dX3_placeOf_3 : decode cX3_placeOf 3 = .ok (.istore 4, 2) := by decide +kernel
theorem dX3_placeOf_5 : decode cX3_placeOf 5 = .ok (.iload 4, 2) := by decide +kernel
theorem dX3_placeOf_7 : decode cX3_placeOf 7 = .ok (.sipush 396, 3) := by decide +kernel
theorem dX3_placeOf_10 : decode cX3_placeOf 10 = .ok (.if_icmp .ge 71, 3) := by decide +kernel
theorem dX3_placeOf_13 : decode cX3_placeOf 13 = .ok (.aload_n 0, 1) := by decide +kernel
theorem dX3_placeOf_14 : decode cX3_placeOf 14 = .ok (.getfield 11, 3) := by decide +kernel
theorem dX3_placeOf_17 : decode cX3_placeOf 17 = .ok (.iload 4, 2) := by decide +kernel
theorem dX3_placeOf_19 : decode cX3_placeOf 19 = .ok (.laload, 1) := by decide +kernel
theorem dX3_placeOf_20 : decode cX3_placeOf 20 = .ok (.invokestatic 56, 3) := by decide +kernel
theorem dX3_placeOf_23 : decode cX3_placeOf 23 = .ok (.istore 5, 2) := by decide +kernel
theorem dX3_placeOf_25 : decode cX3_placeOf 25 = .ok (.iload_n 3, 1) := by decide +kernel
theorem dX3_placeOf_26 : decode cX3_placeOf 26 = .ok (.iload 5, 2) := by decide +kernel
theorem dX3_placeOf_28 : decode cX3_placeOf 28 = .ok (.if_icmp .ge 42, 3) := by decide +kernel
theorem dX3_placeOf_31 : decode cX3_placeOf 31 = .ok (.iload_n 2, 1) := by decide +kernel
theorem dX3_placeOf_32 : decode cX3_placeOf 32 = .ok (.ifCond .ne 11, 3) := by decide +kernel
theorem dX3_placeOf_35 : decode cX3_placeOf 35 = .ok (.iload 4, 2) := by decide +kernel
theorem dX3_placeOf_37 : decode cX3_placeOf 37 = .ok (.bipush 18, 2) := by decide +kernel
theorem dX3_placeOf_39 : decode cX3_placeOf 39 = .ok (.idiv, 1) := by decide +kernel
theorem dX3_placeOf_40 : decode cX3_placeOf 40 = .ok (.goto 27, 3) := by decide +kernel
theorem dX3_placeOf_43 : decode cX3_placeOf 43 = .ok (.iload_n 2, 1) := by decide +kernel
theorem dX3_placeOf_44 : decode cX3_placeOf 44 = .ok (.iconst 1, 1) := by decide +kernel
theorem dX3_placeOf_45 : decode cX3_placeOf 45 = .ok (.if_icmp .ne 11, 3) := by decide +kernel
theorem dX3_placeOf_48 : decode cX3_placeOf 48 = .ok (.iload 4, 2) := by decide +kernel
theorem dX3_placeOf_50 : decode cX3_placeOf 50 = .ok (.bipush 18, 2) := by decide +kernel
theorem dX3_placeOf_52 : decode cX3_placeOf 52 = .ok (.irem, 1) := by decide +kernel
theorem dX3_placeOf_53 : decode cX3_placeOf 53 = .ok (.goto 14, 3) := by decide +kernel
theorem dX3_placeOf_56 : decode cX3_placeOf 56 = .ok (.aload_n 0, 1) := by decide +kernel
theorem dX3_placeOf_57 : decode cX3_placeOf 57 = .ok (.getfield 11, 3) := by decide +kernel
theorem dX3_placeOf_60 : decode cX3_placeOf 60 = .ok (.iload 4, 2) := by decide +kernel
theorem dX3_placeOf_62 : decode cX3_placeOf 62 = .ok (.laload, 1) := by decide +kernel
theorem dX3_placeOf_63 : decode cX3_placeOf 63 = .ok (.iload_n 3, 1) := by decide +kernel
theorem dX3_placeOf_64 : decode cX3_placeOf 64 = .ok (.invokestatic 62, 3) := by decide +kernel
theorem dX3_placeOf_67 : decode cX3_placeOf 67 = .ok (.iconst 3, 1) := by decide +kernel
theorem dX3_placeOf_68 : decode cX3_placeOf 68 = .ok (.isub, 1) := by decide +kernel
theorem dX3_placeOf_69 : decode cX3_placeOf 69 = .ok (.ireturn, 1) := by decide +kernel
theorem dX3_placeOf_70 : decode cX3_placeOf 70 = .ok (.iload_n 3, 1) := by decide +kernel
theorem dX3_placeOf_71 : decode cX3_placeOf 71 = .ok (.iload 5, 2) := by decide +kernel
theorem dX3_placeOf_73 : decode cX3_placeOf 73 = .ok (.isub, 1) := by decide +kernel
theorem dX3_placeOf_74 : decode cX3_placeOf 74 = .ok (.istore_n 3, 1) := by decide +kernel
theorem dX3_placeOf_75 : decode cX3_placeOf 75 = .ok (.iinc 4 1, 3) := by decide +kernel
theorem dX3_placeOf_78 : decode cX3_placeOf 78 = .ok (.goto (-73), 3) := by decide +kernel
theorem dX3_placeOf_81 : decode cX3_placeOf 81 = .ok (.sipush (-1000), 3) := by decide +kernel
theorem dX3_placeOf_84 : decode cX3_placeOf 84 = .ok (.ireturn, 1) := by decide +kernel
theorem dX3_bitOfRank_0 : decode cX3_bitOfRank 0 = .ok (.iload_n 2, 1) := by decide +kernel
theorem dX3_bitOfRank_1 : decode cX3_bitOfRank 1 = .ok (.istore_n 3, 1) := by decide +kernel
theorem dX3_bitOfRank_2 : decode cX3_bitOfRank 2 = .ok (.iconst 0, 1) := by decide +kernel
theorem dX3_bitOfRank_3 : decode cX3_bitOfRank 3 = .ok (.istore 4, 2) := by decide +kernel
theorem dX3_bitOfRank_5 : decode cX3_bitOfRank 5 = .ok (.iload 4, 2) := by decide +kernel
theorem dX3_bitOfRank_7 : decode cX3_bitOfRank 7 = .ok (.bipush 39, 2) := by decide +kernel
theorem dX3_bitOfRank_9 : decode cX3_bitOfRank 9 = .ok (.if_icmp .ge 30, 3) := by decide +kernel
theorem dX3_bitOfRank_12 : decode cX3_bitOfRank 12 = .ok (.lload_n 0, 1) := by decide +kernel
theorem dX3_bitOfRank_13 : decode cX3_bitOfRank 13 = .ok (.iload 4, 2) := by decide +kernel
theorem dX3_bitOfRank_15 : decode cX3_bitOfRank 15 = .ok (.lushr, 1) := by decide +kernel
theorem dX3_bitOfRank_16 : decode cX3_bitOfRank 16 = .ok (.lconst 1, 1) := by decide +kernel
theorem dX3_bitOfRank_17 : decode cX3_bitOfRank 17 = .ok (.land, 1) := by decide +kernel
theorem dX3_bitOfRank_18 : decode cX3_bitOfRank 18 = .ok (.lconst 0, 1) := by decide +kernel
theorem dX3_bitOfRank_19 : decode cX3_bitOfRank 19 = .ok (.lcmp, 1) := by decide +kernel
theorem dX3_bitOfRank_20 : decode cX3_bitOfRank 20 = .ok (.ifCond .eq 13, 3) := by decide +kernel
theorem dX3_bitOfRank_23 : decode cX3_bitOfRank 23 = .ok (.iload_n 3, 1) := by decide +kernel
theorem dX3_bitOfRank_24 : decode cX3_bitOfRank 24 = .ok (.ifCond .ne 6, 3) := by decide +kernel
theorem dX3_bitOfRank_27 : decode cX3_bitOfRank 27 = .ok (.iload 4, 2) := by decide +kernel
theorem dX3_bitOfRank_29 : decode cX3_bitOfRank 29 = .ok (.ireturn, 1) := by decide +kernel
theorem dX3_bitOfRank_30 : decode cX3_bitOfRank 30 = .ok (.iinc 3 (-1), 3) := by decide +kernel
theorem dX3_bitOfRank_33 : decode cX3_bitOfRank 33 = .ok (.iinc 4 1, 3) := by decide +kernel
theorem dX3_bitOfRank_36 : decode cX3_bitOfRank 36 = .ok (.goto (-31), 3) := by decide +kernel
theorem dX3_bitOfRank_39 : decode cX3_bitOfRank 39 = .ok (.iconst 0, 1) := by decide +kernel
theorem dX3_bitOfRank_40 : decode cX3_bitOfRank 40 = .ok (.ireturn, 1) := by decide +kernel
theorem dX4_findIn_0 : decode cX4_findIn 0 = .ok (.aload_n 0, 1) := by decide +kernel
theorem dX4_findIn_1 : decode cX4_findIn 1 = .ok (.iconst 0, 1) := by decide +kernel
theorem dX4_findIn_2 : decode cX4_findIn 2 = .ok (.putfield 15, 3) := by decide +kernel
theorem dX4_findIn_5 : decode cX4_findIn 5 = .ok (.iconst 0, 1) := by decide +kernel
theorem dX4_findIn_6 : decode cX4_findIn 6 = .ok (.istore_n 2, 1) := by decide +kernel
theorem dX4_findIn_7 : decode cX4_findIn 7 = .ok (.iload_n 2, 1) := by decide +kernel
theorem dX4_findIn_8 : decode cX4_findIn 8 = .ok (.aload_n 1, 1) := by decide +kernel
theorem dX4_findIn_9 : decode cX4_findIn 9 = .ok (.getfield 19, 3) := by decide +kernel
theorem dX4_findIn_12 : decode cX4_findIn 12 = .ok (.if_icmp .ge 83, 3) := by decide +kernel
theorem dX4_findIn_15 : decode cX4_findIn 15 = .ok (.iconst 0, 1) := by decide +kernel
theorem dX4_findIn_16 : decode cX4_findIn 16 = .ok (.istore_n 3, 1) := by decide +kernel
theorem dX4_findIn_17 : decode cX4_findIn 17 = .ok (.iload_n 3, 1) := by decide +kernel
theorem dX4_findIn_18 : decode cX4_findIn 18 = .ok (.aload_n 1, 1) := by decide +kernel
theorem dX4_findIn_19 : decode cX4_findIn 19 = .ok (.getfield 24, 3) := by decide +kernel
theorem dX4_findIn_22 : decode cX4_findIn 22 = .ok (.if_icmp .ge 67, 3) := by decide +kernel
theorem dX4_findIn_25 : decode cX4_findIn 25 = .ok (.aload_n 1, 1) := by decide +kernel
theorem dX4_findIn_26 : decode cX4_findIn 26 = .ok (.iload_n 3, 1) := by decide +kernel
theorem dX4_findIn_27 : decode cX4_findIn 27 = .ok (.iconst 1, 1) := by decide +kernel
theorem dX4_findIn_28 : decode cX4_findIn 28 = .ok (.iadd, 1) := by decide +kernel
theorem dX4_findIn_29 : decode cX4_findIn 29 = .ok (.iload_n 2, 1) := by decide +kernel
theorem dX4_findIn_30 : decode cX4_findIn 30 = .ok (.invokevirtual 27, 3) := by decide +kernel
theorem dX4_findIn_33 : decode cX4_findIn 33 = .ok (.ifCond .eq 21, 3) := by decide +kernel
theorem dX4_findIn_36 : decode cX4_findIn 36 = .ok (.aload_n 0, 1) := by decide +kernel
theorem dX4_findIn_37 : decode cX4_findIn 37 = .ok (.aload_n 1, 1) := by decide +kernel
theorem dX4_findIn_38 : decode cX4_findIn 38 = .ok (.iload_n 3, 1) := by decide +kernel
theorem dX4_findIn_39 : decode cX4_findIn 39 = .ok (.iload_n 2, 1) := by decide +kernel
theorem dX4_findIn_40 : decode cX4_findIn 40 = .ok (.invokevirtual 31, 3) := by decide +kernel
theorem dX4_findIn_43 : decode cX4_findIn 43 = .ok (.aload_n 1, 1) := by decide +kernel
theorem dX4_findIn_44 : decode cX4_findIn 44 = .ok (.iload_n 3, 1) := by decide +kernel
theorem dX4_findIn_45 : decode cX4_findIn 45 = .ok (.iconst 1, 1) := by decide +kernel
theorem dX4_findIn_46 : decode cX4_findIn 46 = .ok (.iadd, 1) := by decide +kernel
theorem dX4_findIn_47 : decode cX4_findIn 47 = .ok (.iload_n 2, 1) := by decide +kernel
theorem dX4_findIn_48 : decode cX4_findIn 48 = .ok (.invokevirtual 31, 3) := by decide +kernel
theorem dX4_findIn_51 : decode cX4_findIn 51 = .ok (.invokevirtual 35, 3) := by decide +kernel
theorem dX4_findIn_54 : decode cX4_findIn 54 = .ok (.aload_n 1, 1) := by decide +kernel
theorem dX4_findIn_55 : decode cX4_findIn 55 = .ok (.iload_n 3, 1) := by decide +kernel
theorem dX4_findIn_56 : decode cX4_findIn 56 = .ok (.iload_n 2, 1) := by decide +kernel
theorem dX4_findIn_57 : decode cX4_findIn 57 = .ok (.iconst 1, 1) := by decide +kernel
theorem dX4_findIn_58 : decode cX4_findIn 58 = .ok (.iadd, 1) := by decide +kernel
theorem dX4_findIn_59 : decode cX4_findIn 59 = .ok (.invokevirtual 27, 3) := by decide +kernel
theorem dX4_findIn_62 : decode cX4_findIn 62 = .ok (.ifCond .eq 21, 3) := by decide +kernel
theorem dX4_findIn_65 : decode cX4_findIn 65 = .ok (.aload_n 0, 1) := by decide +kernel
theorem dX4_findIn_66 : decode cX4_findIn 66 = .ok (.aload_n 1, 1) := by decide +kernel
theorem dX4_findIn_67 : decode cX4_findIn 67 = .ok (.iload_n 3, 1) := by decide +kernel
theorem dX4_findIn_68 : decode cX4_findIn 68 = .ok (.iload_n 2, 1) := by decide +kernel
theorem dX4_findIn_69 : decode cX4_findIn 69 = .ok (.invokevirtual 31, 3) := by decide +kernel
theorem dX4_findIn_72 : decode cX4_findIn 72 = .ok (.aload_n 1, 1) := by decide +kernel
theorem dX4_findIn_73 : decode cX4_findIn 73 = .ok (.iload_n 3, 1) := by decide +kernel
theorem dX4_findIn_74 : decode cX4_findIn 74 = .ok (.iload_n 2, 1) := by decide +kernel
theorem dX4_findIn_75 : decode cX4_findIn 75 = .ok (.iconst 1, 1) := by decide +kernel
theorem dX4_findIn_76 : decode cX4_findIn 76 = .ok (.iadd, 1) := by decide +kernel
theorem dX4_findIn_77 : decode cX4_findIn 77 = .ok (.invokevirtual 31, 3) := by decide +kernel
theorem dX4_findIn_80 : decode cX4_findIn 80 = .ok (.invokevirtual 35, 3) := by decide +kernel
theorem dX4_findIn_83 : decode cX4_findIn 83 = .ok (.iinc 3 1, 3) := by decide +kernel
theorem dX4_findIn_86 : decode cX4_findIn 86 = .ok (.goto (-69), 3) := by decide +kernel
theorem dX4_findIn_89 : decode cX4_findIn 89 = .ok (.iinc 2 1, 3) := by decide +kernel
theorem dX4_findIn_92 : decode cX4_findIn 92 = .ok (.goto (-85), 3) := by decide +kernel
theorem dX4_findIn_95 : decode cX4_findIn 95 = .ok (.aload_n 0, 1) := by decide +kernel
theorem dX4_findIn_96 : decode cX4_findIn 96 = .ok (.invokevirtual 39, 3) := by decide +kernel
theorem dX4_findIn_99 : decode cX4_findIn 99 = .ok (.aload_n 0, 1) := by decide +kernel
theorem dX4_findIn_100 : decode cX4_findIn 100 = .ok (.invokevirtual 42, 3) := by decide +kernel
theorem dX4_findIn_103 : decode cX4_findIn 103 = .ok (.return_, 1) := by decide +kernel
theorem dX4_add_0 : decode cX4_add 0 = .ok (.aload_n 0, 1) := by decide +kernel
theorem dX4_add_1 : decode cX4_add 1 = .ok (.getfield 15, 3) := by decide +kernel
theorem dX4_add_4 : decode cX4_add 4 = .ok (.sipush 356, 3) := by decide +kernel
theorem dX4_add_7 : decode cX4_add 7 = .ok (.if_icmp .ge 37, 3) := by decide +kernel
theorem dX4_add_10 : decode cX4_add 10 = .ok (.aload_n 0, 1) := by decide +kernel
theorem dX4_add_11 : decode cX4_add 11 = .ok (.getfield 11, 3) := by decide +kernel
theorem dX4_add_14 : decode cX4_add 14 = .ok (.aload_n 0, 1) := by decide +kernel
theorem dX4_add_15 : decode cX4_add 15 = .ok (.getfield 15, 3) := by decide +kernel
theorem dX4_add_18 : decode cX4_add 18 = .ok (.iload_n 1, 1) := by decide +kernel
theorem dX4_add_19 : decode cX4_add 19 = .ok (.iload_n 2, 1) := by decide +kernel
theorem dX4_add_20 : decode cX4_add 20 = .ok (.invokestatic 45, 3) := by decide +kernel
theorem dX4_add_23 : decode cX4_add 23 = .ok (.sipush 256, 3) := by decide +kernel
theorem dX4_add_26 : decode cX4_add 26 = .ok (.imul, 1) := by decide +kernel
theorem dX4_add_27 : decode cX4_add 27 = .ok (.iload_n 1, 1) := by decide +kernel
theorem dX4_add_28 : decode cX4_add 28 = .ok (.iload_n 2, 1) := by decide +kernel
theorem dX4_add_29 : decode cX4_add 29 = .ok (.invokestatic 50, 3) := by decide +kernel
theorem dX4_add_32 : decode cX4_add 32 = .ok (.iadd, 1) := by decide +kernel
theorem dX4_add_33 : decode cX4_add 33 = .ok (.iastore, 1) := by decide +kernel
theorem dX4_add_34 : decode cX4_add 34 = .ok (.aload_n 0, 1) := by decide +kernel
theorem dX4_add_35 : decode cX4_add 35 = .ok (.dup, 1) := by decide +kernel
theorem dX4_add_36 : decode cX4_add 36 = .ok (.getfield 15, 3) := by decide +kernel
theorem dX4_add_39 : decode cX4_add 39 = .ok (.iconst 1, 1) := by decide +kernel
theorem dX4_add_40 : decode cX4_add 40 = .ok (.iadd, 1) := by decide +kernel
theorem dX4_add_41 : decode cX4_add 41 = .ok (.putfield 15, 3) := by decide +kernel
theorem dX4_add_44 : decode cX4_add 44 = .ok (.return_, 1) := by decide +kernel
theorem dX4_sort_0 : decode cX4_sort 0 = .ok (.getstatic 53, 3) := by decide +kernel
theorem dX4_sort_3 : decode cX4_sort 3 = .ok (.astore_n 1, 1) := by decide +kernel
theorem dX4_sort_4 : decode cX4_sort 4 = .ok (.aload_n 1, 1) := by decide +kernel
theorem dX4_sort_5 : decode cX4_sort 5 = .ok (.arraylength, 1) := by decide +kernel
theorem dX4_sort_6 : decode cX4_sort 6 = .ok (.istore_n 2, 1) := by decide +kernel
theorem dX4_sort_7 : decode cX4_sort 7 = .ok (.iconst 0, 1) := by decide +kernel
theorem dX4_sort_8 : decode cX4_sort 8 = .ok (.istore_n 3, 1) := by decide +kernel
theorem dX4_sort_9 : decode cX4_sort 9 = .ok (.iload_n 3, 1) := by decide +kernel
theorem dX4_sort_10 : decode cX4_sort 10 = .ok (.iload_n 2, 1) := by decide +kernel
theorem dX4_sort_11 : decode cX4_sort 11 = .ok (.if_icmp .ge 41, 3) := by decide +kernel
theorem dX4_sort_14 : decode cX4_sort 14 = .ok (.aload_n 1, 1) := by decide +kernel
theorem dX4_sort_15 : decode cX4_sort 15 = .ok (.iload_n 3, 1) := by decide +kernel
theorem dX4_sort_16 : decode cX4_sort 16 = .ok (.iaload, 1) := by decide +kernel
theorem dX4_sort_17 : decode cX4_sort 17 = .ok (.istore 4, 2) := by decide +kernel
theorem dX4_sort_19 : decode cX4_sort 19 = .ok (.iload 4, 2) := by decide +kernel
theorem dX4_sort_21 : decode cX4_sort 21 = .ok (.istore 5, 2) := by decide +kernel
theorem dX4_sort_23 : decode cX4_sort 23 = .ok (.iload 5, 2) := by decide +kernel
theorem dX4_sort_25 : decode cX4_sort 25 = .ok (.aload_n 0, 1) := by decide +kernel
theorem dX4_sort_26 : decode cX4_sort 26 = .ok (.getfield 15, 3) := by decide +kernel
theorem dX4_sort_29 : decode cX4_sort 29 = .ok (.if_icmp .ge 17, 3) := by decide +kernel
theorem dX4_sort_32 : decode cX4_sort 32 = .ok (.aload_n 0, 1) := by decide +kernel
theorem dX4_sort_33 : decode cX4_sort 33 = .ok (.iload 5, 2) := by decide +kernel
theorem dX4_sort_35 : decode cX4_sort 35 = .ok (.iload 4, 2) := by decide +kernel
theorem dX4_sort_37 : decode cX4_sort 37 = .ok (.invokevirtual 56, 3) := by decide +kernel
theorem dX4_sort_40 : decode cX4_sort 40 = .ok (.iinc 5 1, 3) := by decide +kernel
theorem dX4_sort_43 : decode cX4_sort 43 = .ok (.goto (-20), 3) := by decide +kernel
theorem dX4_sort_46 : decode cX4_sort 46 = .ok (.iinc 3 1, 3) := by decide +kernel
theorem dX4_sort_49 : decode cX4_sort 49 = .ok (.goto (-40), 3) := by decide +kernel
theorem dX4_sort_52 : decode cX4_sort 52 = .ok (.return_, 1) := by decide +kernel
theorem dX4_sink_0 : decode cX4_sink 0 = .ok (.aload_n 0, 1) := by decide +kernel
theorem dX4_sink_1 : decode cX4_sink 1 = .ok (.getfield 11, 3) := by decide +kernel
theorem dX4_sink_4 : decode cX4_sink 4 = .ok (.iload_n 1, 1) := by decide +kernel
theorem dX4_sink_5 : decode cX4_sink 5 = .ok (.iaload, 1) := by decide +kernel
theorem dX4_sink_6 : decode cX4_sink 6 = .ok (.istore_n 3, 1) := by decide +kernel
theorem dX4_sink_7 : decode cX4_sink 7 = .ok (.iload_n 1, 1) := by decide +kernel
theorem dX4_sink_8 : decode cX4_sink 8 = .ok (.istore 4, 2) := by decide +kernel
theorem dX4_sink_10 : decode cX4_sink 10 = .ok (.iload_n 2, 1) := by decide +kernel
theorem dX4_sink_11 : decode cX4_sink 11 = .ok (.ifCond .le 47, 3) := by decide +kernel
theorem dX4_sink_14 : decode cX4_sink 14 = .ok (.iload 4, 2) := by decide +kernel
theorem dX4_sink_16 : decode cX4_sink 16 = .ok (.iload_n 2, 1) := by decide +kernel
theorem dX4_sink_17 : decode cX4_sink 17 = .ok (.if_icmp .lt 41, 3) := by decide +kernel
theorem dX4_sink_20 : decode cX4_sink 20 = .ok (.aload_n 0, 1) := by decide +kernel
theorem dX4_sink_21 : decode cX4_sink 21 = .ok (.getfield 11, 3) := by decide +kernel
theorem dX4_sink_24 : decode cX4_sink 24 = .ok (.iload 4, 2) := by decide +kernel
theorem dX4_sink_26 : decode cX4_sink 26 = .ok (.iload_n 2, 1) := by decide +kernel
theorem dX4_sink_27 : decode cX4_sink 27 = .ok (.isub, 1) := by decide +kernel
theorem dX4_sink_28 : decode cX4_sink 28 = .ok (.iaload, 1) := by decide +kernel
theorem dX4_sink_29 : decode cX4_sink 29 = .ok (.iload_n 3, 1) := by decide +kernel
theorem dX4_sink_30 : decode cX4_sink 30 = .ok (.if_icmp .le 28, 3) := by decide +kernel
theorem dX4_sink_33 : decode cX4_sink 33 = .ok (.aload_n 0, 1) := by decide +kernel
theorem dX4_sink_34 : decode cX4_sink 34 = .ok (.getfield 11, 3) := by decide +kernel
theorem dX4_sink_37 : decode cX4_sink 37 = .ok (.iload 4, 2) := by decide +kernel
theorem dX4_sink_39 : decode cX4_sink 39 = .ok (.aload_n 0, 1) := by decide +kernel
theorem dX4_sink_40 : decode cX4_sink 40 = .ok (.getfield 11, 3) := by decide +kernel
theorem dX4_sink_43 : decode cX4_sink 43 = .ok (.iload 4, 2) := by decide +kernel
theorem dX4_sink_45 : decode cX4_sink 45 = .ok (.iload_n 2, 1) := by decide +kernel
theorem dX4_sink_46 : decode cX4_sink 46 = .ok (.isub, 1) := by decide +kernel
theorem dX4_sink_47 : decode cX4_sink 47 = .ok (.iaload, 1) := by decide +kernel
theorem dX4_sink_48 : decode cX4_sink 48 = .ok (.iastore, 1) := by decide +kernel
theorem dX4_sink_49 : decode cX4_sink 49 = .ok (.iload 4, 2) := by decide +kernel
theorem dX4_sink_51 : decode cX4_sink 51 = .ok (.iload_n 2, 1) := by decide +kernel
theorem dX4_sink_52 : decode cX4_sink 52 = .ok (.isub, 1) := by decide +kernel
theorem dX4_sink_53 : decode cX4_sink 53 = .ok (.istore 4, 2) := by decide +kernel
theorem dX4_sink_55 : decode cX4_sink 55 = .ok (.goto (-45), 3) := by decide +kernel
theorem dX4_sink_58 : decode cX4_sink 58 = .ok (.aload_n 0, 1) := by decide +kernel
theorem dX4_sink_59 : decode cX4_sink 59 = .ok (.getfield 11, 3) := by decide +kernel
theorem dX4_sink_62 : decode cX4_sink 62 = .ok (.iload 4, 2) := by decide +kernel
theorem dX4_sink_64 : decode cX4_sink 64 = .ok (.iload_n 3, 1) := by decide +kernel
theorem dX4_sink_65 : decode cX4_sink 65 = .ok (.iastore, 1) := by decide +kernel
theorem dX4_sink_66 : decode cX4_sink 66 = .ok (.return_, 1) := by decide +kernel
theorem dX4_countRuns_0 : decode cX4_countRuns 0 = .ok (.aload_n 0, 1) := by decide +kernel
theorem dX4_countRuns_1 : decode cX4_countRuns 1 = .ok (.iconst 0, 1) := by decide +kernel
theorem dX4_countRuns_2 : decode cX4_countRuns 2 = .ok (.putfield 59, 3) := by decide +kernel
theorem dX4_countRuns_5 : decode cX4_countRuns 5 = .ok (.aload_n 0, 1) := by decide +kernel
theorem dX4_countRuns_6 : decode cX4_countRuns 6 = .ok (.iconst 0, 1) := by decide +kernel
theorem dX4_countRuns_7 : decode cX4_countRuns 7 = .ok (.putfield 62, 3) := by decide +kernel
theorem dX4_countRuns_10 : decode cX4_countRuns 10 = .ok (.aload_n 0, 1) := by decide +kernel
theorem dX4_countRuns_11 : decode cX4_countRuns 11 = .ok (.iconst 0, 1) := by decide +kernel
theorem dX4_countRuns_12 : decode cX4_countRuns 12 = .ok (.putfield 65, 3) := by decide +kernel
theorem dX4_countRuns_15 : decode cX4_countRuns 15 = .ok (.iconst 0, 1) := by decide +kernel
theorem dX4_countRuns_16 : decode cX4_countRuns 16 = .ok (.istore_n 1, 1) := by decide +kernel
theorem dX4_countRuns_17 : decode cX4_countRuns 17 = .ok (.iconst 0, 1) := by decide +kernel
theorem dX4_countRuns_18 : decode cX4_countRuns 18 = .ok (.istore_n 2, 1) := by decide +kernel
theorem dX4_countRuns_19 : decode cX4_countRuns 19 = .ok (.iload_n 2, 1) := by decide +kernel
theorem dX4_countRuns_20 : decode cX4_countRuns 20 = .ok (.aload_n 0, 1) := by decide +kernel
theorem dX4_countRuns_21 : decode cX4_countRuns 21 = .ok (.getfield 15, 3) := by decide +kernel
theorem dX4_countRuns_24 : decode cX4_countRuns 24 = .ok (.if_icmp .ge 89, 3) := by decide +kernel
theorem dX4_countRuns_27 : decode cX4_countRuns 27 = .ok (.iload_n 2, 1) := by decide +kernel
theorem dX4_countRuns_28 : decode cX4_countRuns 28 = .ok (.ifCond .le 24, 3) := by decide +kernel
theorem dX4_countRuns_31 : decode cX4_countRuns 31 = .ok (.aload_n 0, 1) := by decide +kernel
theorem dX4_countRuns_32 : decode cX4_countRuns 32 = .ok (.getfield 11, 3) := by decide +kernel
theorem dX4_countRuns_35 : decode cX4_countRuns 35 = .ok (.iload_n 2, 1) := by decide +kernel
theorem dX4_countRuns_36 : decode cX4_countRuns 36 = .ok (.iaload, 1) := by decide +kernel
theorem dX4_countRuns_37 : decode cX4_countRuns 37 = .ok (.aload_n 0, 1) := by decide +kernel
theorem dX4_countRuns_38 : decode cX4_countRuns 38 = .ok (.getfield 11, 3) := by decide +kernel
theorem dX4_countRuns_41 : decode cX4_countRuns 41 = .ok (.iload_n 2, 1) := by decide +kernel
theorem dX4_countRuns_42 : decode cX4_countRuns 42 = .ok (.iconst 1, 1) := by decide +kernel
theorem dX4_countRuns_43 : decode cX4_countRuns 43 = .ok (.isub, 1) := by decide +kernel
theorem dX4_countRuns_44 : decode cX4_countRuns 44 = .ok (.iaload, 1) := by decide +kernel
theorem dX4_countRuns_45 : decode cX4_countRuns 45 = .ok (.if_icmp .ne 7, 3) := by decide +kernel
theorem dX4_countRuns_48 : decode cX4_countRuns 48 = .ok (.iconst 1, 1) := by decide +kernel
theorem dX4_countRuns_49 : decode cX4_countRuns 49 = .ok (.goto 4, 3) := by decide +kernel
theorem dX4_countRuns_52 : decode cX4_countRuns 52 = .ok (.iconst 0, 1) := by decide +kernel
theorem dX4_countRuns_53 : decode cX4_countRuns 53 = .ok (.istore_n 3, 1) := by decide +kernel
theorem dX4_countRuns_54 : decode cX4_countRuns 54 = .ok (.iload_n 3, 1) := by decide +kernel
theorem dX4_countRuns_55 : decode cX4_countRuns 55 = .ok (.ifCond .eq 9, 3) := by decide +kernel
theorem dX4_countRuns_58 : decode cX4_countRuns 58 = .ok (.iload_n 1, 1) := by decide +kernel
theorem dX4_countRuns_59 : decode cX4_countRuns 59 = .ok (.iconst 1, 1) := by decide +kernel
theorem dX4_countRuns_60 : decode cX4_countRuns 60 = .ok (.iadd, 1) := by decide +kernel
theorem dX4_countRuns_61 : decode cX4_countRuns 61 = .ok (.goto 4, 3) := by decide +kernel
theorem dX4_countRuns_64 : decode cX4_countRuns 64 = .ok (.iconst 1, 1) := by decide +kernel
theorem dX4_countRuns_65 : decode cX4_countRuns 65 = .ok (.istore_n 1, 1) := by decide +kernel
theorem dX4_countRuns_66 : decode cX4_countRuns 66 = .ok (.aload_n 0, 1) := by decide +kernel
theorem dX4_countRuns_67 : decode cX4_countRuns 67 = .ok (.dup, 1) := by decide +kernel
theorem dX4_countRuns_68 : decode cX4_countRuns 68 = .ok (.getfield 59, 3) := by decide +kernel
theorem dX4_countRuns_71 : decode cX4_countRuns 71 = .ok (.iload_n 3, 1) := by decide +kernel
theorem dX4_countRuns_72 : decode cX4_countRuns 72 = .ok (.ifCond .eq 7, 3) := by decide +kernel
theorem dX4_countRuns_75 : decode cX4_countRuns 75 = .ok (.iconst 0, 1) := by decide +kernel
theorem dX4_countRuns_76 : decode cX4_countRuns 76 = .ok (.goto 4, 3) := by decide +kernel
theorem dX4_countRuns_79 : decode cX4_countRuns 79 = .ok (.iconst 1, 1) := by decide +kernel
theorem dX4_countRuns_80 : decode cX4_countRuns 80 = .ok (.iadd, 1) := by decide +kernel
theorem dX4_countRuns_81 : decode cX4_countRuns 81 = .ok (.putfield 59, 3) := by decide +kernel
theorem dX4_countRuns_84 : decode cX4_countRuns 84 = .ok (.iload_n 1, 1) := by decide +kernel
theorem dX4_countRuns_85 : decode cX4_countRuns 85 = .ok (.aload_n 0, 1) := by decide +kernel
theorem dX4_countRuns_86 : decode cX4_countRuns 86 = .ok (.getfield 65, 3) := by decide +kernel
theorem dX4_countRuns_89 : decode cX4_countRuns 89 = .ok (.if_icmp .le 18, 3) := by decide +kernel
theorem dX4_countRuns_92 : decode cX4_countRuns 92 = .ok (.aload_n 0, 1) := by decide +kernel
theorem dX4_countRuns_93 : decode cX4_countRuns 93 = .ok (.iload_n 1, 1) := by decide +kernel
theorem dX4_countRuns_94 : decode cX4_countRuns 94 = .ok (.putfield 65, 3) := by decide +kernel
theorem dX4_countRuns_97 : decode cX4_countRuns 97 = .ok (.aload_n 0, 1) := by decide +kernel
theorem dX4_countRuns_98 : decode cX4_countRuns 98 = .ok (.aload_n 0, 1) := by decide +kernel
theorem dX4_countRuns_99 : decode cX4_countRuns 99 = .ok (.getfield 11, 3) := by decide +kernel
theorem dX4_countRuns_102 : decode cX4_countRuns 102 = .ok (.iload_n 2, 1) := by decide +kernel
theorem dX4_countRuns_103 : decode cX4_countRuns 103 = .ok (.iaload, 1) := by decide +kernel
theorem dX4_countRuns_104 : decode cX4_countRuns 104 = .ok (.putfield 62, 3) := by decide +kernel
theorem dX4_countRuns_107 : decode cX4_countRuns 107 = .ok (.iinc 2 1, 3) := by decide +kernel
theorem dX4_countRuns_110 : decode cX4_countRuns 110 = .ok (.goto (-91), 3) := by decide +kernel
theorem dX4_countRuns_113 : decode cX4_countRuns 113 = .ok (.return_, 1) := by decide +kernel
theorem dX6_findIn_0 : decode cX6_findIn 0 = .ok (.aload_n 0, 1) := by decide +kernel
theorem dX6_findIn_1 : decode cX6_findIn 1 = .ok (.getfield 9, 3) := by decide +kernel
theorem dX6_findIn_4 : decode cX6_findIn 4 = .ok (.iconst (-1), 1) := by decide +kernel
theorem dX6_findIn_5 : decode cX6_findIn 5 = .ok (.invokestatic 21, 3) := by decide +kernel
theorem dX6_findIn_8 : decode cX6_findIn 8 = .ok (.aload_n 0, 1) := by decide +kernel
theorem dX6_findIn_9 : decode cX6_findIn 9 = .ok (.iconst 0, 1) := by decide +kernel
theorem dX6_findIn_10 : decode cX6_findIn 10 = .ok (.putfield 27, 3) := by decide +kernel
theorem dX6_findIn_13 : decode cX6_findIn 13 = .ok (.iconst 0, 1) := by decide +kernel
theorem dX6_findIn_14 : decode cX6_findIn 14 = .ok (.istore_n 3, 1) := by decide +kernel
theorem dX6_findIn_15 : decode cX6_findIn 15 = .ok (.iload_n 3, 1) := by decide +kernel
theorem dX6_findIn_16 : decode cX6_findIn 16 = .ok (.aload_n 1, 1) := by decide +kernel
theorem dX6_findIn_17 : decode cX6_findIn 17 = .ok (.getfield 31, 3) := by decide +kernel
theorem dX6_findIn_20 : decode cX6_findIn 20 = .ok (.if_icmp .ge 62, 3) := by decide +kernel
theorem dX6_findIn_23 : decode cX6_findIn 23 = .ok (.iconst 0, 1) := by decide +kernel
theorem dX6_findIn_24 : decode cX6_findIn 24 = .ok (.istore 4, 2) := by decide +kernel
theorem dX6_findIn_26 : decode cX6_findIn 26 = .ok (.iload 4, 2) := by decide +kernel
theorem dX6_findIn_28 : decode cX6_findIn 28 = .ok (.aload_n 1, 1) := by decide +kernel
theorem dX6_findIn_29 : decode cX6_findIn 29 = .ok (.getfield 36, 3) := by decide +kernel
theorem dX6_findIn_32 : decode cX6_findIn 32 = .ok (.if_icmp .ge 44, 3) := by decide +kernel
theorem dX6_findIn_35 : decode cX6_findIn 35 = .ok (.aload_n 0, 1) := by decide +kernel
theorem dX6_findIn_36 : decode cX6_findIn 36 = .ok (.getfield 9, 3) := by decide +kernel
theorem dX6_findIn_39 : decode cX6_findIn 39 = .ok (.aload_n 1, 1) := by decide +kernel
theorem dX6_findIn_40 : decode cX6_findIn 40 = .ok (.iload 4, 2) := by decide +kernel
theorem dX6_findIn_42 : decode cX6_findIn 42 = .ok (.iload_n 3, 1) := by decide +kernel
theorem dX6_findIn_43 : decode cX6_findIn 43 = .ok (.invokevirtual 39, 3) := by decide +kernel
theorem dX6_findIn_46 : decode cX6_findIn 46 = .ok (.iaload, 1) := by decide +kernel
theorem dX6_findIn_47 : decode cX6_findIn 47 = .ok (.iconst (-1), 1) := by decide +kernel
theorem dX6_findIn_48 : decode cX6_findIn 48 = .ok (.if_icmp .ne 22, 3) := by decide +kernel
theorem dX6_findIn_51 : decode cX6_findIn 51 = .ok (.aload_n 0, 1) := by decide +kernel
theorem dX6_findIn_52 : decode cX6_findIn 52 = .ok (.aload_n 1, 1) := by decide +kernel
theorem dX6_findIn_53 : decode cX6_findIn 53 = .ok (.iload_n 2, 1) := by decide +kernel
theorem dX6_findIn_54 : decode cX6_findIn 54 = .ok (.iload 4, 2) := by decide +kernel
theorem dX6_findIn_56 : decode cX6_findIn 56 = .ok (.iload_n 3, 1) := by decide +kernel
theorem dX6_findIn_57 : decode cX6_findIn 57 = .ok (.invokevirtual 43, 3) := by decide +kernel
theorem dX6_findIn_60 : decode cX6_findIn 60 = .ok (.aload_n 0, 1) := by decide +kernel
theorem dX6_findIn_61 : decode cX6_findIn 61 = .ok (.dup, 1) := by decide +kernel
theorem dX6_findIn_62 : decode cX6_findIn 62 = .ok (.getfield 27, 3) := by decide +kernel
theorem dX6_findIn_65 : decode cX6_findIn 65 = .ok (.iconst 1, 1) := by decide +kernel
theorem dX6_findIn_66 : decode cX6_findIn 66 = .ok (.iadd, 1) := by decide +kernel
theorem dX6_findIn_67 : decode cX6_findIn 67 = .ok (.putfield 27, 3) := by decide +kernel
theorem dX6_findIn_70 : decode cX6_findIn 70 = .ok (.iinc 4 1, 3) := by decide +kernel
theorem dX6_findIn_73 : decode cX6_findIn 73 = .ok (.goto (-47), 3) := by decide +kernel
theorem dX6_findIn_76 : decode cX6_findIn 76 = .ok (.iinc 3 1, 3) := by decide +kernel
theorem dX6_findIn_79 : decode cX6_findIn 79 = .ok (.goto (-64), 3) := by decide +kernel
theorem dX6_findIn_82 : decode cX6_findIn 82 = .ok (.return_, 1) := by decide +kernel
theorem dX6_flood_0 : decode cX6_flood 0 = .ok (.aload_n 0, 1) := by decide +kernel
theorem dX6_flood_1 : decode cX6_flood 1 = .ok (.iconst 0, 1) := by decide +kernel
theorem dX6_flood_2 : decode cX6_flood 2 = .ok (.putfield 47, 3) := by decide +kernel
theorem dX6_flood_5 : decode cX6_flood 5 = .ok (.aload_n 0, 1) := by decide +kernel
theorem dX6_flood_6 : decode cX6_flood 6 = .ok (.aload_n 1, 1) := by decide +kernel
theorem dX6_flood_7 : decode cX6_flood 7 = .ok (.iload_n 3, 1) := by decide +kernel
theorem dX6_flood_8 : decode cX6_flood 8 = .ok (.iload 4, 2) := by decide +kernel
theorem dX6_flood_10 : decode cX6_flood 10 = .ok (.invokevirtual 50, 3) := by decide +kernel
theorem dX6_flood_13 : decode cX6_flood 13 = .ok (.iconst 0, 1) := by decide +kernel
theorem dX6_flood_14 : decode cX6_flood 14 = .ok (.istore 5, 2) := by decide +kernel
theorem dX6_flood_16 : decode cX6_flood 16 = .ok (.iload 5, 2) := by decide +kernel
theorem dX6_flood_18 : decode cX6_flood 18 = .ok (.aload_n 0, 1) := by decide +kernel
theorem dX6_flood_19 : decode cX6_flood 19 = .ok (.getfield 47, 3) := by decide +kernel
theorem dX6_flood_22 : decode cX6_flood 22 = .ok (.if_icmp .ge 147, 3) := by decide +kernel
theorem dX6_flood_25 : decode cX6_flood 25 = .ok (.iload 5, 2) := by decide +kernel
theorem dX6_flood_27 : decode cX6_flood 27 = .ok (.sipush 192, 3) := by decide +kernel
theorem dX6_flood_30 : decode cX6_flood 30 = .ok (.if_icmp .ge 139, 3) := by decide +kernel
theorem dX6_flood_33 : decode cX6_flood 33 = .ok (.aload_n 0, 1) := by decide +kernel
theorem dX6_flood_34 : decode cX6_flood 34 = .ok (.getfield 15, 3) := by decide +kernel
theorem dX6_flood_37 : decode cX6_flood 37 = .ok (.iload 5, 2) := by decide +kernel
theorem dX6_flood_39 : decode cX6_flood 39 = .ok (.iaload, 1) := by decide +kernel
theorem dX6_flood_40 : decode cX6_flood 40 = .ok (.istore 6, 2) := by decide +kernel
theorem dX6_flood_42 : decode cX6_flood 42 = .ok (.aload_n 0, 1) := by decide +kernel
theorem dX6_flood_43 : decode cX6_flood 43 = .ok (.getfield 18, 3) := by decide +kernel
theorem dX6_flood_46 : decode cX6_flood 46 = .ok (.iload 5, 2) := by decide +kernel
theorem dX6_flood_48 : decode cX6_flood 48 = .ok (.iaload, 1) := by decide +kernel
theorem dX6_flood_49 : decode cX6_flood 49 = .ok (.istore 7, 2) := by decide +kernel
theorem dX6_flood_51 : decode cX6_flood 51 = .ok (.aload_n 1, 1) := by decide +kernel
theorem dX6_flood_52 : decode cX6_flood 52 = .ok (.iload 6, 2) := by decide +kernel
theorem dX6_flood_54 : decode cX6_flood 54 = .ok (.iload 7, 2) := by decide +kernel
theorem dX6_flood_56 : decode cX6_flood 56 = .ok (.invokevirtual 54, 3) := by decide +kernel
theorem dX6_flood_59 : decode cX6_flood 59 = .ok (.iconst 0, 1) := by decide +kernel
theorem dX6_flood_60 : decode cX6_flood 60 = .ok (.iload_n 2, 1) := by decide +kernel
theorem dX6_flood_61 : decode cX6_flood 61 = .ok (.invokestatic 57, 3) := by decide +kernel
theorem dX6_flood_64 : decode cX6_flood 64 = .ok (.ifCond .eq 14, 3) := by decide +kernel
theorem dX6_flood_67 : decode cX6_flood 67 = .ok (.aload_n 0, 1) := by decide +kernel
theorem dX6_flood_68 : decode cX6_flood 68 = .ok (.aload_n 1, 1) := by decide +kernel
theorem dX6_flood_69 : decode cX6_flood 69 = .ok (.iload 6, 2) := by decide +kernel
theorem dX6_flood_71 : decode cX6_flood 71 = .ok (.iconst 1, 1) := by decide +kernel
theorem dX6_flood_72 : decode cX6_flood 72 = .ok (.iadd, 1) := by decide +kernel
theorem dX6_flood_73 : decode cX6_flood 73 = .ok (.iload 7, 2) := by decide +kernel
theorem dX6_flood_75 : decode cX6_flood 75 = .ok (.invokevirtual 50, 3) := by decide +kernel
theorem dX6_flood_78 : decode cX6_flood 78 = .ok (.aload_n 1, 1) := by decide +kernel
theorem dX6_flood_79 : decode cX6_flood 79 = .ok (.iload 6, 2) := by decide +kernel
theorem dX6_flood_81 : decode cX6_flood 81 = .ok (.iconst 1, 1) := by decide +kernel
theorem dX6_flood_82 : decode cX6_flood 82 = .ok (.isub, 1) := by decide +kernel
theorem dX6_flood_83 : decode cX6_flood 83 = .ok (.iload 7, 2) := by decide +kernel
theorem dX6_flood_85 : decode cX6_flood 85 = .ok (.invokevirtual 54, 3) := by decide +kernel
theorem dX6_flood_88 : decode cX6_flood 88 = .ok (.iconst 0, 1) := by decide +kernel
theorem dX6_flood_89 : decode cX6_flood 89 = .ok (.iload_n 2, 1) := by decide +kernel
theorem dX6_flood_90 : decode cX6_flood 90 = .ok (.invokestatic 57, 3) := by decide +kernel
theorem dX6_flood_93 : decode cX6_flood 93 = .ok (.ifCond .eq 14, 3) := by decide +kernel
theorem dX6_flood_96 : decode cX6_flood 96 = .ok (.aload_n 0, 1) := by decide +kernel
theorem dX6_flood_97 : decode cX6_flood 97 = .ok (.aload_n 1, 1) := by decide +kernel
theorem dX6_flood_98 : decode cX6_flood 98 = .ok (.iload 6, 2) := by decide +kernel
theorem dX6_flood_100 : decode cX6_flood 100 = .ok (.iconst 1, 1) := by decide +kernel
theorem dX6_flood_101 : decode cX6_flood 101 = .ok (.isub, 1) := by decide +kernel
theorem dX6_flood_102 : decode cX6_flood 102 = .ok (.iload 7, 2) := by decide +kernel
theorem dX6_flood_104 : decode cX6_flood 104 = .ok (.invokevirtual 50, 3) := by decide +kernel
theorem dX6_flood_107 : decode cX6_flood 107 = .ok (.aload_n 1, 1) := by decide +kernel
theorem dX6_flood_108 : decode cX6_flood 108 = .ok (.iload 6, 2) := by decide +kernel
theorem dX6_flood_110 : decode cX6_flood 110 = .ok (.iload 7, 2) := by decide +kernel
theorem dX6_flood_112 : decode cX6_flood 112 = .ok (.invokevirtual 61, 3) := by decide +kernel
theorem dX6_flood_115 : decode cX6_flood 115 = .ok (.iconst 0, 1) := by decide +kernel
theorem dX6_flood_116 : decode cX6_flood 116 = .ok (.iload_n 2, 1) := by decide +kernel
theorem dX6_flood_117 : decode cX6_flood 117 = .ok (.invokestatic 57, 3) := by decide +kernel
theorem dX6_flood_120 : decode cX6_flood 120 = .ok (.ifCond .eq 14, 3) := by decide +kernel
theorem dX6_flood_123 : decode cX6_flood 123 = .ok (.aload_n 0, 1) := by decide +kernel
theorem dX6_flood_124 : decode cX6_flood 124 = .ok (.aload_n 1, 1) := by decide +kernel
theorem dX6_flood_125 : decode cX6_flood 125 = .ok (.iload 6, 2) := by decide +kernel
theorem dX6_flood_127 : decode cX6_flood 127 = .ok (.iload 7, 2) := by decide +kernel
theorem dX6_flood_129 : decode cX6_flood 129 = .ok (.iconst 1, 1) := by decide +kernel
theorem dX6_flood_130 : decode cX6_flood 130 = .ok (.iadd, 1) := by decide +kernel
theorem dX6_flood_131 : decode cX6_flood 131 = .ok (.invokevirtual 50, 3) := by decide +kernel
theorem dX6_flood_134 : decode cX6_flood 134 = .ok (.aload_n 1, 1) := by decide +kernel
theorem dX6_flood_135 : decode cX6_flood 135 = .ok (.iload 6, 2) := by decide +kernel
theorem dX6_flood_137 : decode cX6_flood 137 = .ok (.iload 7, 2) := by decide +kernel
theorem dX6_flood_139 : decode cX6_flood 139 = .ok (.iconst 1, 1) := by decide +kernel
theorem dX6_flood_140 : decode cX6_flood 140 = .ok (.isub, 1) := by decide +kernel
theorem dX6_flood_141 : decode cX6_flood 141 = .ok (.invokevirtual 61, 3) := by decide +kernel
theorem dX6_flood_144 : decode cX6_flood 144 = .ok (.iconst 0, 1) := by decide +kernel
theorem dX6_flood_145 : decode cX6_flood 145 = .ok (.iload_n 2, 1) := by decide +kernel
theorem dX6_flood_146 : decode cX6_flood 146 = .ok (.invokestatic 57, 3) := by decide +kernel
theorem dX6_flood_149 : decode cX6_flood 149 = .ok (.ifCond .eq 14, 3) := by decide +kernel
theorem dX6_flood_152 : decode cX6_flood 152 = .ok (.aload_n 0, 1) := by decide +kernel
theorem dX6_flood_153 : decode cX6_flood 153 = .ok (.aload_n 1, 1) := by decide +kernel
theorem dX6_flood_154 : decode cX6_flood 154 = .ok (.iload 6, 2) := by decide +kernel
theorem dX6_flood_156 : decode cX6_flood 156 = .ok (.iload 7, 2) := by decide +kernel
theorem dX6_flood_158 : decode cX6_flood 158 = .ok (.iconst 1, 1) := by decide +kernel
theorem dX6_flood_159 : decode cX6_flood 159 = .ok (.isub, 1) := by decide +kernel
theorem dX6_flood_160 : decode cX6_flood 160 = .ok (.invokevirtual 50, 3) := by decide +kernel
theorem dX6_flood_163 : decode cX6_flood 163 = .ok (.iinc 5 1, 3) := by decide +kernel
theorem dX6_flood_166 : decode cX6_flood 166 = .ok (.goto (-150), 3) := by decide +kernel
theorem dX6_flood_169 : decode cX6_flood 169 = .ok (.return_, 1) := by decide +kernel
theorem dX6_enter_0 : decode cX6_enter 0 = .ok (.aload_n 1, 1) := by decide +kernel
theorem dX6_enter_1 : decode cX6_enter 1 = .ok (.iload_n 2, 1) := by decide +kernel
theorem dX6_enter_2 : decode cX6_enter 2 = .ok (.iload_n 3, 1) := by decide +kernel
theorem dX6_enter_3 : decode cX6_enter 3 = .ok (.invokevirtual 64, 3) := by decide +kernel
theorem dX6_enter_6 : decode cX6_enter 6 = .ok (.ifCond .eq 73, 3) := by decide +kernel
theorem dX6_enter_9 : decode cX6_enter 9 = .ok (.aload_n 0, 1) := by decide +kernel
theorem dX6_enter_10 : decode cX6_enter 10 = .ok (.getfield 9, 3) := by decide +kernel
theorem dX6_enter_13 : decode cX6_enter 13 = .ok (.aload_n 1, 1) := by decide +kernel
theorem dX6_enter_14 : decode cX6_enter 14 = .ok (.iload_n 2, 1) := by decide +kernel
theorem dX6_enter_15 : decode cX6_enter 15 = .ok (.iload_n 3, 1) := by decide +kernel
theorem dX6_enter_16 : decode cX6_enter 16 = .ok (.invokevirtual 39, 3) := by decide +kernel
theorem dX6_enter_19 : decode cX6_enter 19 = .ok (.iaload, 1) := by decide +kernel
theorem dX6_enter_20 : decode cX6_enter 20 = .ok (.iconst (-1), 1) := by decide +kernel
theorem dX6_enter_21 : decode cX6_enter 21 = .ok (.if_icmp .ne 58, 3) := by decide +kernel
theorem dX6_enter_24 : decode cX6_enter 24 = .ok (.aload_n 0, 1) := by decide +kernel
theorem dX6_enter_25 : decode cX6_enter 25 = .ok (.getfield 47, 3) := by decide +kernel
theorem dX6_enter_28 : decode cX6_enter 28 = .ok (.sipush 192, 3) := by decide +kernel
theorem dX6_enter_31 : decode cX6_enter 31 = .ok (.if_icmp .ge 48, 3) := by decide +kernel
theorem dX6_enter_34 : decode cX6_enter 34 = .ok (.aload_n 0, 1) := by decide +kernel
theorem dX6_enter_35 : decode cX6_enter 35 = .ok (.getfield 9, 3) := by decide +kernel
theorem dX6_enter_38 : decode cX6_enter 38 = .ok (.aload_n 1, 1) := by decide +kernel
theorem dX6_enter_39 : decode cX6_enter 39 = .ok (.iload_n 2, 1) := by decide +kernel
theorem dX6_enter_40 : decode cX6_enter 40 = .ok (.iload_n 3, 1) := by decide +kernel
theorem dX6_enter_41 : decode cX6_enter 41 = .ok (.invokevirtual 39, 3) := by decide +kernel
theorem dX6_enter_44 : decode cX6_enter 44 = .ok (.aload_n 0, 1) := by decide +kernel
theorem dX6_enter_45 : decode cX6_enter 45 = .ok (.getfield 27, 3) := by decide +kernel
theorem dX6_enter_48 : decode cX6_enter 48 = .ok (.iastore, 1) := by decide +kernel
theorem dX6_enter_49 : decode cX6_enter 49 = .ok (.aload_n 0, 1) := by decide +kernel
theorem dX6_enter_50 : decode cX6_enter 50 = .ok (.getfield 15, 3) := by decide +kernel
theorem dX6_enter_53 : decode cX6_enter 53 = .ok (.aload_n 0, 1) := by decide +kernel
theorem dX6_enter_54 : decode cX6_enter 54 = .ok (.getfield 47, 3) := by decide +kernel
theorem dX6_enter_57 : decode cX6_enter 57 = .ok (.iload_n 2, 1) := by decide +kernel
theorem dX6_enter_58 : decode cX6_enter 58 = .ok (.iastore, 1) := by decide +kernel
theorem dX6_enter_59 : decode cX6_enter 59 = .ok (.aload_n 0, 1) := by decide +kernel
theorem dX6_enter_60 : decode cX6_enter 60 = .ok (.getfield 18, 3) := by decide +kernel
theorem dX6_enter_63 : decode cX6_enter 63 = .ok (.aload_n 0, 1) := by decide +kernel
theorem dX6_enter_64 : decode cX6_enter 64 = .ok (.getfield 47, 3) := by decide +kernel
theorem dX6_enter_67 : decode cX6_enter 67 = .ok (.iload_n 3, 1) := by decide +kernel
theorem dX6_enter_68 : decode cX6_enter 68 = .ok (.iastore, 1) := by decide +kernel
theorem dX6_enter_69 : decode cX6_enter 69 = .ok (.aload_n 0, 1) := by decide +kernel
theorem dX6_enter_70 : decode cX6_enter 70 = .ok (.dup, 1) := by decide +kernel
theorem dX6_enter_71 : decode cX6_enter 71 = .ok (.getfield 47, 3) := by decide +kernel
theorem dX6_enter_74 : decode cX6_enter 74 = .ok (.iconst 1, 1) := by decide +kernel
theorem dX6_enter_75 : decode cX6_enter 75 = .ok (.iadd, 1) := by decide +kernel
theorem dX6_enter_76 : decode cX6_enter 76 = .ok (.putfield 47, 3) := by decide +kernel
theorem dX6_enter_79 : decode cX6_enter 79 = .ok (.return_, 1) := by decide +kernel
theorem dX6_tell_0 : decode cX6_tell 0 = .ok (.iconst 0, 1) := by decide +kernel
theorem dX6_tell_1 : decode cX6_tell 1 = .ok (.istore 4, 2) := by decide +kernel
theorem dX6_tell_3 : decode cX6_tell 3 = .ok (.iconst 0, 1) := by decide +kernel
theorem dX6_tell_4 : decode cX6_tell 4 = .ok (.istore 5, 2) := by decide +kernel
theorem dX6_tell_6 : decode cX6_tell 6 = .ok (.sipush 255, 3) := by decide +kernel
theorem dX6_tell_9 : decode cX6_tell 9 = .ok (.istore 6, 2) := by decide +kernel
theorem dX6_tell_11 : decode cX6_tell 11 = .ok (.iconst 0, 1) := by decide +kernel
theorem dX6_tell_12 : decode cX6_tell 12 = .ok (.istore 7, 2) := by decide +kernel
theorem dX6_tell_14 : decode cX6_tell 14 = .ok (.aload_n 1, 1) := by decide +kernel
theorem dX6_tell_15 : decode cX6_tell 15 = .ok (.invokevirtual 68, 3) := by decide +kernel
theorem dX6_tell_18 : decode cX6_tell 18 = .ok (.iconst 1, 1) := by decide +kernel
theorem dX6_tell_19 : decode cX6_tell 19 = .ok (.isub, 1) := by decide +kernel
theorem dX6_tell_20 : decode cX6_tell 20 = .ok (.istore 8, 2) := by decide +kernel
theorem dX6_tell_22 : decode cX6_tell 22 = .ok (.iload 8, 2) := by decide +kernel
theorem dX6_tell_24 : decode cX6_tell 24 = .ok (.ifCond .lt 55, 3) := by decide +kernel
theorem dX6_tell_27 : decode cX6_tell 27 = .ok (.aload_n 0, 1) := by decide +kernel
theorem dX6_tell_28 : decode cX6_tell 28 = .ok (.getfield 9, 3) := by decide +kernel
theorem dX6_tell_31 : decode cX6_tell 31 = .ok (.iload 8, 2) := by decide +kernel
theorem dX6_tell_33 : decode cX6_tell 33 = .ok (.iaload, 1) := by decide +kernel
theorem dX6_tell_34 : decode cX6_tell 34 = .ok (.iload_n 2, 1) := by decide +kernel
theorem dX6_tell_35 : decode cX6_tell 35 = .ok (.if_icmp .ne 38, 3) := by decide +kernel
theorem dX6_tell_38 : decode cX6_tell 38 = .ok (.iinc 4 1, 3) := by decide +kernel
theorem dX6_tell_41 : decode cX6_tell 41 = .ok (.iload 8, 2) := by decide +kernel
theorem dX6_tell_43 : decode cX6_tell 43 = .ok (.istore 5, 2) := by decide +kernel
theorem dX6_tell_45 : decode cX6_tell 45 = .ok (.iload 6, 2) := by decide +kernel
theorem dX6_tell_47 : decode cX6_tell 47 = .ok (.aload_n 1, 1) := by decide +kernel
theorem dX6_tell_48 : decode cX6_tell 48 = .ok (.getfield 72, 3) := by decide +kernel
theorem dX6_tell_51 : decode cX6_tell 51 = .ok (.iload 8, 2) := by decide +kernel
theorem dX6_tell_53 : decode cX6_tell 53 = .ok (.iaload, 1) := by decide +kernel
theorem dX6_tell_54 : decode cX6_tell 54 = .ok (.invokestatic 75, 3) := by decide +kernel
theorem dX6_tell_57 : decode cX6_tell 57 = .ok (.istore 6, 2) := by decide +kernel
theorem dX6_tell_59 : decode cX6_tell 59 = .ok (.iload 7, 2) := by decide +kernel
theorem dX6_tell_61 : decode cX6_tell 61 = .ok (.aload_n 1, 1) := by decide +kernel
theorem dX6_tell_62 : decode cX6_tell 62 = .ok (.getfield 72, 3) := by decide +kernel
theorem dX6_tell_65 : decode cX6_tell 65 = .ok (.iload 8, 2) := by decide +kernel
theorem dX6_tell_67 : decode cX6_tell 67 = .ok (.iaload, 1) := by decide +kernel
theorem dX6_tell_68 : decode cX6_tell 68 = .ok (.invokestatic 80, 3) := by decide +kernel
theorem dX6_tell_71 : decode cX6_tell 71 = .ok (.istore 7, 2) := by decide +kernel
theorem dX6_tell_73 : decode cX6_tell 73 = .ok (.iinc 8 (-1), 3) := by decide +kernel
theorem dX6_tell_76 : decode cX6_tell 76 = .ok (.goto (-54), 3) := by decide +kernel
theorem dX6_tell_79 : decode cX6_tell 79 = .ok (.iconst 1, 1) := by decide +kernel
theorem dX6_tell_80 : decode cX6_tell 80 = .ok (.aload_n 1, 1) := by decide +kernel
theorem dX6_tell_81 : decode cX6_tell 81 = .ok (.getfield 36, 3) := by decide +kernel
theorem dX6_tell_84 : decode cX6_tell 84 = .ok (.invokestatic 80, 3) := by decide +kernel
theorem dX6_tell_87 : decode cX6_tell 87 = .ok (.istore 8, 2) := by decide +kernel
theorem dX6_tell_89 : decode cX6_tell 89 = .ok (.iload_n 3, 1) := by decide +kernel
theorem dX6_tell_90 : decode cX6_tell 90 = .ok (.tableswitch 48 0 3 #[30, 36, 42, 45], 30) := by decide +kernel
theorem dX6_tell_120 : decode cX6_tell 120 = .ok (.iload 5, 2) := by decide +kernel
theorem dX6_tell_122 : decode cX6_tell 122 = .ok (.iload 8, 2) := by decide +kernel
theorem dX6_tell_124 : decode cX6_tell 124 = .ok (.irem, 1) := by decide +kernel
theorem dX6_tell_125 : decode cX6_tell 125 = .ok (.ireturn, 1) := by decide +kernel
theorem dX6_tell_126 : decode cX6_tell 126 = .ok (.iload 5, 2) := by decide +kernel
theorem dX6_tell_128 : decode cX6_tell 128 = .ok (.iload 8, 2) := by decide +kernel
theorem dX6_tell_130 : decode cX6_tell 130 = .ok (.idiv, 1) := by decide +kernel
theorem dX6_tell_131 : decode cX6_tell 131 = .ok (.ireturn, 1) := by decide +kernel
theorem dX6_tell_132 : decode cX6_tell 132 = .ok (.iload 4, 2) := by decide +kernel
theorem dX6_tell_134 : decode cX6_tell 134 = .ok (.ireturn, 1) := by decide +kernel
theorem dX6_tell_135 : decode cX6_tell 135 = .ok (.iload 6, 2) := by decide +kernel
theorem dX6_tell_137 : decode cX6_tell 137 = .ok (.ireturn, 1) := by decide +kernel
theorem dX6_tell_138 : decode cX6_tell 138 = .ok (.iload 7, 2) := by decide +kernel
theorem dX6_tell_140 : decode cX6_tell 140 = .ok (.ireturn, 1) := by decide +kernel
