theorem dX11_sumOf_0 : decode cX11_sumOf 0 = .ok (.iconst 0, 1) := by decide +kernel
theorem dX11_sumOf_1 : decode cX11_sumOf 1 = .ok (.istore 5, 2) := by decide +kernel
theorem dX11_sumOf_3 : decode cX11_sumOf 3 = .ok (.iconst 0, 1) := by decide +kernel
theorem dX11_sumOf_4 : decode cX11_sumOf 4 = .ok (.istore 6, 2) := by decide +kernel
theorem dX11_sumOf_6 : decode cX11_sumOf 6 = .ok (.iload 6, 2) := by decide +kernel
theorem dX11_sumOf_8 : decode cX11_sumOf 8 = .ok (.iload 4, 2) := by decide +kernel
theorem dX11_sumOf_10 : decode cX11_sumOf 10 = .ok (.if_icmp .ge 43, 3) := by decide +kernel
theorem dX11_sumOf_13 : decode cX11_sumOf 13 = .ok (.iconst 0, 1) := by decide +kernel
theorem dX11_sumOf_14 : decode cX11_sumOf 14 = .ok (.istore 7, 2) := by decide +kernel
theorem dX11_sumOf_16 : decode cX11_sumOf 16 = .ok (.iload 7, 2) := by decide +kernel
theorem dX11_sumOf_18 : decode cX11_sumOf 18 = .ok (.iload 4, 2) := by decide +kernel
theorem dX11_sumOf_20 : decode cX11_sumOf 20 = .ok (.if_icmp .ge 27, 3) := by decide +kernel
theorem dX11_sumOf_23 : decode cX11_sumOf 23 = .ok (.iload 5, 2) := by decide +kernel
theorem dX11_sumOf_25 : decode cX11_sumOf 25 = .ok (.aload_n 0, 1) := by decide +kernel
theorem dX11_sumOf_26 : decode cX11_sumOf 26 = .ok (.iload_n 1, 1) := by decide +kernel
theorem dX11_sumOf_27 : decode cX11_sumOf 27 = .ok (.iload_n 2, 1) := by decide +kernel
theorem dX11_sumOf_28 : decode cX11_sumOf 28 = .ok (.iload 7, 2) := by decide +kernel
theorem dX11_sumOf_30 : decode cX11_sumOf 30 = .ok (.iadd, 1) := by decide +kernel
theorem dX11_sumOf_31 : decode cX11_sumOf 31 = .ok (.iload_n 3, 1) := by decide +kernel
theorem dX11_sumOf_32 : decode cX11_sumOf 32 = .ok (.iload 6, 2) := by decide +kernel
theorem dX11_sumOf_34 : decode cX11_sumOf 34 = .ok (.iadd, 1) := by decide +kernel
theorem dX11_sumOf_35 : decode cX11_sumOf 35 = .ok (.invokevirtual 182, 3) := by decide +kernel
theorem dX11_sumOf_38 : decode cX11_sumOf 38 = .ok (.iadd, 1) := by decide +kernel
theorem dX11_sumOf_39 : decode cX11_sumOf 39 = .ok (.istore 5, 2) := by decide +kernel
theorem dX11_sumOf_41 : decode cX11_sumOf 41 = .ok (.iinc 7 1, 3) := by decide +kernel
theorem dX11_sumOf_44 : decode cX11_sumOf 44 = .ok (.goto (-28), 3) := by decide +kernel
theorem dX11_sumOf_47 : decode cX11_sumOf 47 = .ok (.iinc 6 1, 3) := by decide +kernel
theorem dX11_sumOf_50 : decode cX11_sumOf 50 = .ok (.goto (-44), 3) := by decide +kernel
theorem dX11_sumOf_53 : decode cX11_sumOf 53 = .ok (.iload 5, 2) := by decide +kernel
theorem dX11_sumOf_55 : decode cX11_sumOf 55 = .ok (.ireturn, 1) := by decide +kernel
theorem dX11_smaller_0 : decode cX11_smaller 0 = .ok (.aload_n 0, 1) := by decide +kernel
theorem dX11_smaller_1 : decode cX11_smaller 1 = .ok (.iconst 0, 1) := by decide +kernel
theorem dX11_smaller_2 : decode cX11_smaller 2 = .ok (.putfield 85, 3) := by decide +kernel
theorem dX11_smaller_5 : decode cX11_smaller 5 = .ok (.iload_n 1, 1) := by decide +kernel
theorem dX11_smaller_6 : decode cX11_smaller 6 = .ok (.invokestatic 316, 3) := by decide +kernel
theorem dX11_smaller_9 : decode cX11_smaller 9 = .ok (.ifCond .eq 11, 3) := by decide +kernel
theorem dX11_smaller_12 : decode cX11_smaller 12 = .ok (.aload_n 0, 1) := by decide +kernel
theorem dX11_smaller_13 : decode cX11_smaller 13 = .ok (.iload_n 2, 1) := by decide +kernel
theorem dX11_smaller_14 : decode cX11_smaller 14 = .ok (.invokevirtual 173, 3) := by decide +kernel
theorem dX11_smaller_17 : decode cX11_smaller 17 = .ok (.ifCond .ne 9, 3) := by decide +kernel
theorem dX11_smaller_20 : decode cX11_smaller 20 = .ok (.aload_n 0, 1) := by decide +kernel
theorem dX11_smaller_21 : decode cX11_smaller 21 = .ok (.iconst 1, 1) := by decide +kernel
theorem dX11_smaller_22 : decode cX11_smaller 22 = .ok (.invokevirtual 197, 3) := by decide +kernel
theorem dX11_smaller_25 : decode cX11_smaller 25 = .ok (.ireturn, 1) := by decide +kernel
theorem dX11_smaller_26 : decode cX11_smaller 26 = .ok (.iload_n 3, 1) := by decide +kernel
theorem dX11_smaller_27 : decode cX11_smaller 27 = .ok (.iconst 2, 1) := by decide +kernel
theorem dX11_smaller_28 : decode cX11_smaller 28 = .ok (.iconst 4, 1) := by decide +kernel
theorem dX11_smaller_29 : decode cX11_smaller 29 = .ok (.invokestatic 106, 3) := by decide +kernel
theorem dX11_smaller_32 : decode cX11_smaller 32 = .ok (.ifCond .ne 9, 3) := by decide +kernel
theorem dX11_smaller_35 : decode cX11_smaller 35 = .ok (.aload_n 0, 1) := by decide +kernel
theorem dX11_smaller_36 : decode cX11_smaller 36 = .ok (.iconst 2, 1) := by decide +kernel
theorem dX11_smaller_37 : decode cX11_smaller 37 = .ok (.invokevirtual 197, 3) := by decide +kernel
theorem dX11_smaller_40 : decode cX11_smaller 40 = .ok (.ireturn, 1) := by decide +kernel
theorem dX11_smaller_41 : decode cX11_smaller 41 = .ok (.aload_n 0, 1) := by decide +kernel
theorem dX11_smaller_42 : decode cX11_smaller 42 = .ok (.iload_n 2, 1) := by decide +kernel
theorem dX11_smaller_43 : decode cX11_smaller 43 = .ok (.invokevirtual 170, 3) := by decide +kernel
theorem dX11_smaller_46 : decode cX11_smaller 46 = .ok (.iload_n 3, 1) := by decide +kernel
theorem dX11_smaller_47 : decode cX11_smaller 47 = .ok (.if_icmp .lt 12, 3) := by decide +kernel
theorem dX11_smaller_50 : decode cX11_smaller 50 = .ok (.aload_n 0, 1) := by decide +kernel
theorem dX11_smaller_51 : decode cX11_smaller 51 = .ok (.iload_n 2, 1) := by decide +kernel
theorem dX11_smaller_52 : decode cX11_smaller 52 = .ok (.invokevirtual 176, 3) := by decide +kernel
theorem dX11_smaller_55 : decode cX11_smaller 55 = .ok (.iload_n 3, 1) := by decide +kernel
theorem dX11_smaller_56 : decode cX11_smaller 56 = .ok (.if_icmp .ge 9, 3) := by decide +kernel
theorem dX11_smaller_59 : decode cX11_smaller 59 = .ok (.aload_n 0, 1) := by decide +kernel
theorem dX11_smaller_60 : decode cX11_smaller 60 = .ok (.iconst 5, 1) := by decide +kernel
theorem dX11_smaller_61 : decode cX11_smaller 61 = .ok (.invokevirtual 197, 3) := by decide +kernel
theorem dX11_smaller_64 : decode cX11_smaller 64 = .ok (.ireturn, 1) := by decide +kernel
theorem dX11_smaller_65 : decode cX11_smaller 65 = .ok (.aload_n 0, 1) := by decide +kernel
theorem dX11_smaller_66 : decode cX11_smaller 66 = .ok (.aload_n 0, 1) := by decide +kernel
theorem dX11_smaller_67 : decode cX11_smaller 67 = .ok (.iload_n 2, 1) := by decide +kernel
theorem dX11_smaller_68 : decode cX11_smaller 68 = .ok (.invokevirtual 170, 3) := by decide +kernel
theorem dX11_smaller_71 : decode cX11_smaller 71 = .ok (.iload_n 3, 1) := by decide +kernel
theorem dX11_smaller_72 : decode cX11_smaller 72 = .ok (.idiv, 1) := by decide +kernel
theorem dX11_smaller_73 : decode cX11_smaller 73 = .ok (.aload_n 0, 1) := by decide +kernel
theorem dX11_smaller_74 : decode cX11_smaller 74 = .ok (.iload_n 2, 1) := by decide +kernel
theorem dX11_smaller_75 : decode cX11_smaller 75 = .ok (.invokevirtual 176, 3) := by decide +kernel
theorem dX11_smaller_78 : decode cX11_smaller 78 = .ok (.iload_n 3, 1) := by decide +kernel
theorem dX11_smaller_79 : decode cX11_smaller 79 = .ok (.idiv, 1) := by decide +kernel
theorem dX11_smaller_80 : decode cX11_smaller 80 = .ok (.invokevirtual 200, 3) := by decide +kernel
theorem dX11_smaller_83 : decode cX11_smaller 83 = .ok (.iconst 0, 1) := by decide +kernel
theorem dX11_smaller_84 : decode cX11_smaller 84 = .ok (.istore 4, 2) := by decide +kernel
theorem dX11_smaller_86 : decode cX11_smaller 86 = .ok (.iload 4, 2) := by decide +kernel
theorem dX11_smaller_88 : decode cX11_smaller 88 = .ok (.aload_n 0, 1) := by decide +kernel
theorem dX11_smaller_89 : decode cX11_smaller 89 = .ok (.bipush 6, 2) := by decide +kernel
theorem dX11_smaller_91 : decode cX11_smaller 91 = .ok (.invokevirtual 176, 3) := by decide +kernel
theorem dX11_smaller_94 : decode cX11_smaller 94 = .ok (.if_icmp .ge 61, 3) := by decide +kernel
theorem dX11_smaller_97 : decode cX11_smaller 97 = .ok (.iconst 0, 1) := by decide +kernel
theorem dX11_smaller_98 : decode cX11_smaller 98 = .ok (.istore 5, 2) := by decide +kernel
theorem dX11_smaller_100 : decode cX11_smaller 100 = .ok (.iload 5, 2) := by decide +kernel
theorem dX11_smaller_102 : decode cX11_smaller 102 = .ok (.aload_n 0, 1) := by decide +kernel
theorem dX11_smaller_103 : decode cX11_smaller 103 = .ok (.bipush 6, 2) := by decide +kernel
theorem dX11_smaller_105 : decode cX11_smaller 105 = .ok (.invokevirtual 170, 3) := by decide +kernel
theorem dX11_smaller_108 : decode cX11_smaller 108 = .ok (.if_icmp .ge 41, 3) := by decide +kernel
theorem dX11_smaller_111 : decode cX11_smaller 111 = .ok (.aload_n 0, 1) := by decide +kernel
theorem dX11_smaller_112 : decode cX11_smaller 112 = .ok (.bipush 6, 2) := by decide +kernel
theorem dX11_smaller_114 : decode cX11_smaller 114 = .ok (.iload 5, 2) := by decide +kernel
theorem dX11_smaller_116 : decode cX11_smaller 116 = .ok (.iload 4, 2) := by decide +kernel
theorem dX11_smaller_118 : decode cX11_smaller 118 = .ok (.aload_n 0, 1) := by decide +kernel
theorem dX11_smaller_119 : decode cX11_smaller 119 = .ok (.iload_n 2, 1) := by decide +kernel
theorem dX11_smaller_120 : decode cX11_smaller 120 = .ok (.iload 5, 2) := by decide +kernel
theorem dX11_smaller_122 : decode cX11_smaller 122 = .ok (.iload_n 3, 1) := by decide +kernel
theorem dX11_smaller_123 : decode cX11_smaller 123 = .ok (.imul, 1) := by decide +kernel
theorem dX11_smaller_124 : decode cX11_smaller 124 = .ok (.iload 4, 2) := by decide +kernel
theorem dX11_smaller_126 : decode cX11_smaller 126 = .ok (.iload_n 3, 1) := by decide +kernel
theorem dX11_smaller_127 : decode cX11_smaller 127 = .ok (.imul, 1) := by decide +kernel
theorem dX11_smaller_128 : decode cX11_smaller 128 = .ok (.iload_n 3, 1) := by decide +kernel
theorem dX11_smaller_129 : decode cX11_smaller 129 = .ok (.invokevirtual 331, 3) := by decide +kernel
theorem dX11_smaller_132 : decode cX11_smaller 132 = .ok (.i2l, 1) := by decide +kernel
theorem dX11_smaller_133 : decode cX11_smaller 133 = .ok (.iload_n 3, 1) := by decide +kernel
theorem dX11_smaller_134 : decode cX11_smaller 134 = .ok (.iload_n 3, 1) := by decide +kernel
theorem dX11_smaller_135 : decode cX11_smaller 135 = .ok (.imul, 1) := by decide +kernel
theorem dX11_smaller_136 : decode cX11_smaller 136 = .ok (.i2l, 1) := by decide +kernel
theorem dX11_smaller_137 : decode cX11_smaller 137 = .ok (.invokestatic 295, 3) := by decide +kernel
theorem dX11_smaller_140 : decode cX11_smaller 140 = .ok (.invokevirtual 193, 3) := by decide +kernel
theorem dX11_smaller_143 : decode cX11_smaller 143 = .ok (.iinc 5 1, 3) := by decide +kernel
theorem dX11_smaller_146 : decode cX11_smaller 146 = .ok (.goto (-46), 3) := by decide +kernel
theorem dX11_smaller_149 : decode cX11_smaller 149 = .ok (.iinc 4 1, 3) := by decide +kernel
theorem dX11_smaller_152 : decode cX11_smaller 152 = .ok (.goto (-66), 3) := by decide +kernel
theorem dX11_smaller_155 : decode cX11_smaller 155 = .ok (.aload_n 0, 1) := by decide +kernel
theorem dX11_smaller_156 : decode cX11_smaller 156 = .ok (.iload_n 1, 1) := by decide +kernel
theorem dX11_smaller_157 : decode cX11_smaller 157 = .ok (.invokevirtual 203, 3) := by decide +kernel
theorem dX11_smaller_160 : decode cX11_smaller 160 = .ok (.aload_n 0, 1) := by decide +kernel
theorem dX11_smaller_161 : decode cX11_smaller 161 = .ok (.iconst 0, 1) := by decide +kernel
theorem dX11_smaller_162 : decode cX11_smaller 162 = .ok (.invokevirtual 197, 3) := by decide +kernel
theorem dX11_smaller_165 : decode cX11_smaller 165 = .ok (.ireturn, 1) := by decide +kernel
theorem dX11_ranked_0 : decode cX11_ranked 0 = .ok (.aload_n 0, 1) := by decide +kernel
theorem dX11_ranked_1 : decode cX11_ranked 1 = .ok (.iconst 0, 1) := by decide +kernel
theorem dX11_ranked_2 : decode cX11_ranked 2 = .ok (.putfield 85, 3) := by decide +kernel
theorem dX11_ranked_5 : decode cX11_ranked 5 = .ok (.aload_n 0, 1) := by decide +kernel
theorem dX11_ranked_6 : decode cX11_ranked 6 = .ok (.iload_n 1, 1) := by decide +kernel
theorem dX11_ranked_7 : decode cX11_ranked 7 = .ok (.invokevirtual 173, 3) := by decide +kernel
theorem dX11_ranked_10 : decode cX11_ranked 10 = .ok (.ifCond .eq 24, 3) := by decide +kernel
theorem dX11_ranked_13 : decode cX11_ranked 13 = .ok (.iload_n 2, 1) := by decide +kernel
theorem dX11_ranked_14 : decode cX11_ranked 14 = .ok (.iconst 0, 1) := by decide +kernel
theorem dX11_ranked_15 : decode cX11_ranked 15 = .ok (.aload_n 0, 1) := by decide +kernel
theorem dX11_ranked_16 : decode cX11_ranked 16 = .ok (.iload_n 1, 1) := by decide +kernel
theorem dX11_ranked_17 : decode cX11_ranked 17 = .ok (.invokevirtual 170, 3) := by decide +kernel
theorem dX11_ranked_20 : decode cX11_ranked 20 = .ok (.aload_n 0, 1) := by decide +kernel
theorem dX11_ranked_21 : decode cX11_ranked 21 = .ok (.iload_n 1, 1) := by decide +kernel
theorem dX11_ranked_22 : decode cX11_ranked 22 = .ok (.invokevirtual 176, 3) := by decide +kernel
theorem dX11_ranked_25 : decode cX11_ranked 25 = .ok (.imul, 1) := by decide +kernel
theorem dX11_ranked_26 : decode cX11_ranked 26 = .ok (.iconst 1, 1) := by decide +kernel
theorem dX11_ranked_27 : decode cX11_ranked 27 = .ok (.isub, 1) := by decide +kernel
theorem dX11_ranked_28 : decode cX11_ranked 28 = .ok (.invokestatic 106, 3) := by decide +kernel
theorem dX11_ranked_31 : decode cX11_ranked 31 = .ok (.ifCond .ne 9, 3) := by decide +kernel
theorem dX11_ranked_34 : decode cX11_ranked 34 = .ok (.aload_n 0, 1) := by decide +kernel
theorem dX11_ranked_35 : decode cX11_ranked 35 = .ok (.iconst 1, 1) := by decide +kernel
theorem dX11_ranked_36 : decode cX11_ranked 36 = .ok (.invokevirtual 147, 3) := by decide +kernel
theorem dX11_ranked_39 : decode cX11_ranked 39 = .ok (.ireturn, 1) := by decide +kernel
theorem dX11_ranked_40 : decode cX11_ranked 40 = .ok (.aload_n 0, 1) := by decide +kernel
theorem dX11_ranked_41 : decode cX11_ranked 41 = .ok (.iconst 0, 1) := by decide +kernel
theorem dX11_ranked_42 : decode cX11_ranked 42 = .ok (.putfield 310, 3) := by decide +kernel
theorem dX11_ranked_45 : decode cX11_ranked 45 = .ok (.iconst 0, 1) := by decide +kernel
theorem dX11_ranked_46 : decode cX11_ranked 46 = .ok (.istore_n 3, 1) := by decide +kernel
theorem dX11_ranked_47 : decode cX11_ranked 47 = .ok (.iload_n 3, 1) := by decide +kernel
theorem dX11_ranked_48 : decode cX11_ranked 48 = .ok (.aload_n 0, 1) := by decide +kernel
theorem dX11_ranked_49 : decode cX11_ranked 49 = .ok (.iload_n 1, 1) := by decide +kernel
theorem dX11_ranked_50 : decode cX11_ranked 50 = .ok (.invokevirtual 176, 3) := by decide +kernel
theorem dX11_ranked_53 : decode cX11_ranked 53 = .ok (.if_icmp .ge 40, 3) := by decide +kernel
theorem dX11_ranked_56 : decode cX11_ranked 56 = .ok (.iconst 0, 1) := by decide +kernel
theorem dX11_ranked_57 : decode cX11_ranked 57 = .ok (.istore 4, 2) := by decide +kernel
theorem dX11_ranked_59 : decode cX11_ranked 59 = .ok (.iload 4, 2) := by decide +kernel
theorem dX11_ranked_61 : decode cX11_ranked 61 = .ok (.aload_n 0, 1) := by decide +kernel
theorem dX11_ranked_62 : decode cX11_ranked 62 = .ok (.iload_n 1, 1) := by decide +kernel
theorem dX11_ranked_63 : decode cX11_ranked 63 = .ok (.invokevirtual 170, 3) := by decide +kernel
theorem dX11_ranked_66 : decode cX11_ranked 66 = .ok (.if_icmp .ge 21, 3) := by decide +kernel
theorem dX11_ranked_69 : decode cX11_ranked 69 = .ok (.aload_n 0, 1) := by decide +kernel
theorem dX11_ranked_70 : decode cX11_ranked 70 = .ok (.aload_n 0, 1) := by decide +kernel
theorem dX11_ranked_71 : decode cX11_ranked 71 = .ok (.iload_n 1, 1) := by decide +kernel
theorem dX11_ranked_72 : decode cX11_ranked 72 = .ok (.iload 4, 2) := by decide +kernel
theorem dX11_ranked_74 : decode cX11_ranked 74 = .ok (.iload_n 3, 1) := by decide +kernel
theorem dX11_ranked_75 : decode cX11_ranked 75 = .ok (.invokevirtual 182, 3) := by decide +kernel
theorem dX11_ranked_78 : decode cX11_ranked 78 = .ok (.invokevirtual 313, 3) := by decide +kernel
theorem dX11_ranked_81 : decode cX11_ranked 81 = .ok (.iinc 4 1, 3) := by decide +kernel
theorem dX11_ranked_84 : decode cX11_ranked 84 = .ok (.goto (-25), 3) := by decide +kernel
theorem dX11_ranked_87 : decode cX11_ranked 87 = .ok (.iinc 3 1, 3) := by decide +kernel
theorem dX11_ranked_90 : decode cX11_ranked 90 = .ok (.goto (-43), 3) := by decide +kernel
theorem dX11_ranked_93 : decode cX11_ranked 93 = .ok (.aload_n 0, 1) := by decide +kernel
theorem dX11_ranked_94 : decode cX11_ranked 94 = .ok (.aload_n 0, 1) := by decide +kernel
theorem dX11_ranked_95 : decode cX11_ranked 95 = .ok (.getfield 70, 3) := by decide +kernel
theorem dX11_ranked_98 : decode cX11_ranked 98 = .ok (.iload_n 2, 1) := by decide +kernel
theorem dX11_ranked_99 : decode cX11_ranked 99 = .ok (.iaload, 1) := by decide +kernel
theorem dX11_ranked_100 : decode cX11_ranked 100 = .ok (.invokevirtual 157, 3) := by decide +kernel
theorem dX11_ranked_103 : decode cX11_ranked 103 = .ok (.ireturn, 1) := by decide +kernel
theorem dX11_rests_0 : decode cX11_rests 0 = .ok (.aload_n 0, 1) := by decide +kernel
theorem dX11_rests_1 : decode cX11_rests 1 = .ok (.iconst 0, 1) := by decide +kernel
theorem dX11_rests_2 : decode cX11_rests 2 = .ok (.putfield 85, 3) := by decide +kernel
theorem dX11_rests_5 : decode cX11_rests 5 = .ok (.aload_n 0, 1) := by decide +kernel
theorem dX11_rests_6 : decode cX11_rests 6 = .ok (.iload_n 1, 1) := by decide +kernel
theorem dX11_rests_7 : decode cX11_rests 7 = .ok (.iload_n 1, 1) := by decide +kernel
theorem dX11_rests_8 : decode cX11_rests 8 = .ok (.iload_n 2, 1) := by decide +kernel
theorem dX11_rests_9 : decode cX11_rests 9 = .ok (.iload_n 3, 1) := by decide +kernel
theorem dX11_rests_10 : decode cX11_rests 10 = .ok (.iload 4, 2) := by decide +kernel
theorem dX11_rests_12 : decode cX11_rests 12 = .ok (.invokevirtual 299, 3) := by decide +kernel
theorem dX11_rests_15 : decode cX11_rests 15 = .ok (.istore 5, 2) := by decide +kernel
theorem dX11_rests_17 : decode cX11_rests 17 = .ok (.iload 5, 2) := by decide +kernel
theorem dX11_rests_19 : decode cX11_rests 19 = .ok (.ifCond .le 10, 3) := by decide +kernel
theorem dX11_rests_22 : decode cX11_rests 22 = .ok (.aload_n 0, 1) := by decide +kernel
theorem dX11_rests_23 : decode cX11_rests 23 = .ok (.iload 5, 2) := by decide +kernel
theorem dX11_rests_25 : decode cX11_rests 25 = .ok (.invokevirtual 147, 3) := by decide +kernel
theorem dX11_rests_28 : decode cX11_rests 28 = .ok (.ireturn, 1) := by decide +kernel
theorem dX11_rests_29 : decode cX11_rests 29 = .ok (.iconst 0, 1) := by decide +kernel
theorem dX11_rests_30 : decode cX11_rests 30 = .ok (.istore 6, 2) := by decide +kernel
theorem dX11_rests_32 : decode cX11_rests 32 = .ok (.iload 6, 2) := by decide +kernel
theorem dX11_rests_34 : decode cX11_rests 34 = .ok (.sipush 194, 3) := by decide +kernel
theorem dX11_rests_37 : decode cX11_rests 37 = .ok (.if_icmp .ge 33, 3) := by decide +kernel
theorem dX11_rests_40 : decode cX11_rests 40 = .ok (.aload_n 0, 1) := by decide +kernel
theorem dX11_rests_41 : decode cX11_rests 41 = .ok (.getfield 38, 3) := by decide +kernel
theorem dX11_rests_44 : decode cX11_rests 44 = .ok (.sipush 1358, 3) := by decide +kernel
theorem dX11_rests_47 : decode cX11_rests 47 = .ok (.iload 6, 2) := by decide +kernel
theorem dX11_rests_49 : decode cX11_rests 49 = .ok (.iadd, 1) := by decide +kernel
theorem dX11_rests_50 : decode cX11_rests 50 = .ok (.aload_n 0, 1) := by decide +kernel
theorem dX11_rests_51 : decode cX11_rests 51 = .ok (.getfield 38, 3) := by decide +kernel
theorem dX11_rests_54 : decode cX11_rests 54 = .ok (.sipush 194, 3) := by decide +kernel
theorem dX11_rests_57 : decode cX11_rests 57 = .ok (.iload_n 1, 1) := by decide +kernel
theorem dX11_rests_58 : decode cX11_rests 58 = .ok (.imul, 1) := by decide +kernel
theorem dX11_rests_59 : decode cX11_rests 59 = .ok (.iload 6, 2) := by decide +kernel
theorem dX11_rests_61 : decode cX11_rests 61 = .ok (.iadd, 1) := by decide +kernel
theorem dX11_rests_62 : decode cX11_rests 62 = .ok (.iaload, 1) := by decide +kernel
theorem dX11_rests_63 : decode cX11_rests 63 = .ok (.iastore, 1) := by decide +kernel
theorem dX11_rests_64 : decode cX11_rests 64 = .ok (.iinc 6 1, 3) := by decide +kernel
theorem dX11_rests_67 : decode cX11_rests 67 = .ok (.goto (-35), 3) := by decide +kernel
theorem dX11_rests_70 : decode cX11_rests 70 = .ok (.iconst 0, 1) := by decide +kernel
theorem dX11_rests_71 : decode cX11_rests 71 = .ok (.istore 6, 2) := by decide +kernel
theorem dX11_rests_73 : decode cX11_rests 73 = .ok (.iload 6, 2) := by decide +kernel
theorem dX11_rests_75 : decode cX11_rests 75 = .ok (.bipush 20, 2) := by decide +kernel
theorem dX11_rests_77 : decode cX11_rests 77 = .ok (.if_icmp .ge 76, 3) := by decide +kernel
theorem dX11_rests_80 : decode cX11_rests 80 = .ok (.aload_n 0, 1) := by decide +kernel
theorem dX11_rests_81 : decode cX11_rests 81 = .ok (.bipush 7, 2) := by decide +kernel
theorem dX11_rests_83 : decode cX11_rests 83 = .ok (.bipush 7, 2) := by decide +kernel
theorem dX11_rests_85 : decode cX11_rests 85 = .ok (.iload_n 2, 1) := by decide +kernel
theorem dX11_rests_86 : decode cX11_rests 86 = .ok (.iload_n 3, 1) := by decide +kernel
theorem dX11_rests_87 : decode cX11_rests 87 = .ok (.iload 4, 2) := by decide +kernel
theorem dX11_rests_89 : decode cX11_rests 89 = .ok (.invokevirtual 303, 3) := by decide +kernel
theorem dX11_rests_92 : decode cX11_rests 92 = .ok (.aload_n 0, 1) := by decide +kernel
theorem dX11_rests_93 : decode cX11_rests 93 = .ok (.bipush 7, 2) := by decide +kernel
theorem dX11_rests_95 : decode cX11_rests 95 = .ok (.invokevirtual 213, 3) := by decide +kernel
theorem dX11_rests_98 : decode cX11_rests 98 = .ok (.ifCond .ne 10, 3) := by decide +kernel
theorem dX11_rests_101 : decode cX11_rests 101 = .ok (.aload_n 0, 1) := by decide +kernel
theorem dX11_rests_102 : decode cX11_rests 102 = .ok (.iload 6, 2) := by decide +kernel
theorem dX11_rests_104 : decode cX11_rests 104 = .ok (.invokevirtual 157, 3) := by decide +kernel
theorem dX11_rests_107 : decode cX11_rests 107 = .ok (.ireturn, 1) := by decide +kernel
theorem dX11_rests_108 : decode cX11_rests 108 = .ok (.iconst 0, 1) := by decide +kernel
theorem dX11_rests_109 : decode cX11_rests 109 = .ok (.istore 7, 2) := by decide +kernel
theorem dX11_rests_111 : decode cX11_rests 111 = .ok (.iload 7, 2) := by decide +kernel
theorem dX11_rests_113 : decode cX11_rests 113 = .ok (.sipush 194, 3) := by decide +kernel
theorem dX11_rests_116 : decode cX11_rests 116 = .ok (.if_icmp .ge 31, 3) := by decide +kernel
theorem dX11_rests_119 : decode cX11_rests 119 = .ok (.aload_n 0, 1) := by decide +kernel
theorem dX11_rests_120 : decode cX11_rests 120 = .ok (.getfield 38, 3) := by decide +kernel
theorem dX11_rests_123 : decode cX11_rests 123 = .ok (.sipush 1358, 3) := by decide +kernel
theorem dX11_rests_126 : decode cX11_rests 126 = .ok (.iload 7, 2) := by decide +kernel
theorem dX11_rests_128 : decode cX11_rests 128 = .ok (.iadd, 1) := by decide +kernel
theorem dX11_rests_129 : decode cX11_rests 129 = .ok (.aload_n 0, 1) := by decide +kernel
theorem dX11_rests_130 : decode cX11_rests 130 = .ok (.getfield 38, 3) := by decide +kernel
theorem dX11_rests_133 : decode cX11_rests 133 = .ok (.sipush 1164, 3) := by decide +kernel
theorem dX11_rests_136 : decode cX11_rests 136 = .ok (.iload 7, 2) := by decide +kernel
theorem dX11_rests_138 : decode cX11_rests 138 = .ok (.iadd, 1) := by decide +kernel
theorem dX11_rests_139 : decode cX11_rests 139 = .ok (.iaload, 1) := by decide +kernel
theorem dX11_rests_140 : decode cX11_rests 140 = .ok (.iastore, 1) := by decide +kernel
theorem dX11_rests_141 : decode cX11_rests 141 = .ok (.iinc 7 1, 3) := by decide +kernel
theorem dX11_rests_144 : decode cX11_rests 144 = .ok (.goto (-33), 3) := by decide +kernel
theorem dX11_rests_147 : decode cX11_rests 147 = .ok (.iinc 6 1, 3) := by decide +kernel
theorem dX11_rests_150 : decode cX11_rests 150 = .ok (.goto (-77), 3) := by decide +kernel
theorem dX11_rests_153 : decode cX11_rests 153 = .ok (.aload_n 0, 1) := by decide +kernel
theorem dX11_rests_154 : decode cX11_rests 154 = .ok (.bipush (-2), 2) := by decide +kernel
theorem dX11_rests_156 : decode cX11_rests 156 = .ok (.invokevirtual 157, 3) := by decide +kernel
theorem dX11_rests_159 : decode cX11_rests 159 = .ok (.ireturn, 1) := by decide +kernel
theorem dX11_isNear_0 : decode cX11_isNear 0 = .ok (.aload_n 0, 1) := by decide +kernel
theorem dX11_isNear_1 : decode cX11_isNear 1 = .ok (.iload_n 1, 1) := by decide +kernel
theorem dX11_isNear_2 : decode cX11_isNear 2 = .ok (.iload_n 2, 1) := by decide +kernel
theorem dX11_isNear_3 : decode cX11_isNear 3 = .ok (.bipush 16, 2) := by decide +kernel
theorem dX11_isNear_5 : decode cX11_isNear 5 = .ok (.irem, 1) := by decide +kernel
theorem dX11_isNear_6 : decode cX11_isNear 6 = .ok (.iload_n 2, 1) := by decide +kernel
theorem dX11_isNear_7 : decode cX11_isNear 7 = .ok (.bipush 16, 2) := by decide +kernel
theorem dX11_isNear_9 : decode cX11_isNear 9 = .ok (.idiv, 1) := by decide +kernel
theorem dX11_isNear_10 : decode cX11_isNear 10 = .ok (.invokevirtual 182, 3) := by decide +kernel
theorem dX11_isNear_13 : decode cX11_isNear 13 = .ok (.aload_n 0, 1) := by decide +kernel
theorem dX11_isNear_14 : decode cX11_isNear 14 = .ok (.iload_n 1, 1) := by decide +kernel
theorem dX11_isNear_15 : decode cX11_isNear 15 = .ok (.iload_n 3, 1) := by decide +kernel
theorem dX11_isNear_16 : decode cX11_isNear 16 = .ok (.bipush 16, 2) := by decide +kernel
theorem dX11_isNear_18 : decode cX11_isNear 18 = .ok (.irem, 1) := by decide +kernel
theorem dX11_isNear_19 : decode cX11_isNear 19 = .ok (.iload_n 3, 1) := by decide +kernel
theorem dX11_isNear_20 : decode cX11_isNear 20 = .ok (.bipush 16, 2) := by decide +kernel
theorem dX11_isNear_22 : decode cX11_isNear 22 = .ok (.idiv, 1) := by decide +kernel
theorem dX11_isNear_23 : decode cX11_isNear 23 = .ok (.invokevirtual 182, 3) := by decide +kernel
theorem dX11_isNear_26 : decode cX11_isNear 26 = .ok (.isub, 1) := by decide +kernel
theorem dX11_isNear_27 : decode cX11_isNear 27 = .ok (.istore 5, 2) := by decide +kernel
theorem dX11_isNear_29 : decode cX11_isNear 29 = .ok (.iload 5, 2) := by decide +kernel
theorem dX11_isNear_31 : decode cX11_isNear 31 = .ok (.iload 4, 2) := by decide +kernel
theorem dX11_isNear_33 : decode cX11_isNear 33 = .ok (.if_icmp .gt 15, 3) := by decide +kernel
theorem dX11_isNear_36 : decode cX11_isNear 36 = .ok (.iload 5, 2) := by decide +kernel
theorem dX11_isNear_38 : decode cX11_isNear 38 = .ok (.ineg, 1) := by decide +kernel
theorem dX11_isNear_39 : decode cX11_isNear 39 = .ok (.iload 4, 2) := by decide +kernel
theorem dX11_isNear_41 : decode cX11_isNear 41 = .ok (.if_icmp .gt 7, 3) := by decide +kernel
theorem dX11_isNear_44 : decode cX11_isNear 44 = .ok (.iconst 1, 1) := by decide +kernel
theorem dX11_isNear_45 : decode cX11_isNear 45 = .ok (.goto 4, 3) := by decide +kernel
theorem dX11_isNear_48 : decode cX11_isNear 48 = .ok (.iconst 0, 1) := by decide +kernel
theorem dX11_isNear_49 : decode cX11_isNear 49 = .ok (.ireturn, 1) := by decide +kernel
theorem dX11_lays_0 : decode cX11_lays 0 = .ok (.iconst 0, 1) := by decide +kernel
theorem dX11_lays_1 : decode cX11_lays 1 = .ok (.istore_n 3, 1) := by decide +kernel
theorem dX11_lays_2 : decode cX11_lays 2 = .ok (.iload_n 3, 1) := by decide +kernel
theorem dX11_lays_3 : decode cX11_lays 3 = .ok (.sipush 192, 3) := by decide +kernel
theorem dX11_lays_6 : decode cX11_lays 6 = .ok (.if_icmp .ge 16, 3) := by decide +kernel
theorem dX11_lays_9 : decode cX11_lays 9 = .ok (.aload_n 0, 1) := by decide +kernel
theorem dX11_lays_10 : decode cX11_lays 10 = .ok (.getfield 73, 3) := by decide +kernel
theorem dX11_lays_13 : decode cX11_lays 13 = .ok (.iload_n 3, 1) := by decide +kernel
theorem dX11_lays_14 : decode cX11_lays 14 = .ok (.iconst (-1), 1) := by decide +kernel
theorem dX11_lays_15 : decode cX11_lays 15 = .ok (.iastore, 1) := by decide +kernel
theorem dX11_lays_16 : decode cX11_lays 16 = .ok (.iinc 3 1, 3) := by decide +kernel
theorem dX11_lays_19 : decode cX11_lays 19 = .ok (.goto (-17), 3) := by decide +kernel
theorem dX11_lays_22 : decode cX11_lays 22 = .ok (.iconst 0, 1) := by decide +kernel
theorem dX11_lays_23 : decode cX11_lays 23 = .ok (.istore_n 3, 1) := by decide +kernel
theorem dX11_lays_24 : decode cX11_lays 24 = .ok (.iconst 0, 1) := by decide +kernel
theorem dX11_lays_25 : decode cX11_lays 25 = .ok (.istore 4, 2) := by decide +kernel
theorem dX11_lays_27 : decode cX11_lays 27 = .ok (.iload 4, 2) := by decide +kernel
theorem dX11_lays_29 : decode cX11_lays 29 = .ok (.aload_n 0, 1) := by decide +kernel
theorem dX11_lays_30 : decode cX11_lays 30 = .ok (.iload_n 1, 1) := by decide +kernel
theorem dX11_lays_31 : decode cX11_lays 31 = .ok (.invokevirtual 176, 3) := by decide +kernel
theorem dX11_lays_34 : decode cX11_lays 34 = .ok (.if_icmp .ge 66, 3) := by decide +kernel
theorem dX11_lays_37 : decode cX11_lays 37 = .ok (.iconst 0, 1) := by decide +kernel
theorem dX11_lays_38 : decode cX11_lays 38 = .ok (.istore 5, 2) := by decide +kernel
theorem dX11_lays_40 : decode cX11_lays 40 = .ok (.iload 5, 2) := by decide +kernel
theorem dX11_lays_42 : decode cX11_lays 42 = .ok (.aload_n 0, 1) := by decide +kernel
theorem dX11_lays_43 : decode cX11_lays 43 = .ok (.iload_n 1, 1) := by decide +kernel
theorem dX11_lays_44 : decode cX11_lays 44 = .ok (.invokevirtual 170, 3) := by decide +kernel
theorem dX11_lays_47 : decode cX11_lays 47 = .ok (.if_icmp .ge 47, 3) := by decide +kernel
theorem dX11_lays_50 : decode cX11_lays 50 = .ok (.aload_n 0, 1) := by decide +kernel
theorem dX11_lays_51 : decode cX11_lays 51 = .ok (.getfield 73, 3) := by decide +kernel
theorem dX11_lays_54 : decode cX11_lays 54 = .ok (.bipush 16, 2) := by decide +kernel
theorem dX11_lays_56 : decode cX11_lays 56 = .ok (.iload 4, 2) := by decide +kernel
theorem dX11_lays_58 : decode cX11_lays 58 = .ok (.imul, 1) := by decide +kernel
theorem dX11_lays_59 : decode cX11_lays 59 = .ok (.iload 5, 2) := by decide +kernel
theorem dX11_lays_61 : decode cX11_lays 61 = .ok (.iadd, 1) := by decide +kernel
theorem dX11_lays_62 : decode cX11_lays 62 = .ok (.iaload, 1) := by decide +kernel
theorem dX11_lays_63 : decode cX11_lays 63 = .ok (.iconst (-1), 1) := by decide +kernel
theorem dX11_lays_64 : decode cX11_lays 64 = .ok (.if_icmp .eq 6, 3) := by decide +kernel
theorem dX11_lays_67 : decode cX11_lays 67 = .ok (.goto 21, 3) := by decide +kernel
theorem dX11_lays_70 : decode cX11_lays 70 = .ok (.aload_n 0, 1) := by decide +kernel
theorem dX11_lays_71 : decode cX11_lays 71 = .ok (.iload_n 1, 1) := by decide +kernel
theorem dX11_lays_72 : decode cX11_lays 72 = .ok (.iload_n 2, 1) := by decide +kernel
theorem dX11_lays_73 : decode cX11_lays 73 = .ok (.bipush 16, 2) := by decide +kernel
theorem dX11_lays_75 : decode cX11_lays 75 = .ok (.iload 4, 2) := by decide +kernel
theorem dX11_lays_77 : decode cX11_lays 77 = .ok (.imul, 1) := by decide +kernel
theorem dX11_lays_78 : decode cX11_lays 78 = .ok (.iload 5, 2) := by decide +kernel
theorem dX11_lays_80 : decode cX11_lays 80 = .ok (.iadd, 1) := by decide +kernel
theorem dX11_lays_81 : decode cX11_lays 81 = .ok (.iload_n 3, 1) := by decide +kernel
theorem dX11_lays_82 : decode cX11_lays 82 = .ok (.invokevirtual 334, 3) := by decide +kernel
theorem dX11_lays_85 : decode cX11_lays 85 = .ok (.iinc 3 1, 3) := by decide +kernel
theorem dX11_lays_88 : decode cX11_lays 88 = .ok (.iinc 5 1, 3) := by decide +kernel
theorem dX11_lays_91 : decode cX11_lays 91 = .ok (.goto (-51), 3) := by decide +kernel
theorem dX11_lays_94 : decode cX11_lays 94 = .ok (.iinc 4 1, 3) := by decide +kernel
theorem dX11_lays_97 : decode cX11_lays 97 = .ok (.goto (-70), 3) := by decide +kernel
theorem dX11_lays_100 : decode cX11_lays 100 = .ok (.iload_n 3, 1) := by decide +kernel
theorem dX11_lays_101 : decode cX11_lays 101 = .ok (.ireturn, 1) := by decide +kernel
theorem dX11_fills_0 : decode cX11_fills 0 = .ok (.aload_n 0, 1) := by decide +kernel
theorem dX11_fills_1 : decode cX11_fills 1 = .ok (.getfield 76, 3) := by decide +kernel
theorem dX11_fills_4 : decode cX11_fills 4 = .ok (.iconst 0, 1) := by decide +kernel
theorem dX11_fills_5 : decode cX11_fills 5 = .ok (.iload_n 3, 1) := by decide +kernel
theorem dX11_fills_6 : decode cX11_fills 6 = .ok (.iastore, 1) := by decide +kernel
theorem dX11_fills_7 : decode cX11_fills 7 = .ok (.aload_n 0, 1) := by decide +kernel
theorem dX11_fills_8 : decode cX11_fills 8 = .ok (.getfield 73, 3) := by decide +kernel
theorem dX11_fills_11 : decode cX11_fills 11 = .ok (.iload_n 3, 1) := by decide +kernel
theorem dX11_fills_12 : decode cX11_fills 12 = .ok (.iload 4, 2) := by decide +kernel
theorem dX11_fills_14 : decode cX11_fills 14 = .ok (.iastore, 1) := by decide +kernel
theorem dX11_fills_15 : decode cX11_fills 15 = .ok (.iconst 1, 1) := by decide +kernel
theorem dX11_fills_16 : decode cX11_fills 16 = .ok (.istore 5, 2) := by decide +kernel
theorem dX11_fills_18 : decode cX11_fills 18 = .ok (.iconst 0, 1) := by decide +kernel
theorem dX11_fills_19 : decode cX11_fills 19 = .ok (.istore 6, 2) := by decide +kernel
theorem dX11_fills_21 : decode cX11_fills 21 = .ok (.iload 6, 2) := by decide +kernel
theorem dX11_fills_23 : decode cX11_fills 23 = .ok (.iload 5, 2) := by decide +kernel
theorem dX11_fills_25 : decode cX11_fills 25 = .ok (.if_icmp .ge 189, 3) := by decide +kernel
theorem dX11_fills_28 : decode cX11_fills 28 = .ok (.iconst 0, 1) := by decide +kernel
theorem dX11_fills_29 : decode cX11_fills 29 = .ok (.istore 7, 2) := by decide +kernel
theorem dX11_fills_31 : decode cX11_fills 31 = .ok (.iload 7, 2) := by decide +kernel
theorem dX11_fills_33 : decode cX11_fills 33 = .ok (.iconst 4, 1) := by decide +kernel
theorem dX11_fills_34 : decode cX11_fills 34 = .ok (.if_icmp .ge 174, 3) := by decide +kernel
theorem dX11_fills_37 : decode cX11_fills 37 = .ok (.aload_n 0, 1) := by decide +kernel
theorem dX11_fills_38 : decode cX11_fills 38 = .ok (.getfield 76, 3) := by decide +kernel
theorem dX11_fills_41 : decode cX11_fills 41 = .ok (.iload 6, 2) := by decide +kernel
theorem dX11_fills_43 : decode cX11_fills 43 = .ok (.iaload, 1) := by decide +kernel
theorem dX11_fills_44 : decode cX11_fills 44 = .ok (.bipush 16, 2) := by decide +kernel
theorem dX11_fills_46 : decode cX11_fills 46 = .ok (.irem, 1) := by decide +kernel
theorem dX11_fills_47 : decode cX11_fills 47 = .ok (.iload 7, 2) := by decide +kernel
theorem dX11_fills_49 : decode cX11_fills 49 = .ok (.ifCond .ne 7, 3) := by decide +kernel
theorem dX11_fills_52 : decode cX11_fills 52 = .ok (.iconst 1, 1) := by decide +kernel
theorem dX11_fills_53 : decode cX11_fills 53 = .ok (.goto 14, 3) := by decide +kernel
theorem dX11_fills_56 : decode cX11_fills 56 = .ok (.iload 7, 2) := by decide +kernel
theorem dX11_fills_58 : decode cX11_fills 58 = .ok (.iconst 1, 1) := by decide +kernel
theorem dX11_fills_59 : decode cX11_fills 59 = .ok (.if_icmp .ne 7, 3) := by decide +kernel
theorem dX11_fills_62 : decode cX11_fills 62 = .ok (.iconst (-1), 1) := by decide +kernel
theorem dX11_fills_63 : decode cX11_fills 63 = .ok (.goto 4, 3) := by decide +kernel
theorem dX11_fills_66 : decode cX11_fills 66 = .ok (.iconst 0, 1) := by decide +kernel
theorem dX11_fills_67 : decode cX11_fills 67 = .ok (.iadd, 1) := by decide +kernel
theorem dX11_fills_68 : decode cX11_fills 68 = .ok (.istore 8, 2) := by decide +kernel
theorem dX11_fills_70 : decode cX11_fills 70 = .ok (.aload_n 0, 1) := by decide +kernel
theorem dX11_fills_71 : decode cX11_fills 71 = .ok (.getfield 76, 3) := by decide +kernel
theorem dX11_fills_74 : decode cX11_fills 74 = .ok (.iload 6, 2) := by decide +kernel
theorem dX11_fills_76 : decode cX11_fills 76 = .ok (.iaload, 1) := by decide +kernel
theorem dX11_fills_77 : decode cX11_fills 77 = .ok (.bipush 16, 2) := by decide +kernel
theorem dX11_fills_79 : decode cX11_fills 79 = .ok (.idiv, 1) := by decide +kernel
theorem dX11_fills_80 : decode cX11_fills 80 = .ok (.iload 7, 2) := by decide +kernel
theorem dX11_fills_82 : decode cX11_fills 82 = .ok (.iconst 2, 1) := by decide +kernel
theorem dX11_fills_83 : decode cX11_fills 83 = .ok (.if_icmp .ne 7, 3) := by decide +kernel
theorem dX11_fills_86 : decode cX11_fills 86 = .ok (.iconst 1, 1) := by decide +kernel
theorem dX11_fills_87 : decode cX11_fills 87 = .ok (.goto 14, 3) := by decide +kernel
theorem dX11_fills_90 : decode cX11_fills 90 = .ok (.iload 7, 2) := by decide +kernel
theorem dX11_fills_92 : decode cX11_fills 92 = .ok (.iconst 3, 1) := by decide +kernel
theorem dX11_fills_93 : decode cX11_fills 93 = .ok (.if_icmp .ne 7, 3) := by decide +kernel
theorem dX11_fills_96 : decode cX11_fills 96 = .ok (.iconst (-1), 1) := by decide +kernel
theorem dX11_fills_97 : decode cX11_fills 97 = .ok (.goto 4, 3) := by decide +kernel
theorem dX11_fills_100 : decode cX11_fills 100 = .ok (.iconst 0, 1) := by decide +kernel
theorem dX11_fills_101 : decode cX11_fills 101 = .ok (.iadd, 1) := by decide +kernel
theorem dX11_fills_102 : decode cX11_fills 102 = .ok (.istore 9, 2) := by decide +kernel
theorem dX11_fills_104 : decode cX11_fills 104 = .ok (.iload 8, 2) := by decide +kernel
theorem dX11_fills_106 : decode cX11_fills 106 = .ok (.iconst 0, 1) := by decide +kernel
theorem dX11_fills_107 : decode cX11_fills 107 = .ok (.aload_n 0, 1) := by decide +kernel
theorem dX11_fills_108 : decode cX11_fills 108 = .ok (.iload_n 1, 1) := by decide +kernel
theorem dX11_fills_109 : decode cX11_fills 109 = .ok (.invokevirtual 170, 3) := by decide +kernel
theorem dX11_fills_112 : decode cX11_fills 112 = .ok (.iconst 1, 1) := by decide +kernel
theorem dX11_fills_113 : decode cX11_fills 113 = .ok (.isub, 1) := by decide +kernel
theorem dX11_fills_114 : decode cX11_fills 114 = .ok (.invokestatic 106, 3) := by decide +kernel
theorem dX11_fills_117 : decode cX11_fills 117 = .ok (.ifCond .eq 85, 3) := by decide +kernel
theorem dX11_fills_120 : decode cX11_fills 120 = .ok (.iload 9, 2) := by decide +kernel
theorem dX11_fills_122 : decode cX11_fills 122 = .ok (.iconst 0, 1) := by decide +kernel
theorem dX11_fills_123 : decode cX11_fills 123 = .ok (.aload_n 0, 1) := by decide +kernel
theorem dX11_fills_124 : decode cX11_fills 124 = .ok (.iload_n 1, 1) := by decide +kernel
theorem dX11_fills_125 : decode cX11_fills 125 = .ok (.invokevirtual 176, 3) := by decide +kernel
theorem dX11_fills_128 : decode cX11_fills 128 = .ok (.iconst 1, 1) := by decide +kernel
theorem dX11_fills_129 : decode cX11_fills 129 = .ok (.isub, 1) := by decide +kernel
theorem dX11_fills_130 : decode cX11_fills 130 = .ok (.invokestatic 106, 3) := by decide +kernel
theorem dX11_fills_133 : decode cX11_fills 133 = .ok (.ifCond .ne 6, 3) := by decide +kernel
theorem dX11_fills_136 : decode cX11_fills 136 = .ok (.goto 66, 3) := by decide +kernel
theorem dX11_fills_139 : decode cX11_fills 139 = .ok (.bipush 16, 2) := by decide +kernel
theorem dX11_fills_141 : decode cX11_fills 141 = .ok (.iload 9, 2) := by decide +kernel
theorem dX11_fills_143 : decode cX11_fills 143 = .ok (.imul, 1) := by decide +kernel
theorem dX11_fills_144 : decode cX11_fills 144 = .ok (.iload 8, 2) := by decide +kernel
theorem dX11_fills_146 : decode cX11_fills 146 = .ok (.iadd, 1) := by decide +kernel
theorem dX11_fills_147 : decode cX11_fills 147 = .ok (.istore 10, 2) := by decide +kernel
theorem dX11_fills_149 : decode cX11_fills 149 = .ok (.aload_n 0, 1) := by decide +kernel
theorem dX11_fills_150 : decode cX11_fills 150 = .ok (.getfield 73, 3) := by decide +kernel
theorem dX11_fills_153 : decode cX11_fills 153 = .ok (.iload 10, 2) := by decide +kernel
theorem dX11_fills_155 : decode cX11_fills 155 = .ok (.iaload, 1) := by decide +kernel
theorem dX11_fills_156 : decode cX11_fills 156 = .ok (.iconst (-1), 1) := by decide +kernel
theorem dX11_fills_157 : decode cX11_fills 157 = .ok (.if_icmp .ne 45, 3) := by decide +kernel
theorem dX11_fills_160 : decode cX11_fills 160 = .ok (.aload_n 0, 1) := by decide +kernel
theorem dX11_fills_161 : decode cX11_fills 161 = .ok (.iload_n 1, 1) := by decide +kernel
theorem dX11_fills_162 : decode cX11_fills 162 = .ok (.aload_n 0, 1) := by decide +kernel
theorem dX11_fills_163 : decode cX11_fills 163 = .ok (.getfield 76, 3) := by decide +kernel
theorem dX11_fills_166 : decode cX11_fills 166 = .ok (.iload 6, 2) := by decide +kernel
theorem dX11_fills_168 : decode cX11_fills 168 = .ok (.iaload, 1) := by decide +kernel
theorem dX11_fills_169 : decode cX11_fills 169 = .ok (.iload 10, 2) := by decide +kernel
theorem dX11_fills_171 : decode cX11_fills 171 = .ok (.iload_n 2, 1) := by decide +kernel
theorem dX11_fills_172 : decode cX11_fills 172 = .ok (.invokevirtual 337, 3) := by decide +kernel
theorem dX11_fills_175 : decode cX11_fills 175 = .ok (.ifCond .ne 6, 3) := by decide +kernel
theorem dX11_fills_178 : decode cX11_fills 178 = .ok (.goto 24, 3) := by decide +kernel
theorem dX11_fills_181 : decode cX11_fills 181 = .ok (.aload_n 0, 1) := by decide +kernel
theorem dX11_fills_182 : decode cX11_fills 182 = .ok (.getfield 73, 3) := by decide +kernel
theorem dX11_fills_185 : decode cX11_fills 185 = .ok (.iload 10, 2) := by decide +kernel
theorem dX11_fills_187 : decode cX11_fills 187 = .ok (.iload 4, 2) := by decide +kernel
theorem dX11_fills_189 : decode cX11_fills 189 = .ok (.iastore, 1) := by decide +kernel
theorem dX11_fills_190 : decode cX11_fills 190 = .ok (.aload_n 0, 1) := by decide +kernel
theorem dX11_fills_191 : decode cX11_fills 191 = .ok (.getfield 76, 3) := by decide +kernel
theorem dX11_fills_194 : decode cX11_fills 194 = .ok (.iload 5, 2) := by decide +kernel
theorem dX11_fills_196 : decode cX11_fills 196 = .ok (.iload 10, 2) := by decide +kernel
theorem dX11_fills_198 : decode cX11_fills 198 = .ok (.iastore, 1) := by decide +kernel
theorem dX11_fills_199 : decode cX11_fills 199 = .ok (.iinc 5 1, 3) := by decide +kernel
theorem dX11_fills_202 : decode cX11_fills 202 = .ok (.iinc 7 1, 3) := by decide +kernel
theorem dX11_fills_205 : decode cX11_fills 205 = .ok (.goto (-174), 3) := by decide +kernel
theorem dX11_fills_208 : decode cX11_fills 208 = .ok (.iinc 6 1, 3) := by decide +kernel
theorem dX11_fills_211 : decode cX11_fills 211 = .ok (.goto (-190), 3) := by decide +kernel
theorem dX11_fills_214 : decode cX11_fills 214 = .ok (.return_, 1) := by decide +kernel
theorem dX11_regions_0 : decode cX11_regions 0 = .ok (.aload_n 0, 1) := by decide +kernel
theorem dX11_regions_1 : decode cX11_regions 1 = .ok (.iconst 0, 1) := by decide +kernel
theorem dX11_regions_2 : decode cX11_regions 2 = .ok (.putfield 85, 3) := by decide +kernel
theorem dX11_regions_5 : decode cX11_regions 5 = .ok (.aload_n 0, 1) := by decide +kernel
theorem dX11_regions_6 : decode cX11_regions 6 = .ok (.iload_n 1, 1) := by decide +kernel
theorem dX11_regions_7 : decode cX11_regions 7 = .ok (.invokevirtual 173, 3) := by decide +kernel
theorem dX11_regions_10 : decode cX11_regions 10 = .ok (.ifCond .ne 9, 3) := by decide +kernel
theorem dX11_regions_13 : decode cX11_regions 13 = .ok (.aload_n 0, 1) := by decide +kernel
theorem dX11_regions_14 : decode cX11_regions 14 = .ok (.iconst 1, 1) := by decide +kernel
theorem dX11_regions_15 : decode cX11_regions 15 = .ok (.invokevirtual 147, 3) := by decide +kernel
theorem dX11_regions_18 : decode cX11_regions 18 = .ok (.ireturn, 1) := by decide +kernel
theorem dX11_regions_19 : decode cX11_regions 19 = .ok (.iload_n 2, 1) := by decide +kernel
theorem dX11_regions_20 : decode cX11_regions 20 = .ok (.iconst 0, 1) := by decide +kernel
theorem dX11_regions_21 : decode cX11_regions 21 = .ok (.sipush 255, 3) := by decide +kernel
theorem dX11_regions_24 : decode cX11_regions 24 = .ok (.invokestatic 106, 3) := by decide +kernel
theorem dX11_regions_27 : decode cX11_regions 27 = .ok (.ifCond .eq 16, 3) := by decide +kernel
theorem dX11_regions_30 : decode cX11_regions 30 = .ok (.aload_n 0, 1) := by decide +kernel
theorem dX11_regions_31 : decode cX11_regions 31 = .ok (.aload_n 0, 1) := by decide +kernel
theorem dX11_regions_32 : decode cX11_regions 32 = .ok (.iload_n 1, 1) := by decide +kernel
theorem dX11_regions_33 : decode cX11_regions 33 = .ok (.iload_n 2, 1) := by decide +kernel
theorem dX11_regions_34 : decode cX11_regions 34 = .ok (.invokevirtual 341, 3) := by decide +kernel
theorem dX11_regions_37 : decode cX11_regions 37 = .ok (.invokevirtual 157, 3) := by decide +kernel
theorem dX11_regions_40 : decode cX11_regions 40 = .ok (.goto 8, 3) := by decide +kernel
theorem dX11_regions_43 : decode cX11_regions 43 = .ok (.aload_n 0, 1) := by decide +kernel
theorem dX11_regions_44 : decode cX11_regions 44 = .ok (.iconst 2, 1) := by decide +kernel
theorem dX11_regions_45 : decode cX11_regions 45 = .ok (.invokevirtual 147, 3) := by decide +kernel
theorem dX11_regions_48 : decode cX11_regions 48 = .ok (.ireturn, 1) := by decide +kernel
theorem dX11_region_0 : decode cX11_region 0 = .ok (.aload_n 0, 1) := by decide +kernel
theorem dX11_region_1 : decode cX11_region 1 = .ok (.iconst 0, 1) := by decide +kernel
theorem dX11_region_2 : decode cX11_region 2 = .ok (.putfield 85, 3) := by decide +kernel
theorem dX11_region_5 : decode cX11_region 5 = .ok (.aload_n 0, 1) := by decide +kernel
theorem dX11_region_6 : decode cX11_region 6 = .ok (.iload_n 1, 1) := by decide +kernel
theorem dX11_region_7 : decode cX11_region 7 = .ok (.invokevirtual 173, 3) := by decide +kernel
theorem dX11_region_10 : decode cX11_region 10 = .ok (.ifCond .eq 13, 3) := by decide +kernel
theorem dX11_region_13 : decode cX11_region 13 = .ok (.iload 4, 2) := by decide +kernel
theorem dX11_region_15 : decode cX11_region 15 = .ok (.iconst 0, 1) := by decide +kernel
theorem dX11_region_16 : decode cX11_region 16 = .ok (.iconst 4, 1) := by decide +kernel
theorem dX11_region_17 : decode cX11_region 17 = .ok (.invokestatic 106, 3) := by decide +kernel
theorem dX11_region_20 : decode cX11_region 20 = .ok (.ifCond .ne 9, 3) := by decide +kernel
theorem dX11_region_23 : decode cX11_region 23 = .ok (.aload_n 0, 1) := by decide +kernel
theorem dX11_region_24 : decode cX11_region 24 = .ok (.iconst 1, 1) := by decide +kernel
theorem dX11_region_25 : decode cX11_region 25 = .ok (.invokevirtual 147, 3) := by decide +kernel
theorem dX11_region_28 : decode cX11_region 28 = .ok (.ireturn, 1) := by decide +kernel
theorem dX11_region_29 : decode cX11_region 29 = .ok (.iload_n 2, 1) := by decide +kernel
theorem dX11_region_30 : decode cX11_region 30 = .ok (.iconst 0, 1) := by decide +kernel
theorem dX11_region_31 : decode cX11_region 31 = .ok (.sipush 255, 3) := by decide +kernel
theorem dX11_region_34 : decode cX11_region 34 = .ok (.invokestatic 106, 3) := by decide +kernel
theorem dX11_region_37 : decode cX11_region 37 = .ok (.ifCond .ne 9, 3) := by decide +kernel
theorem dX11_region_40 : decode cX11_region 40 = .ok (.aload_n 0, 1) := by decide +kernel
theorem dX11_region_41 : decode cX11_region 41 = .ok (.iconst 2, 1) := by decide +kernel
theorem dX11_region_42 : decode cX11_region 42 = .ok (.invokevirtual 147, 3) := by decide +kernel
theorem dX11_region_45 : decode cX11_region 45 = .ok (.ireturn, 1) := by decide +kernel
theorem dX11_region_46 : decode cX11_region 46 = .ok (.iload_n 3, 1) := by decide +kernel
theorem dX11_region_47 : decode cX11_region 47 = .ok (.iconst 0, 1) := by decide +kernel
theorem dX11_region_48 : decode cX11_region 48 = .ok (.aload_n 0, 1) := by decide +kernel
theorem dX11_region_49 : decode cX11_region 49 = .ok (.iload_n 1, 1) := by decide +kernel
theorem dX11_region_50 : decode cX11_region 50 = .ok (.iload_n 2, 1) := by decide +kernel
theorem dX11_region_51 : decode cX11_region 51 = .ok (.invokevirtual 341, 3) := by decide +kernel
theorem dX11_region_54 : decode cX11_region 54 = .ok (.iconst 1, 1) := by decide +kernel
theorem dX11_region_55 : decode cX11_region 55 = .ok (.isub, 1) := by decide +kernel
theorem dX11_region_56 : decode cX11_region 56 = .ok (.invokestatic 106, 3) := by decide +kernel
theorem dX11_region_59 : decode cX11_region 59 = .ok (.ifCond .ne 9, 3) := by decide +kernel
theorem dX11_region_62 : decode cX11_region 62 = .ok (.aload_n 0, 1) := by decide +kernel
theorem dX11_region_63 : decode cX11_region 63 = .ok (.iconst 1, 1) := by decide +kernel
theorem dX11_region_64 : decode cX11_region 64 = .ok (.invokevirtual 147, 3) := by decide +kernel
theorem dX11_region_67 : decode cX11_region 67 = .ok (.ireturn, 1) := by decide +kernel
theorem dX11_region_68 : decode cX11_region 68 = .ok (.iconst (-1), 1) := by decide +kernel
theorem dX11_region_69 : decode cX11_region 69 = .ok (.istore 5, 2) := by decide +kernel
theorem dX11_region_71 : decode cX11_region 71 = .ok (.iconst 0, 1) := by decide +kernel
theorem dX11_region_72 : decode cX11_region 72 = .ok (.istore 6, 2) := by decide +kernel
theorem dX11_region_74 : decode cX11_region 74 = .ok (.sipush 255, 3) := by decide +kernel
theorem dX11_region_77 : decode cX11_region 77 = .ok (.istore 7, 2) := by decide +kernel
theorem dX11_region_79 : decode cX11_region 79 = .ok (.iconst 0, 1) := by decide +kernel
theorem dX11_region_80 : decode cX11_region 80 = .ok (.istore 8, 2) := by decide +kernel
theorem dX11_region_82 : decode cX11_region 82 = .ok (.iconst 0, 1) := by decide +kernel
theorem dX11_region_83 : decode cX11_region 83 = .ok (.istore 9, 2) := by decide +kernel
theorem dX11_region_85 : decode cX11_region 85 = .ok (.iload 9, 2) := by decide +kernel
theorem dX11_region_87 : decode cX11_region 87 = .ok (.sipush 192, 3) := by decide +kernel
theorem dX11_region_90 : decode cX11_region 90 = .ok (.if_icmp .ge 90, 3) := by decide +kernel
theorem dX11_region_93 : decode cX11_region 93 = .ok (.aload_n 0, 1) := by decide +kernel
theorem dX11_region_94 : decode cX11_region 94 = .ok (.getfield 73, 3) := by decide +kernel
theorem dX11_region_97 : decode cX11_region 97 = .ok (.iload 9, 2) := by decide +kernel
theorem dX11_region_99 : decode cX11_region 99 = .ok (.iaload, 1) := by decide +kernel
theorem dX11_region_100 : decode cX11_region 100 = .ok (.iload_n 3, 1) := by decide +kernel
theorem dX11_region_101 : decode cX11_region 101 = .ok (.if_icmp .eq 6, 3) := by decide +kernel
theorem dX11_region_104 : decode cX11_region 104 = .ok (.goto 70, 3) := by decide +kernel
theorem dX11_region_107 : decode cX11_region 107 = .ok (.aload_n 0, 1) := by decide +kernel
theorem dX11_region_108 : decode cX11_region 108 = .ok (.iload_n 1, 1) := by decide +kernel
theorem dX11_region_109 : decode cX11_region 109 = .ok (.iload 9, 2) := by decide +kernel
theorem dX11_region_111 : decode cX11_region 111 = .ok (.bipush 16, 2) := by decide +kernel
theorem dX11_region_113 : decode cX11_region 113 = .ok (.irem, 1) := by decide +kernel
theorem dX11_region_114 : decode cX11_region 114 = .ok (.iload 9, 2) := by decide +kernel
theorem dX11_region_116 : decode cX11_region 116 = .ok (.bipush 16, 2) := by decide +kernel
theorem dX11_region_118 : decode cX11_region 118 = .ok (.idiv, 1) := by decide +kernel
theorem dX11_region_119 : decode cX11_region 119 = .ok (.invokevirtual 182, 3) := by decide +kernel
theorem dX11_region_122 : decode cX11_region 122 = .ok (.istore 10, 2) := by decide +kernel
theorem dX11_region_124 : decode cX11_region 124 = .ok (.iload 5, 2) := by decide +kernel
theorem dX11_region_126 : decode cX11_region 126 = .ok (.iconst (-1), 1) := by decide +kernel
theorem dX11_region_127 : decode cX11_region 127 = .ok (.if_icmp .ne 8, 3) := by decide +kernel
theorem dX11_region_130 : decode cX11_region 130 = .ok (.iload 9, 2) := by decide +kernel
theorem dX11_region_132 : decode cX11_region 132 = .ok (.goto 5, 3) := by decide +kernel
theorem dX11_region_135 : decode cX11_region 135 = .ok (.iload 5, 2) := by decide +kernel
theorem dX11_region_137 : decode cX11_region 137 = .ok (.istore 5, 2) := by decide +kernel
theorem dX11_region_139 : decode cX11_region 139 = .ok (.iinc 6 1, 3) := by decide +kernel
theorem dX11_region_142 : decode cX11_region 142 = .ok (.iload 10, 2) := by decide +kernel
theorem dX11_region_144 : decode cX11_region 144 = .ok (.iload 7, 2) := by decide +kernel
theorem dX11_region_146 : decode cX11_region 146 = .ok (.if_icmp .ge 8, 3) := by decide +kernel
theorem dX11_region_149 : decode cX11_region 149 = .ok (.iload 10, 2) := by decide +kernel
theorem dX11_region_151 : decode cX11_region 151 = .ok (.goto 5, 3) := by decide +kernel
theorem dX11_region_154 : decode cX11_region 154 = .ok (.iload 7, 2) := by decide +kernel
theorem dX11_region_156 : decode cX11_region 156 = .ok (.istore 7, 2) := by decide +kernel
theorem dX11_region_158 : decode cX11_region 158 = .ok (.iload 10, 2) := by decide +kernel
theorem dX11_region_160 : decode cX11_region 160 = .ok (.iload 8, 2) := by decide +kernel
theorem dX11_region_162 : decode cX11_region 162 = .ok (.if_icmp .le 8, 3) := by decide +kernel
theorem dX11_region_165 : decode cX11_region 165 = .ok (.iload 10, 2) := by decide +kernel
theorem dX11_region_167 : decode cX11_region 167 = .ok (.goto 5, 3) := by decide +kernel
theorem dX11_region_170 : decode cX11_region 170 = .ok (.iload 8, 2) := by decide +kernel
theorem dX11_region_172 : decode cX11_region 172 = .ok (.istore 8, 2) := by decide +kernel
theorem dX11_region_174 : decode cX11_region 174 = .ok (.iinc 9 1, 3) := by decide +kernel
theorem dX11_region_177 : decode cX11_region 177 = .ok (.goto (-92), 3) := by decide +kernel
theorem dX11_region_180 : decode cX11_region 180 = .ok (.aload_n 0, 1) := by decide +kernel
theorem dX11_region_181 : decode cX11_region 181 = .ok (.iload 4, 2) := by decide +kernel
theorem dX11_region_183 : decode cX11_region 183 = .ok (.ifCond .ne 11, 3) := by decide +kernel
theorem dX11_region_186 : decode cX11_region 186 = .ok (.iload 5, 2) := by decide +kernel
theorem dX11_region_188 : decode cX11_region 188 = .ok (.bipush 16, 2) := by decide +kernel
theorem dX11_region_190 : decode cX11_region 190 = .ok (.irem, 1) := by decide +kernel
theorem dX11_region_191 : decode cX11_region 191 = .ok (.goto 41, 3) := by decide +kernel
theorem dX11_region_194 : decode cX11_region 194 = .ok (.iload 4, 2) := by decide +kernel
theorem dX11_region_196 : decode cX11_region 196 = .ok (.iconst 1, 1) := by decide +kernel
theorem dX11_region_197 : decode cX11_region 197 = .ok (.if_icmp .ne 11, 3) := by decide +kernel
theorem dX11_region_200 : decode cX11_region 200 = .ok (.iload 5, 2) := by decide +kernel
theorem dX11_region_202 : decode cX11_region 202 = .ok (.bipush 16, 2) := by decide +kernel
theorem dX11_region_204 : decode cX11_region 204 = .ok (.idiv, 1) := by decide +kernel
theorem dX11_region_205 : decode cX11_region 205 = .ok (.goto 27, 3) := by decide +kernel
theorem dX11_region_208 : decode cX11_region 208 = .ok (.iload 4, 2) := by decide +kernel
theorem dX11_region_210 : decode cX11_region 210 = .ok (.iconst 2, 1) := by decide +kernel
theorem dX11_region_211 : decode cX11_region 211 = .ok (.if_icmp .ne 8, 3) := by decide +kernel
theorem dX11_region_214 : decode cX11_region 214 = .ok (.iload 6, 2) := by decide +kernel
theorem dX11_region_216 : decode cX11_region 216 = .ok (.goto 16, 3) := by decide +kernel
theorem dX11_region_219 : decode cX11_region 219 = .ok (.iload 4, 2) := by decide +kernel
theorem dX11_region_221 : decode cX11_region 221 = .ok (.iconst 3, 1) := by decide +kernel
theorem dX11_region_222 : decode cX11_region 222 = .ok (.if_icmp .ne 8, 3) := by decide +kernel
theorem dX11_region_225 : decode cX11_region 225 = .ok (.iload 7, 2) := by decide +kernel
theorem dX11_region_227 : decode cX11_region 227 = .ok (.goto 5, 3) := by decide +kernel
theorem dX11_region_230 : decode cX11_region 230 = .ok (.iload 8, 2) := by decide +kernel
theorem dX11_region_232 : decode cX11_region 232 = .ok (.invokevirtual 157, 3) := by decide +kernel
theorem dX11_region_235 : decode cX11_region 235 = .ok (.ireturn, 1) := by decide +kernel
theorem dX11_regionAt_0 : decode cX11_regionAt 0 = .ok (.aload_n 0, 1) := by decide +kernel
theorem dX11_regionAt_1 : decode cX11_regionAt 1 = .ok (.iconst 0, 1) := by decide +kernel
theorem dX11_regionAt_2 : decode cX11_regionAt 2 = .ok (.putfield 85, 3) := by decide +kernel
theorem dX11_regionAt_5 : decode cX11_regionAt 5 = .ok (.aload_n 0, 1) := by decide +kernel
theorem dX11_regionAt_6 : decode cX11_regionAt 6 = .ok (.iload_n 1, 1) := by decide +kernel
theorem dX11_regionAt_7 : decode cX11_regionAt 7 = .ok (.iload_n 3, 1) := by decide +kernel
theorem dX11_regionAt_8 : decode cX11_regionAt 8 = .ok (.iload 4, 2) := by decide +kernel
theorem dX11_regionAt_10 : decode cX11_regionAt 10 = .ok (.invokevirtual 190, 3) := by decide +kernel
theorem dX11_regionAt_13 : decode cX11_regionAt 13 = .ok (.ifCond .ne 9, 3) := by decide +kernel
theorem dX11_regionAt_16 : decode cX11_regionAt 16 = .ok (.aload_n 0, 1) := by decide +kernel
theorem dX11_regionAt_17 : decode cX11_regionAt 17 = .ok (.iconst 1, 1) := by decide +kernel
theorem dX11_regionAt_18 : decode cX11_regionAt 18 = .ok (.invokevirtual 147, 3) := by decide +kernel
theorem dX11_regionAt_21 : decode cX11_regionAt 21 = .ok (.ireturn, 1) := by decide +kernel
theorem dX11_regionAt_22 : decode cX11_regionAt 22 = .ok (.iload_n 2, 1) := by decide +kernel
theorem dX11_regionAt_23 : decode cX11_regionAt 23 = .ok (.iconst 0, 1) := by decide +kernel
theorem dX11_regionAt_24 : decode cX11_regionAt 24 = .ok (.sipush 255, 3) := by decide +kernel
theorem dX11_regionAt_27 : decode cX11_regionAt 27 = .ok (.invokestatic 106, 3) := by decide +kernel
theorem dX11_regionAt_30 : decode cX11_regionAt 30 = .ok (.ifCond .ne 9, 3) := by decide +kernel
theorem dX11_regionAt_33 : decode cX11_regionAt 33 = .ok (.aload_n 0, 1) := by decide +kernel
theorem dX11_regionAt_34 : decode cX11_regionAt 34 = .ok (.iconst 2, 1) := by decide +kernel
theorem dX11_regionAt_35 : decode cX11_regionAt 35 = .ok (.invokevirtual 147, 3) := by decide +kernel
theorem dX11_regionAt_38 : decode cX11_regionAt 38 = .ok (.ireturn, 1) := by decide +kernel
theorem dX11_regionAt_39 : decode cX11_regionAt 39 = .ok (.aload_n 0, 1) := by decide +kernel
theorem dX11_regionAt_40 : decode cX11_regionAt 40 = .ok (.iload_n 1, 1) := by decide +kernel
theorem dX11_regionAt_41 : decode cX11_regionAt 41 = .ok (.iload_n 2, 1) := by decide +kernel
theorem dX11_regionAt_42 : decode cX11_regionAt 42 = .ok (.invokevirtual 341, 3) := by decide +kernel
theorem dX11_regionAt_45 : decode cX11_regionAt 45 = .ok (.istore 5, 2) := by decide +kernel
theorem dX11_regionAt_47 : decode cX11_regionAt 47 = .ok (.aload_n 0, 1) := by decide +kernel
theorem dX11_regionAt_48 : decode cX11_regionAt 48 = .ok (.iload 5, 2) := by decide +kernel
theorem dX11_regionAt_50 : decode cX11_regionAt 50 = .ok (.ifCond .le 18, 3) := by decide +kernel
theorem dX11_regionAt_53 : decode cX11_regionAt 53 = .ok (.aload_n 0, 1) := by decide +kernel
theorem dX11_regionAt_54 : decode cX11_regionAt 54 = .ok (.getfield 73, 3) := by decide +kernel
theorem dX11_regionAt_57 : decode cX11_regionAt 57 = .ok (.bipush 16, 2) := by decide +kernel
theorem dX11_regionAt_59 : decode cX11_regionAt 59 = .ok (.iload 4, 2) := by decide +kernel
theorem dX11_regionAt_61 : decode cX11_regionAt 61 = .ok (.imul, 1) := by decide +kernel
theorem dX11_regionAt_62 : decode cX11_regionAt 62 = .ok (.iload_n 3, 1) := by decide +kernel
theorem dX11_regionAt_63 : decode cX11_regionAt 63 = .ok (.iadd, 1) := by decide +kernel
theorem dX11_regionAt_64 : decode cX11_regionAt 64 = .ok (.iaload, 1) := by decide +kernel
theorem dX11_regionAt_65 : decode cX11_regionAt 65 = .ok (.goto 4, 3) := by decide +kernel
theorem dX11_regionAt_68 : decode cX11_regionAt 68 = .ok (.iconst (-1), 1) := by decide +kernel
theorem dX11_regionAt_69 : decode cX11_regionAt 69 = .ok (.invokevirtual 157, 3) := by decide +kernel
theorem dX11_regionAt_72 : decode cX11_regionAt 72 = .ok (.ireturn, 1) := by decide +kernel
theorem dX11_steep_0 : decode cX11_steep 0 = .ok (.aload_n 0, 1) := by decide +kernel
theorem dX11_steep_1 : decode cX11_steep 1 = .ok (.iconst 0, 1) := by decide +kernel
theorem dX11_steep_2 : decode cX11_steep 2 = .ok (.putfield 85, 3) := by decide +kernel
theorem dX11_steep_5 : decode cX11_steep 5 = .ok (.aload_n 0, 1) := by decide +kernel
theorem dX11_steep_6 : decode cX11_steep 6 = .ok (.iload_n 1, 1) := by decide +kernel
theorem dX11_steep_7 : decode cX11_steep 7 = .ok (.invokevirtual 173, 3) := by decide +kernel
theorem dX11_steep_10 : decode cX11_steep 10 = .ok (.ifCond .eq 12, 3) := by decide +kernel
theorem dX11_steep_13 : decode cX11_steep 13 = .ok (.iload_n 2, 1) := by decide +kernel
theorem dX11_steep_14 : decode cX11_steep 14 = .ok (.iconst 0, 1) := by decide +kernel
theorem dX11_steep_15 : decode cX11_steep 15 = .ok (.iconst 2, 1) := by decide +kernel
theorem dX11_steep_16 : decode cX11_steep 16 = .ok (.invokestatic 106, 3) := by decide +kernel
theorem dX11_steep_19 : decode cX11_steep 19 = .ok (.ifCond .ne 9, 3) := by decide +kernel
theorem dX11_steep_22 : decode cX11_steep 22 = .ok (.aload_n 0, 1) := by decide +kernel
theorem dX11_steep_23 : decode cX11_steep 23 = .ok (.iconst 1, 1) := by decide +kernel
theorem dX11_steep_24 : decode cX11_steep 24 = .ok (.invokevirtual 147, 3) := by decide +kernel
theorem dX11_steep_27 : decode cX11_steep 27 = .ok (.ireturn, 1) := by decide +kernel
theorem dX11_steep_28 : decode cX11_steep 28 = .ok (.iconst 0, 1) := by decide +kernel
theorem dX11_steep_29 : decode cX11_steep 29 = .ok (.istore_n 3, 1) := by decide +kernel
theorem dX11_steep_30 : decode cX11_steep 30 = .ok (.iconst 0, 1) := by decide +kernel
theorem dX11_steep_31 : decode cX11_steep 31 = .ok (.istore 4, 2) := by decide +kernel
theorem dX11_steep_33 : decode cX11_steep 33 = .ok (.iload 4, 2) := by decide +kernel
theorem dX11_steep_35 : decode cX11_steep 35 = .ok (.aload_n 0, 1) := by decide +kernel
theorem dX11_steep_36 : decode cX11_steep 36 = .ok (.iload_n 1, 1) := by decide +kernel
theorem dX11_steep_37 : decode cX11_steep 37 = .ok (.invokevirtual 176, 3) := by decide +kernel
theorem dX11_steep_40 : decode cX11_steep 40 = .ok (.if_icmp .ge 111, 3) := by decide +kernel
theorem dX11_steep_43 : decode cX11_steep 43 = .ok (.iconst 0, 1) := by decide +kernel
theorem dX11_steep_44 : decode cX11_steep 44 = .ok (.istore 5, 2) := by decide +kernel
theorem dX11_steep_46 : decode cX11_steep 46 = .ok (.iload 5, 2) := by decide +kernel
theorem dX11_steep_48 : decode cX11_steep 48 = .ok (.aload_n 0, 1) := by decide +kernel
theorem dX11_steep_49 : decode cX11_steep 49 = .ok (.iload_n 1, 1) := by decide +kernel
theorem dX11_steep_50 : decode cX11_steep 50 = .ok (.invokevirtual 170, 3) := by decide +kernel
theorem dX11_steep_53 : decode cX11_steep 53 = .ok (.if_icmp .ge 92, 3) := by decide +kernel
theorem dX11_steep_56 : decode cX11_steep 56 = .ok (.iconst 0, 1) := by decide +kernel
theorem dX11_steep_57 : decode cX11_steep 57 = .ok (.istore 6, 2) := by decide +kernel
theorem dX11_steep_59 : decode cX11_steep 59 = .ok (.iload 6, 2) := by decide +kernel
theorem dX11_steep_61 : decode cX11_steep 61 = .ok (.iconst 2, 1) := by decide +kernel
theorem dX11_steep_62 : decode cX11_steep 62 = .ok (.if_icmp .ge 77, 3) := by decide +kernel
theorem dX11_steep_65 : decode cX11_steep 65 = .ok (.aload_n 0, 1) := by decide +kernel
theorem dX11_steep_66 : decode cX11_steep 66 = .ok (.iload_n 1, 1) := by decide +kernel
theorem dX11_steep_67 : decode cX11_steep 67 = .ok (.iload 5, 2) := by decide +kernel
theorem dX11_steep_69 : decode cX11_steep 69 = .ok (.iload 4, 2) := by decide +kernel
theorem dX11_steep_71 : decode cX11_steep 71 = .ok (.iload 6, 2) := by decide +kernel
theorem dX11_steep_73 : decode cX11_steep 73 = .ok (.invokevirtual 344, 3) := by decide +kernel
theorem dX11_steep_76 : decode cX11_steep 76 = .ok (.ifCond .eq 57, 3) := by decide +kernel
theorem dX11_steep_79 : decode cX11_steep 79 = .ok (.iload_n 2, 1) := by decide +kernel
theorem dX11_steep_80 : decode cX11_steep 80 = .ok (.ifCond .le 14, 3) := by decide +kernel
theorem dX11_steep_83 : decode cX11_steep 83 = .ok (.iload_n 2, 1) := by decide +kernel
theorem dX11_steep_84 : decode cX11_steep 84 = .ok (.iload 6, 2) := by decide +kernel
theorem dX11_steep_86 : decode cX11_steep 86 = .ok (.iconst 1, 1) := by decide +kernel
theorem dX11_steep_87 : decode cX11_steep 87 = .ok (.iadd, 1) := by decide +kernel
theorem dX11_steep_88 : decode cX11_steep 88 = .ok (.if_icmp .eq 6, 3) := by decide +kernel
theorem dX11_steep_91 : decode cX11_steep 91 = .ok (.goto 42, 3) := by decide +kernel
theorem dX11_steep_94 : decode cX11_steep 94 = .ok (.aload_n 0, 1) := by decide +kernel
theorem dX11_steep_95 : decode cX11_steep 95 = .ok (.iload_n 1, 1) := by decide +kernel
theorem dX11_steep_96 : decode cX11_steep 96 = .ok (.iload 5, 2) := by decide +kernel
theorem dX11_steep_98 : decode cX11_steep 98 = .ok (.iload 4, 2) := by decide +kernel
theorem dX11_steep_100 : decode cX11_steep 100 = .ok (.invokevirtual 182, 3) := by decide +kernel
theorem dX11_steep_103 : decode cX11_steep 103 = .ok (.aload_n 0, 1) := by decide +kernel
theorem dX11_steep_104 : decode cX11_steep 104 = .ok (.iload_n 1, 1) := by decide +kernel
theorem dX11_steep_105 : decode cX11_steep 105 = .ok (.iload 5, 2) := by decide +kernel
theorem dX11_steep_107 : decode cX11_steep 107 = .ok (.iload 4, 2) := by decide +kernel
theorem dX11_steep_109 : decode cX11_steep 109 = .ok (.iload 6, 2) := by decide +kernel
theorem dX11_steep_111 : decode cX11_steep 111 = .ok (.invokevirtual 347, 3) := by decide +kernel
theorem dX11_steep_114 : decode cX11_steep 114 = .ok (.isub, 1) := by decide +kernel
theorem dX11_steep_115 : decode cX11_steep 115 = .ok (.istore 7, 2) := by decide +kernel
theorem dX11_steep_117 : decode cX11_steep 117 = .ok (.iload_n 3, 1) := by decide +kernel
theorem dX11_steep_118 : decode cX11_steep 118 = .ok (.iload 7, 2) := by decide +kernel
theorem dX11_steep_120 : decode cX11_steep 120 = .ok (.ifCond .ge 9, 3) := by decide +kernel
theorem dX11_steep_123 : decode cX11_steep 123 = .ok (.iload 7, 2) := by decide +kernel
theorem dX11_steep_125 : decode cX11_steep 125 = .ok (.ineg, 1) := by decide +kernel
theorem dX11_steep_126 : decode cX11_steep 126 = .ok (.goto 5, 3) := by decide +kernel
theorem dX11_steep_129 : decode cX11_steep 129 = .ok (.iload 7, 2) := by decide +kernel
theorem dX11_steep_131 : decode cX11_steep 131 = .ok (.iadd, 1) := by decide +kernel
theorem dX11_steep_132 : decode cX11_steep 132 = .ok (.istore_n 3, 1) := by decide +kernel
theorem dX11_steep_133 : decode cX11_steep 133 = .ok (.iinc 6 1, 3) := by decide +kernel
theorem dX11_steep_136 : decode cX11_steep 136 = .ok (.goto (-77), 3) := by decide +kernel
theorem dX11_steep_139 : decode cX11_steep 139 = .ok (.iinc 5 1, 3) := by decide +kernel
theorem dX11_steep_142 : decode cX11_steep 142 = .ok (.goto (-96), 3) := by decide +kernel
theorem dX11_steep_145 : decode cX11_steep 145 = .ok (.iinc 4 1, 3) := by decide +kernel
theorem dX11_steep_148 : decode cX11_steep 148 = .ok (.goto (-115), 3) := by decide +kernel
theorem dX11_steep_151 : decode cX11_steep 151 = .ok (.aload_n 0, 1) := by decide +kernel
theorem dX11_steep_152 : decode cX11_steep 152 = .ok (.iload_n 3, 1) := by decide +kernel
theorem dX11_steep_153 : decode cX11_steep 153 = .ok (.invokevirtual 157, 3) := by decide +kernel
theorem dX11_steep_156 : decode cX11_steep 156 = .ok (.ireturn, 1) := by decide +kernel
theorem dX11_line_0 : decode cX11_line 0 = .ok (.aload_n 0, 1) := by decide +kernel
theorem dX11_line_1 : decode cX11_line 1 = .ok (.iconst 0, 1) := by decide +kernel
theorem dX11_line_2 : decode cX11_line 2 = .ok (.putfield 85, 3) := by decide +kernel
theorem dX11_line_5 : decode cX11_line 5 = .ok (.aload_n 0, 1) := by decide +kernel
theorem dX11_line_6 : decode cX11_line 6 = .ok (.iload_n 1, 1) := by decide +kernel
theorem dX11_line_7 : decode cX11_line 7 = .ok (.invokevirtual 173, 3) := by decide +kernel
theorem dX11_line_10 : decode cX11_line 10 = .ok (.ifCond .eq 39, 3) := by decide +kernel
theorem dX11_line_13 : decode cX11_line 13 = .ok (.iload_n 2, 1) := by decide +kernel
theorem dX11_line_14 : decode cX11_line 14 = .ok (.iconst 0, 1) := by decide +kernel
theorem dX11_line_15 : decode cX11_line 15 = .ok (.iconst 1, 1) := by decide +kernel
theorem dX11_line_16 : decode cX11_line 16 = .ok (.invokestatic 106, 3) := by decide +kernel
theorem dX11_line_19 : decode cX11_line 19 = .ok (.ifCond .eq 30, 3) := by decide +kernel
theorem dX11_line_22 : decode cX11_line 22 = .ok (.iload_n 3, 1) := by decide +kernel
theorem dX11_line_23 : decode cX11_line 23 = .ok (.iconst 0, 1) := by decide +kernel
theorem dX11_line_24 : decode cX11_line 24 = .ok (.iload_n 2, 1) := by decide +kernel
theorem dX11_line_25 : decode cX11_line 25 = .ok (.ifCond .ne 11, 3) := by decide +kernel
theorem dX11_line_28 : decode cX11_line 28 = .ok (.aload_n 0, 1) := by decide +kernel
theorem dX11_line_29 : decode cX11_line 29 = .ok (.iload_n 1, 1) := by decide +kernel
theorem dX11_line_30 : decode cX11_line 30 = .ok (.invokevirtual 176, 3) := by decide +kernel
theorem dX11_line_33 : decode cX11_line 33 = .ok (.goto 8, 3) := by decide +kernel
theorem dX11_line_36 : decode cX11_line 36 = .ok (.aload_n 0, 1) := by decide +kernel
theorem dX11_line_37 : decode cX11_line 37 = .ok (.iload_n 1, 1) := by decide +kernel
theorem dX11_line_38 : decode cX11_line 38 = .ok (.invokevirtual 170, 3) := by decide +kernel
theorem dX11_line_41 : decode cX11_line 41 = .ok (.iconst 1, 1) := by decide +kernel
theorem dX11_line_42 : decode cX11_line 42 = .ok (.isub, 1) := by decide +kernel
theorem dX11_line_43 : decode cX11_line 43 = .ok (.invokestatic 106, 3) := by decide +kernel
theorem dX11_line_46 : decode cX11_line 46 = .ok (.ifCond .ne 9, 3) := by decide +kernel
theorem dX11_line_49 : decode cX11_line 49 = .ok (.aload_n 0, 1) := by decide +kernel
theorem dX11_line_50 : decode cX11_line 50 = .ok (.iconst 1, 1) := by decide +kernel
theorem dX11_line_51 : decode cX11_line 51 = .ok (.invokevirtual 147, 3) := by decide +kernel
theorem dX11_line_54 : decode cX11_line 54 = .ok (.ireturn, 1) := by decide +kernel
theorem dX11_line_55 : decode cX11_line 55 = .ok (.iconst 0, 1) := by decide +kernel
theorem dX11_line_56 : decode cX11_line 56 = .ok (.istore 4, 2) := by decide +kernel
theorem dX11_line_58 : decode cX11_line 58 = .ok (.iconst 0, 1) := by decide +kernel
theorem dX11_line_59 : decode cX11_line 59 = .ok (.istore 5, 2) := by decide +kernel
theorem dX11_line_61 : decode cX11_line 61 = .ok (.iload 5, 2) := by decide +kernel
theorem dX11_line_63 : decode cX11_line 63 = .ok (.iload_n 2, 1) := by decide +kernel
theorem dX11_line_64 : decode cX11_line 64 = .ok (.ifCond .ne 11, 3) := by decide +kernel
theorem dX11_line_67 : decode cX11_line 67 = .ok (.aload_n 0, 1) := by decide +kernel
theorem dX11_line_68 : decode cX11_line 68 = .ok (.iload_n 1, 1) := by decide +kernel
theorem dX11_line_69 : decode cX11_line 69 = .ok (.invokevirtual 170, 3) := by decide +kernel
theorem dX11_line_72 : decode cX11_line 72 = .ok (.goto 8, 3) := by decide +kernel
theorem dX11_line_75 : decode cX11_line 75 = .ok (.aload_n 0, 1) := by decide +kernel
theorem dX11_line_76 : decode cX11_line 76 = .ok (.iload_n 1, 1) := by decide +kernel
theorem dX11_line_77 : decode cX11_line 77 = .ok (.invokevirtual 176, 3) := by decide +kernel
theorem dX11_line_80 : decode cX11_line 80 = .ok (.if_icmp .ge 37, 3) := by decide +kernel
theorem dX11_line_83 : decode cX11_line 83 = .ok (.iload 4, 2) := by decide +kernel
theorem dX11_line_85 : decode cX11_line 85 = .ok (.iload_n 2, 1) := by decide +kernel
theorem dX11_line_86 : decode cX11_line 86 = .ok (.ifCond .ne 14, 3) := by decide +kernel
theorem dX11_line_89 : decode cX11_line 89 = .ok (.aload_n 0, 1) := by decide +kernel
theorem dX11_line_90 : decode cX11_line 90 = .ok (.iload_n 1, 1) := by decide +kernel
theorem dX11_line_91 : decode cX11_line 91 = .ok (.iload 5, 2) := by decide +kernel
theorem dX11_line_93 : decode cX11_line 93 = .ok (.iload_n 3, 1) := by decide +kernel
theorem dX11_line_94 : decode cX11_line 94 = .ok (.invokevirtual 182, 3) := by decide +kernel
theorem dX11_line_97 : decode cX11_line 97 = .ok (.goto 11, 3) := by decide +kernel
theorem dX11_line_100 : decode cX11_line 100 = .ok (.aload_n 0, 1) := by decide +kernel
theorem dX11_line_101 : decode cX11_line 101 = .ok (.iload_n 1, 1) := by decide +kernel
theorem dX11_line_102 : decode cX11_line 102 = .ok (.iload_n 3, 1) := by decide +kernel
theorem dX11_line_103 : decode cX11_line 103 = .ok (.iload 5, 2) := by decide +kernel
theorem dX11_line_105 : decode cX11_line 105 = .ok (.invokevirtual 182, 3) := by decide +kernel
theorem dX11_line_108 : decode cX11_line 108 = .ok (.iadd, 1) := by decide +kernel
theorem dX11_line_109 : decode cX11_line 109 = .ok (.istore 4, 2) := by decide +kernel
theorem dX11_line_111 : decode cX11_line 111 = .ok (.iinc 5 1, 3) := by decide +kernel
theorem dX11_line_114 : decode cX11_line 114 = .ok (.goto (-53), 3) := by decide +kernel
theorem dX11_line_117 : decode cX11_line 117 = .ok (.aload_n 0, 1) := by decide +kernel
theorem dX11_line_118 : decode cX11_line 118 = .ok (.iload 4, 2) := by decide +kernel
theorem dX11_line_120 : decode cX11_line 120 = .ok (.invokevirtual 157, 3) := by decide +kernel
theorem dX11_line_123 : decode cX11_line 123 = .ok (.ireturn, 1) := by decide +kernel
theorem dX11_nth_0 : decode cX11_nth 0 = .ok (.aload_n 0, 1) := by decide +kernel
theorem dX11_nth_1 : decode cX11_nth 1 = .ok (.iconst 0, 1) := by decide +kernel
theorem dX11_nth_2 : decode cX11_nth 2 = .ok (.putfield 85, 3) := by decide +kernel
theorem dX11_nth_5 : decode cX11_nth 5 = .ok (.aload_n 0, 1) := by decide +kernel
theorem dX11_nth_6 : decode cX11_nth 6 = .ok (.getfield 166, 3) := by decide +kernel
theorem dX11_nth_9 : decode cX11_nth 9 = .ok (.ifCond .eq 16, 3) := by decide +kernel
theorem dX11_nth_12 : decode cX11_nth 12 = .ok (.iload_n 2, 1) := by decide +kernel
theorem dX11_nth_13 : decode cX11_nth 13 = .ok (.iconst 0, 1) := by decide +kernel
theorem dX11_nth_14 : decode cX11_nth 14 = .ok (.iconst 2, 1) := by decide +kernel
theorem dX11_nth_15 : decode cX11_nth 15 = .ok (.invokestatic 106, 3) := by decide +kernel
theorem dX11_nth_18 : decode cX11_nth 18 = .ok (.ifCond .eq 7, 3) := by decide +kernel
theorem dX11_nth_21 : decode cX11_nth 21 = .ok (.iload_n 1, 1) := by decide +kernel
theorem dX11_nth_22 : decode cX11_nth 22 = .ok (.ifCond .ge 9, 3) := by decide +kernel
theorem dX11_nth_25 : decode cX11_nth 25 = .ok (.aload_n 0, 1) := by decide +kernel
theorem dX11_nth_26 : decode cX11_nth 26 = .ok (.iconst 1, 1) := by decide +kernel
theorem dX11_nth_27 : decode cX11_nth 27 = .ok (.invokevirtual 147, 3) := by decide +kernel
theorem dX11_nth_30 : decode cX11_nth 30 = .ok (.ireturn, 1) := by decide +kernel
theorem dX11_nth_31 : decode cX11_nth 31 = .ok (.iload_n 1, 1) := by decide +kernel
theorem dX11_nth_32 : decode cX11_nth 32 = .ok (.istore_n 3, 1) := by decide +kernel
theorem dX11_nth_33 : decode cX11_nth 33 = .ok (.iconst 0, 1) := by decide +kernel
theorem dX11_nth_34 : decode cX11_nth 34 = .ok (.istore 4, 2) := by decide +kernel
theorem dX11_nth_36 : decode cX11_nth 36 = .ok (.iload 4, 2) := by decide +kernel
theorem dX11_nth_38 : decode cX11_nth 38 = .ok (.sipush 17043, 3) := by decide +kernel
theorem dX11_nth_41 : decode cX11_nth 41 = .ok (.if_icmp .ge 44, 3) := by decide +kernel
theorem dX11_nth_44 : decode cX11_nth 44 = .ok (.aload_n 0, 1) := by decide +kernel
theorem dX11_nth_45 : decode cX11_nth 45 = .ok (.getfield 45, 3) := by decide +kernel
theorem dX11_nth_48 : decode cX11_nth 48 = .ok (.iload 4, 2) := by decide +kernel
theorem dX11_nth_50 : decode cX11_nth 50 = .ok (.laload, 1) := by decide +kernel
theorem dX11_nth_51 : decode cX11_nth 51 = .ok (.lconst 0, 1) := by decide +kernel
theorem dX11_nth_52 : decode cX11_nth 52 = .ok (.lcmp, 1) := by decide +kernel
theorem dX11_nth_53 : decode cX11_nth 53 = .ok (.ifCond .ne 6, 3) := by decide +kernel
theorem dX11_nth_56 : decode cX11_nth 56 = .ok (.goto 23, 3) := by decide +kernel
theorem dX11_nth_59 : decode cX11_nth 59 = .ok (.iload_n 3, 1) := by decide +kernel
theorem dX11_nth_60 : decode cX11_nth 60 = .ok (.ifCond .ne 16, 3) := by decide +kernel
theorem dX11_nth_63 : decode cX11_nth 63 = .ok (.aload_n 0, 1) := by decide +kernel
theorem dX11_nth_64 : decode cX11_nth 64 = .ok (.iload 4, 2) := by decide +kernel
theorem dX11_nth_66 : decode cX11_nth 66 = .ok (.iload_n 2, 1) := by decide +kernel
theorem dX11_nth_67 : decode cX11_nth 67 = .ok (.invokestatic 244, 3) := by decide +kernel
theorem dX11_nth_70 : decode cX11_nth 70 = .ok (.iconst 3, 1) := by decide +kernel
theorem dX11_nth_71 : decode cX11_nth 71 = .ok (.isub, 1) := by decide +kernel
theorem dX11_nth_72 : decode cX11_nth 72 = .ok (.invokevirtual 157, 3) := by decide +kernel
theorem dX11_nth_75 : decode cX11_nth 75 = .ok (.ireturn, 1) := by decide +kernel
theorem dX11_nth_76 : decode cX11_nth 76 = .ok (.iinc 3 (-1), 3) := by decide +kernel
theorem dX11_nth_79 : decode cX11_nth 79 = .ok (.iinc 4 1, 3) := by decide +kernel
theorem dX11_nth_82 : decode cX11_nth 82 = .ok (.goto (-46), 3) := by decide +kernel
theorem dX11_nth_85 : decode cX11_nth 85 = .ok (.aload_n 0, 1) := by decide +kernel
theorem dX11_nth_86 : decode cX11_nth 86 = .ok (.sipush (-1000), 3) := by decide +kernel
theorem dX11_nth_89 : decode cX11_nth 89 = .ok (.invokevirtual 157, 3) := by decide +kernel
theorem dX11_nth_92 : decode cX11_nth 92 = .ok (.ireturn, 1) := by decide +kernel
theorem dX11_write_0 : decode cX11_write 0 = .ok (.aload_n 0, 1) := by decide +kernel
theorem dX11_write_1 : decode cX11_write 1 = .ok (.iconst 0, 1) := by decide +kernel
theorem dX11_write_2 : decode cX11_write 2 = .ok (.putfield 85, 3) := by decide +kernel
theorem dX11_write_5 : decode cX11_write 5 = .ok (.aload_n 0, 1) := by decide +kernel
theorem dX11_write_6 : decode cX11_write 6 = .ok (.iload_n 1, 1) := by decide +kernel
theorem dX11_write_7 : decode cX11_write 7 = .ok (.invokevirtual 173, 3) := by decide +kernel
theorem dX11_write_10 : decode cX11_write 10 = .ok (.ifCond .ne 9, 3) := by decide +kernel
theorem dX11_write_13 : decode cX11_write 13 = .ok (.aload_n 0, 1) := by decide +kernel
theorem dX11_write_14 : decode cX11_write 14 = .ok (.iconst 1, 1) := by decide +kernel
theorem dX11_write_15 : decode cX11_write 15 = .ok (.invokevirtual 147, 3) := by decide +kernel
theorem dX11_write_18 : decode cX11_write 18 = .ok (.ireturn, 1) := by decide +kernel
theorem dX11_write_19 : decode cX11_write 19 = .ok (.aload_n 0, 1) := by decide +kernel
theorem dX11_write_20 : decode cX11_write 20 = .ok (.iconst 0, 1) := by decide +kernel
theorem dX11_write_21 : decode cX11_write 21 = .ok (.putfield 350, 3) := by decide +kernel
theorem dX11_write_24 : decode cX11_write 24 = .ok (.iconst 0, 1) := by decide +kernel
theorem dX11_write_25 : decode cX11_write 25 = .ok (.istore_n 2, 1) := by decide +kernel
theorem dX11_write_26 : decode cX11_write 26 = .ok (.iload_n 2, 1) := by decide +kernel
theorem dX11_write_27 : decode cX11_write 27 = .ok (.aload_n 0, 1) := by decide +kernel
theorem dX11_write_28 : decode cX11_write 28 = .ok (.iload_n 1, 1) := by decide +kernel
theorem dX11_write_29 : decode cX11_write 29 = .ok (.invokevirtual 176, 3) := by decide +kernel
theorem dX11_write_32 : decode cX11_write 32 = .ok (.if_icmp .ge 87, 3) := by decide +kernel
theorem dX11_write_35 : decode cX11_write 35 = .ok (.iload_n 2, 1) := by decide +kernel
theorem dX11_write_36 : decode cX11_write 36 = .ok (.ifCond .le 24, 3) := by decide +kernel
theorem dX11_write_39 : decode cX11_write 39 = .ok (.aload_n 0, 1) := by decide +kernel
theorem dX11_write_40 : decode cX11_write 40 = .ok (.getfield 79, 3) := by decide +kernel
theorem dX11_write_43 : decode cX11_write 43 = .ok (.aload_n 0, 1) := by decide +kernel
theorem dX11_write_44 : decode cX11_write 44 = .ok (.getfield 350, 3) := by decide +kernel
theorem dX11_write_47 : decode cX11_write 47 = .ok (.bipush 47, 2) := by decide +kernel
theorem dX11_write_49 : decode cX11_write 49 = .ok (.iastore, 1) := by decide +kernel
theorem dX11_write_50 : decode cX11_write 50 = .ok (.aload_n 0, 1) := by decide +kernel
theorem dX11_write_51 : decode cX11_write 51 = .ok (.dup, 1) := by decide +kernel
theorem dX11_write_52 : decode cX11_write 52 = .ok (.getfield 350, 3) := by decide +kernel
theorem dX11_write_55 : decode cX11_write 55 = .ok (.iconst 1, 1) := by decide +kernel
theorem dX11_write_56 : decode cX11_write 56 = .ok (.iadd, 1) := by decide +kernel
theorem dX11_write_57 : decode cX11_write 57 = .ok (.putfield 350, 3) := by decide +kernel
theorem dX11_write_60 : decode cX11_write 60 = .ok (.iconst 0, 1) := by decide +kernel
theorem dX11_write_61 : decode cX11_write 61 = .ok (.istore_n 3, 1) := by decide +kernel
theorem dX11_write_62 : decode cX11_write 62 = .ok (.iload_n 3, 1) := by decide +kernel
theorem dX11_write_63 : decode cX11_write 63 = .ok (.aload_n 0, 1) := by decide +kernel
theorem dX11_write_64 : decode cX11_write 64 = .ok (.iload_n 1, 1) := by decide +kernel
theorem dX11_write_65 : decode cX11_write 65 = .ok (.invokevirtual 170, 3) := by decide +kernel
theorem dX11_write_68 : decode cX11_write 68 = .ok (.if_icmp .ge 45, 3) := by decide +kernel
theorem dX11_write_71 : decode cX11_write 71 = .ok (.aload_n 0, 1) := by decide +kernel
theorem dX11_write_72 : decode cX11_write 72 = .ok (.getfield 79, 3) := by decide +kernel
theorem dX11_write_75 : decode cX11_write 75 = .ok (.aload_n 0, 1) := by decide +kernel
theorem dX11_write_76 : decode cX11_write 76 = .ok (.getfield 350, 3) := by decide +kernel
theorem dX11_write_79 : decode cX11_write 79 = .ok (.bipush 97, 2) := by decide +kernel
theorem dX11_write_81 : decode cX11_write 81 = .ok (.aload_n 0, 1) := by decide +kernel
theorem dX11_write_82 : decode cX11_write 82 = .ok (.iload_n 1, 1) := by decide +kernel
theorem dX11_write_83 : decode cX11_write 83 = .ok (.iload_n 3, 1) := by decide +kernel
theorem dX11_write_84 : decode cX11_write 84 = .ok (.iload_n 2, 1) := by decide +kernel
theorem dX11_write_85 : decode cX11_write 85 = .ok (.invokevirtual 182, 3) := by decide +kernel
theorem dX11_write_88 : decode cX11_write 88 = .ok (.i2l, 1) := by decide +kernel
theorem dX11_write_89 : decode cX11_write 89 = .ok (.ldc2_w 353, 3) := by decide +kernel
theorem dX11_write_92 : decode cX11_write 92 = .ok (.invokestatic 295, 3) := by decide +kernel
theorem dX11_write_95 : decode cX11_write 95 = .ok (.iadd, 1) := by decide +kernel
theorem dX11_write_96 : decode cX11_write 96 = .ok (.iastore, 1) := by decide +kernel
theorem dX11_write_97 : decode cX11_write 97 = .ok (.aload_n 0, 1) := by decide +kernel
theorem dX11_write_98 : decode cX11_write 98 = .ok (.dup, 1) := by decide +kernel
theorem dX11_write_99 : decode cX11_write 99 = .ok (.getfield 350, 3) := by decide +kernel
theorem dX11_write_102 : decode cX11_write 102 = .ok (.iconst 1, 1) := by decide +kernel
theorem dX11_write_103 : decode cX11_write 103 = .ok (.iadd, 1) := by decide +kernel
theorem dX11_write_104 : decode cX11_write 104 = .ok (.putfield 350, 3) := by decide +kernel
theorem dX11_write_107 : decode cX11_write 107 = .ok (.iinc 3 1, 3) := by decide +kernel
theorem dX11_write_110 : decode cX11_write 110 = .ok (.goto (-48), 3) := by decide +kernel
theorem dX11_write_113 : decode cX11_write 113 = .ok (.iinc 2 1, 3) := by decide +kernel
theorem dX11_write_116 : decode cX11_write 116 = .ok (.goto (-90), 3) := by decide +kernel
theorem dX11_write_119 : decode cX11_write 119 = .ok (.aload_n 0, 1) := by decide +kernel
theorem dX11_write_120 : decode cX11_write 120 = .ok (.aload_n 0, 1) := by decide +kernel
theorem dX11_write_121 : decode cX11_write 121 = .ok (.getfield 350, 3) := by decide +kernel
theorem dX11_write_124 : decode cX11_write 124 = .ok (.invokevirtual 157, 3) := by decide +kernel
theorem dX11_write_127 : decode cX11_write 127 = .ok (.ireturn, 1) := by decide +kernel
theorem dX11_octet_0 : decode cX11_octet 0 = .ok (.aload_n 0, 1) := by decide +kernel
theorem dX11_octet_1 : decode cX11_octet 1 = .ok (.iconst 0, 1) := by decide +kernel
theorem dX11_octet_2 : decode cX11_octet 2 = .ok (.putfield 85, 3) := by decide +kernel
theorem dX11_octet_5 : decode cX11_octet 5 = .ok (.iload_n 1, 1) := by decide +kernel
theorem dX11_octet_6 : decode cX11_octet 6 = .ok (.iconst 0, 1) := by decide +kernel
theorem dX11_octet_7 : decode cX11_octet 7 = .ok (.aload_n 0, 1) := by decide +kernel
theorem dX11_octet_8 : decode cX11_octet 8 = .ok (.getfield 350, 3) := by decide +kernel
theorem dX11_octet_11 : decode cX11_octet 11 = .ok (.iconst 1, 1) := by decide +kernel
theorem dX11_octet_12 : decode cX11_octet 12 = .ok (.isub, 1) := by decide +kernel
theorem dX11_octet_13 : decode cX11_octet 13 = .ok (.invokestatic 106, 3) := by decide +kernel
theorem dX11_octet_16 : decode cX11_octet 16 = .ok (.ifCond .eq 12, 3) := by decide +kernel
theorem dX11_octet_19 : decode cX11_octet 19 = .ok (.aload_n 0, 1) := by decide +kernel
theorem dX11_octet_20 : decode cX11_octet 20 = .ok (.getfield 79, 3) := by decide +kernel
theorem dX11_octet_23 : decode cX11_octet 23 = .ok (.iload_n 1, 1) := by decide +kernel
theorem dX11_octet_24 : decode cX11_octet 24 = .ok (.iaload, 1) := by decide +kernel
theorem dX11_octet_25 : decode cX11_octet 25 = .ok (.goto 4, 3) := by decide +kernel
theorem dX11_octet_28 : decode cX11_octet 28 = .ok (.iconst (-1), 1) := by decide +kernel
theorem dX11_octet_29 : decode cX11_octet 29 = .ok (.ireturn, 1) := by decide +kernel
theorem dX11_hasNeighbour_0 : decode cX11_hasNeighbour 0 = .ok (.iload 4, 2) := by decide +kernel
theorem dX11_hasNeighbour_2 : decode cX11_hasNeighbour 2 = .ok (.ifCond .ne 22, 3) := by decide +kernel
theorem dX11_hasNeighbour_5 : decode cX11_hasNeighbour 5 = .ok (.iload_n 2, 1) := by decide +kernel
theorem dX11_hasNeighbour_6 : decode cX11_hasNeighbour 6 = .ok (.iconst 1, 1) := by decide +kernel
theorem dX11_hasNeighbour_7 : decode cX11_hasNeighbour 7 = .ok (.iadd, 1) := by decide +kernel
theorem dX11_hasNeighbour_8 : decode cX11_hasNeighbour 8 = .ok (.aload_n 0, 1) := by decide +kernel
theorem dX11_hasNeighbour_9 : decode cX11_hasNeighbour 9 = .ok (.iload_n 1, 1) := by decide +kernel
theorem dX11_hasNeighbour_10 : decode cX11_hasNeighbour 10 = .ok (.invokevirtual 170, 3) := by decide +kernel
theorem dX11_hasNeighbour_13 : decode cX11_hasNeighbour 13 = .ok (.if_icmp .ge 7, 3) := by decide +kernel
theorem dX11_hasNeighbour_16 : decode cX11_hasNeighbour 16 = .ok (.iconst 1, 1) := by decide +kernel
theorem dX11_hasNeighbour_17 : decode cX11_hasNeighbour 17 = .ok (.goto 23, 3) := by decide +kernel
theorem dX11_hasNeighbour_20 : decode cX11_hasNeighbour 20 = .ok (.iconst 0, 1) := by decide +kernel
theorem dX11_hasNeighbour_21 : decode cX11_hasNeighbour 21 = .ok (.goto 19, 3) := by decide +kernel
theorem dX11_hasNeighbour_24 : decode cX11_hasNeighbour 24 = .ok (.iload_n 3, 1) := by decide +kernel
theorem dX11_hasNeighbour_25 : decode cX11_hasNeighbour 25 = .ok (.iconst 1, 1) := by decide +kernel
theorem dX11_hasNeighbour_26 : decode cX11_hasNeighbour 26 = .ok (.iadd, 1) := by decide +kernel
theorem dX11_hasNeighbour_27 : decode cX11_hasNeighbour 27 = .ok (.aload_n 0, 1) := by decide +kernel
theorem dX11_hasNeighbour_28 : decode cX11_hasNeighbour 28 = .ok (.iload_n 1, 1) := by decide +kernel
theorem dX11_hasNeighbour_29 : decode cX11_hasNeighbour 29 = .ok (.invokevirtual 176, 3) := by decide +kernel
theorem dX11_hasNeighbour_32 : decode cX11_hasNeighbour 32 = .ok (.if_icmp .ge 7, 3) := by decide +kernel
theorem dX11_hasNeighbour_35 : decode cX11_hasNeighbour 35 = .ok (.iconst 1, 1) := by decide +kernel
theorem dX11_hasNeighbour_36 : decode cX11_hasNeighbour 36 = .ok (.goto 4, 3) := by decide +kernel
theorem dX11_hasNeighbour_39 : decode cX11_hasNeighbour 39 = .ok (.iconst 0, 1) := by decide +kernel
theorem dX11_hasNeighbour_40 : decode cX11_hasNeighbour 40 = .ok (.ireturn, 1) := by decide +kernel
theorem dX11_other_0 : decode cX11_other 0 = .ok (.iload 4, 2) := by decide +kernel
theorem dX11_other_2 : decode cX11_other 2 = .ok (.ifCond .ne 15, 3) := by decide +kernel
theorem dX11_other_5 : decode cX11_other 5 = .ok (.aload_n 0, 1) := by decide +kernel
theorem dX11_other_6 : decode cX11_other 6 = .ok (.iload_n 1, 1) := by decide +kernel
theorem dX11_other_7 : decode cX11_other 7 = .ok (.iload_n 2, 1) := by decide +kernel
theorem dX11_other_8 : decode cX11_other 8 = .ok (.iconst 1, 1) := by decide +kernel
theorem dX11_other_9 : decode cX11_other 9 = .ok (.iadd, 1) := by decide +kernel
theorem dX11_other_10 : decode cX11_other 10 = .ok (.iload_n 3, 1) := by decide +kernel
theorem dX11_other_11 : decode cX11_other 11 = .ok (.invokevirtual 182, 3) := by decide +kernel
theorem dX11_other_14 : decode cX11_other 14 = .ok (.goto 12, 3) := by decide +kernel
theorem dX11_other_17 : decode cX11_other 17 = .ok (.aload_n 0, 1) := by decide +kernel
theorem dX11_other_18 : decode cX11_other 18 = .ok (.iload_n 1, 1) := by decide +kernel
theorem dX11_other_19 : decode cX11_other 19 = .ok (.iload_n 2, 1) := by decide +kernel
theorem dX11_other_20 : decode cX11_other 20 = .ok (.iload_n 3, 1) := by decide +kernel
theorem dX11_other_21 : decode cX11_other 21 = .ok (.iconst 1, 1) := by decide +kernel
theorem dX11_other_22 : decode cX11_other 22 = .ok (.iadd, 1) := by decide +kernel
theorem dX11_other_23 : decode cX11_other 23 = .ok (.invokevirtual 182, 3) := by decide +kernel
theorem dX11_other_26 : decode cX11_other 26 = .ok (.ireturn, 1) := by decide +kernel
theorem dX11_isEdge_0 : decode cX11_isEdge 0 = .ok (.aload_n 0, 1) := by decide +kernel
theorem dX11_isEdge_1 : decode cX11_isEdge 1 = .ok (.iload_n 1, 1) := by decide +kernel
theorem dX11_isEdge_2 : decode cX11_isEdge 2 = .ok (.iload_n 2, 1) := by decide +kernel
theorem dX11_isEdge_3 : decode cX11_isEdge 3 = .ok (.iload_n 3, 1) := by decide +kernel
theorem dX11_isEdge_4 : decode cX11_isEdge 4 = .ok (.iload 4, 2) := by decide +kernel
theorem dX11_isEdge_6 : decode cX11_isEdge 6 = .ok (.invokevirtual 344, 3) := by decide +kernel
theorem dX11_isEdge_9 : decode cX11_isEdge 9 = .ok (.ifCond .ne 5, 3) := by decide +kernel
theorem dX11_isEdge_12 : decode cX11_isEdge 12 = .ok (.iconst 0, 1) := by decide +kernel
theorem dX11_isEdge_13 : decode cX11_isEdge 13 = .ok (.ireturn, 1) := by decide +kernel
theorem dX11_isEdge_14 : decode cX11_isEdge 14 = .ok (.aload_n 0, 1) := by decide +kernel
theorem dX11_isEdge_15 : decode cX11_isEdge 15 = .ok (.iload_n 1, 1) := by decide +kernel
theorem dX11_isEdge_16 : decode cX11_isEdge 16 = .ok (.iload_n 2, 1) := by decide +kernel
theorem dX11_isEdge_17 : decode cX11_isEdge 17 = .ok (.iload_n 3, 1) := by decide +kernel
theorem dX11_isEdge_18 : decode cX11_isEdge 18 = .ok (.invokevirtual 182, 3) := by decide +kernel
theorem dX11_isEdge_21 : decode cX11_isEdge 21 = .ok (.aload_n 0, 1) := by decide +kernel
theorem dX11_isEdge_22 : decode cX11_isEdge 22 = .ok (.iload_n 1, 1) := by decide +kernel
theorem dX11_isEdge_23 : decode cX11_isEdge 23 = .ok (.iload_n 2, 1) := by decide +kernel
theorem dX11_isEdge_24 : decode cX11_isEdge 24 = .ok (.iload_n 3, 1) := by decide +kernel
theorem dX11_isEdge_25 : decode cX11_isEdge 25 = .ok (.iload 4, 2) := by decide +kernel
theorem dX11_isEdge_27 : decode cX11_isEdge 27 = .ok (.invokevirtual 347, 3) := by decide +kernel
theorem dX11_isEdge_30 : decode cX11_isEdge 30 = .ok (.isub, 1) := by decide +kernel
theorem dX11_isEdge_31 : decode cX11_isEdge 31 = .ok (.istore 6, 2) := by decide +kernel
theorem dX11_isEdge_33 : decode cX11_isEdge 33 = .ok (.iload 6, 2) := by decide +kernel
theorem dX11_isEdge_35 : decode cX11_isEdge 35 = .ok (.iload 5, 2) := by decide +kernel
theorem dX11_isEdge_37 : decode cX11_isEdge 37 = .ok (.if_icmp .ge 11, 3) := by decide +kernel
theorem dX11_isEdge_40 : decode cX11_isEdge 40 = .ok (.iload 6, 2) := by decide +kernel
theorem dX11_isEdge_42 : decode cX11_isEdge 42 = .ok (.ineg, 1) := by decide +kernel
theorem dX11_isEdge_43 : decode cX11_isEdge 43 = .ok (.iload 5, 2) := by decide +kernel
theorem dX11_isEdge_45 : decode cX11_isEdge 45 = .ok (.if_icmp .lt 7, 3) := by decide +kernel
theorem dX11_isEdge_48 : decode cX11_isEdge 48 = .ok (.iconst 1, 1) := by decide +kernel
theorem dX11_isEdge_49 : decode cX11_isEdge 49 = .ok (.goto 4, 3) := by decide +kernel
theorem dX11_isEdge_52 : decode cX11_isEdge 52 = .ok (.iconst 0, 1) := by decide +kernel
theorem dX11_isEdge_53 : decode cX11_isEdge 53 = .ok (.ireturn, 1) := by decide +kernel
theorem dX11_edgesOf_0 : decode cX11_edgesOf 0 = .ok (.iconst 0, 1) := by decide +kernel
theorem dX11_edgesOf_1 : decode cX11_edgesOf 1 = .ok (.istore 4, 2) := by decide +kernel
theorem dX11_edgesOf_3 : decode cX11_edgesOf 3 = .ok (.iconst 0, 1) := by decide +kernel
theorem dX11_edgesOf_4 : decode cX11_edgesOf 4 = .ok (.istore 5, 2) := by decide +kernel
theorem dX11_edgesOf_6 : decode cX11_edgesOf 6 = .ok (.iload 5, 2) := by decide +kernel
theorem dX11_edgesOf_8 : decode cX11_edgesOf 8 = .ok (.aload_n 0, 1) := by decide +kernel
theorem dX11_edgesOf_9 : decode cX11_edgesOf 9 = .ok (.iload_n 1, 1) := by decide +kernel
theorem dX11_edgesOf_10 : decode cX11_edgesOf 10 = .ok (.invokevirtual 176, 3) := by decide +kernel
theorem dX11_edgesOf_13 : decode cX11_edgesOf 13 = .ok (.if_icmp .ge 88, 3) := by decide +kernel
theorem dX11_edgesOf_16 : decode cX11_edgesOf 16 = .ok (.iconst 0, 1) := by decide +kernel
theorem dX11_edgesOf_17 : decode cX11_edgesOf 17 = .ok (.istore 6, 2) := by decide +kernel
theorem dX11_edgesOf_19 : decode cX11_edgesOf 19 = .ok (.iload 6, 2) := by decide +kernel
theorem dX11_edgesOf_21 : decode cX11_edgesOf 21 = .ok (.aload_n 0, 1) := by decide +kernel
theorem dX11_edgesOf_22 : decode cX11_edgesOf 22 = .ok (.iload_n 1, 1) := by decide +kernel
theorem dX11_edgesOf_23 : decode cX11_edgesOf 23 = .ok (.invokevirtual 170, 3) := by decide +kernel
theorem dX11_edgesOf_26 : decode cX11_edgesOf 26 = .ok (.if_icmp .ge 69, 3) := by decide +kernel
theorem dX11_edgesOf_29 : decode cX11_edgesOf 29 = .ok (.iconst 0, 1) := by decide +kernel
theorem dX11_edgesOf_30 : decode cX11_edgesOf 30 = .ok (.istore 7, 2) := by decide +kernel
theorem dX11_edgesOf_32 : decode cX11_edgesOf 32 = .ok (.iload 7, 2) := by decide +kernel
theorem dX11_edgesOf_34 : decode cX11_edgesOf 34 = .ok (.iconst 2, 1) := by decide +kernel
theorem dX11_edgesOf_35 : decode cX11_edgesOf 35 = .ok (.if_icmp .ge 54, 3) := by decide +kernel
theorem dX11_edgesOf_38 : decode cX11_edgesOf 38 = .ok (.iload 4, 2) := by decide +kernel
theorem dX11_edgesOf_40 : decode cX11_edgesOf 40 = .ok (.aload_n 0, 1) := by decide +kernel
theorem dX11_edgesOf_41 : decode cX11_edgesOf 41 = .ok (.iload_n 1, 1) := by decide +kernel
theorem dX11_edgesOf_42 : decode cX11_edgesOf 42 = .ok (.iload 6, 2) := by decide +kernel
theorem dX11_edgesOf_44 : decode cX11_edgesOf 44 = .ok (.iload 5, 2) := by decide +kernel
theorem dX11_edgesOf_46 : decode cX11_edgesOf 46 = .ok (.iload 7, 2) := by decide +kernel
theorem dX11_edgesOf_48 : decode cX11_edgesOf 48 = .ok (.iload_n 3, 1) := by decide +kernel
theorem dX11_edgesOf_49 : decode cX11_edgesOf 49 = .ok (.invokevirtual 355, 3) := by decide +kernel
theorem dX11_edgesOf_52 : decode cX11_edgesOf 52 = .ok (.ifCond .eq 27, 3) := by decide +kernel
theorem dX11_edgesOf_55 : decode cX11_edgesOf 55 = .ok (.iload_n 2, 1) := by decide +kernel
theorem dX11_edgesOf_56 : decode cX11_edgesOf 56 = .ok (.iconst (-1), 1) := by decide +kernel
theorem dX11_edgesOf_57 : decode cX11_edgesOf 57 = .ok (.if_icmp .eq 18, 3) := by decide +kernel
theorem dX11_edgesOf_60 : decode cX11_edgesOf 60 = .ok (.aload_n 0, 1) := by decide +kernel
theorem dX11_edgesOf_61 : decode cX11_edgesOf 61 = .ok (.iload_n 2, 1) := by decide +kernel
theorem dX11_edgesOf_62 : decode cX11_edgesOf 62 = .ok (.iload 6, 2) := by decide +kernel
theorem dX11_edgesOf_64 : decode cX11_edgesOf 64 = .ok (.iload 5, 2) := by decide +kernel
theorem dX11_edgesOf_66 : decode cX11_edgesOf 66 = .ok (.iload 7, 2) := by decide +kernel
theorem dX11_edgesOf_68 : decode cX11_edgesOf 68 = .ok (.iload_n 3, 1) := by decide +kernel
theorem dX11_edgesOf_69 : decode cX11_edgesOf 69 = .ok (.invokevirtual 355, 3) := by decide +kernel
theorem dX11_edgesOf_72 : decode cX11_edgesOf 72 = .ok (.ifCond .eq 7, 3) := by decide +kernel
theorem dX11_edgesOf_75 : decode cX11_edgesOf 75 = .ok (.iconst 1, 1) := by decide +kernel
theorem dX11_edgesOf_76 : decode cX11_edgesOf 76 = .ok (.goto 4, 3) := by decide +kernel
theorem dX11_edgesOf_79 : decode cX11_edgesOf 79 = .ok (.iconst 0, 1) := by decide +kernel
theorem dX11_edgesOf_80 : decode cX11_edgesOf 80 = .ok (.iadd, 1) := by decide +kernel
theorem dX11_edgesOf_81 : decode cX11_edgesOf 81 = .ok (.istore 4, 2) := by decide +kernel
theorem dX11_edgesOf_83 : decode cX11_edgesOf 83 = .ok (.iinc 7 1, 3) := by decide +kernel
theorem dX11_edgesOf_86 : decode cX11_edgesOf 86 = .ok (.goto (-54), 3) := by decide +kernel
theorem dX11_edgesOf_89 : decode cX11_edgesOf 89 = .ok (.iinc 6 1, 3) := by decide +kernel
theorem dX11_edgesOf_92 : decode cX11_edgesOf 92 = .ok (.goto (-73), 3) := by decide +kernel
theorem dX11_edgesOf_95 : decode cX11_edgesOf 95 = .ok (.iinc 5 1, 3) := by decide +kernel
theorem dX11_edgesOf_98 : decode cX11_edgesOf 98 = .ok (.goto (-92), 3) := by decide +kernel
theorem dX11_edgesOf_101 : decode cX11_edgesOf 101 = .ok (.iload 4, 2) := by decide +kernel
theorem dX11_edgesOf_103 : decode cX11_edgesOf 103 = .ok (.ireturn, 1) := by decide +kernel
theorem dX11_edges_0 : decode cX11_edges 0 = .ok (.aload_n 0, 1) := by decide +kernel
theorem dX11_edges_1 : decode cX11_edges 1 = .ok (.iconst 0, 1) := by decide +kernel
theorem dX11_edges_2 : decode cX11_edges 2 = .ok (.putfield 85, 3) := by decide +kernel
theorem dX11_edges_5 : decode cX11_edges 5 = .ok (.aload_n 0, 1) := by decide +kernel
theorem dX11_edges_6 : decode cX11_edges 6 = .ok (.iload_n 1, 1) := by decide +kernel
theorem dX11_edges_7 : decode cX11_edges 7 = .ok (.invokevirtual 173, 3) := by decide +kernel
theorem dX11_edges_10 : decode cX11_edges 10 = .ok (.ifCond .ne 9, 3) := by decide +kernel
theorem dX11_edges_13 : decode cX11_edges 13 = .ok (.aload_n 0, 1) := by decide +kernel
theorem dX11_edges_14 : decode cX11_edges 14 = .ok (.iconst 1, 1) := by decide +kernel
theorem dX11_edges_15 : decode cX11_edges 15 = .ok (.invokevirtual 147, 3) := by decide +kernel
theorem dX11_edges_18 : decode cX11_edges 18 = .ok (.ireturn, 1) := by decide +kernel
theorem dX11_edges_19 : decode cX11_edges 19 = .ok (.iload_n 2, 1) := by decide +kernel
theorem dX11_edges_20 : decode cX11_edges 20 = .ok (.iconst 0, 1) := by decide +kernel
theorem dX11_edges_21 : decode cX11_edges 21 = .ok (.sipush 255, 3) := by decide +kernel
theorem dX11_edges_24 : decode cX11_edges 24 = .ok (.invokestatic 106, 3) := by decide +kernel
theorem dX11_edges_27 : decode cX11_edges 27 = .ok (.ifCond .eq 17, 3) := by decide +kernel
theorem dX11_edges_30 : decode cX11_edges 30 = .ok (.aload_n 0, 1) := by decide +kernel
theorem dX11_edges_31 : decode cX11_edges 31 = .ok (.aload_n 0, 1) := by decide +kernel
theorem dX11_edges_32 : decode cX11_edges 32 = .ok (.iload_n 1, 1) := by decide +kernel
theorem dX11_edges_33 : decode cX11_edges 33 = .ok (.iconst (-1), 1) := by decide +kernel
theorem dX11_edges_34 : decode cX11_edges 34 = .ok (.iload_n 2, 1) := by decide +kernel
theorem dX11_edges_35 : decode cX11_edges 35 = .ok (.invokevirtual 359, 3) := by decide +kernel
theorem dX11_edges_38 : decode cX11_edges 38 = .ok (.invokevirtual 157, 3) := by decide +kernel
theorem dX11_edges_41 : decode cX11_edges 41 = .ok (.goto 8, 3) := by decide +kernel
theorem dX11_edges_44 : decode cX11_edges 44 = .ok (.aload_n 0, 1) := by decide +kernel
theorem dX11_edges_45 : decode cX11_edges 45 = .ok (.iconst 2, 1) := by decide +kernel
theorem dX11_edges_46 : decode cX11_edges 46 = .ok (.invokevirtual 147, 3) := by decide +kernel
theorem dX11_edges_49 : decode cX11_edges 49 = .ok (.ireturn, 1) := by decide +kernel
theorem dX11_kept_0 : decode cX11_kept 0 = .ok (.aload_n 0, 1) := by decide +kernel
theorem dX11_kept_1 : decode cX11_kept 1 = .ok (.iconst 0, 1) := by decide +kernel
theorem dX11_kept_2 : decode cX11_kept 2 = .ok (.putfield 85, 3) := by decide +kernel
theorem dX11_kept_5 : decode cX11_kept 5 = .ok (.aload_n 0, 1) := by decide +kernel
theorem dX11_kept_6 : decode cX11_kept 6 = .ok (.iload_n 1, 1) := by decide +kernel
theorem dX11_kept_7 : decode cX11_kept 7 = .ok (.iload_n 2, 1) := by decide +kernel
theorem dX11_kept_8 : decode cX11_kept 8 = .ok (.iload_n 3, 1) := by decide +kernel
theorem dX11_kept_9 : decode cX11_kept 9 = .ok (.iload 4, 2) := by decide +kernel
theorem dX11_kept_11 : decode cX11_kept 11 = .ok (.iload 5, 2) := by decide +kernel
theorem dX11_kept_13 : decode cX11_kept 13 = .ok (.invokevirtual 299, 3) := by decide +kernel
theorem dX11_kept_16 : decode cX11_kept 16 = .ok (.istore 7, 2) := by decide +kernel
theorem dX11_kept_18 : decode cX11_kept 18 = .ok (.iload 7, 2) := by decide +kernel
theorem dX11_kept_20 : decode cX11_kept 20 = .ok (.iconst 1, 1) := by decide +kernel
theorem dX11_kept_21 : decode cX11_kept 21 = .ok (.if_icmp .ne 9, 3) := by decide +kernel
theorem dX11_kept_24 : decode cX11_kept 24 = .ok (.aload_n 0, 1) := by decide +kernel
theorem dX11_kept_25 : decode cX11_kept 25 = .ok (.iconst 1, 1) := by decide +kernel
theorem dX11_kept_26 : decode cX11_kept 26 = .ok (.invokevirtual 147, 3) := by decide +kernel
theorem dX11_kept_29 : decode cX11_kept 29 = .ok (.ireturn, 1) := by decide +kernel
theorem dX11_kept_30 : decode cX11_kept 30 = .ok (.iload 7, 2) := by decide +kernel
theorem dX11_kept_32 : decode cX11_kept 32 = .ok (.iconst 2, 1) := by decide +kernel
theorem dX11_kept_33 : decode cX11_kept 33 = .ok (.if_icmp .eq 15, 3) := by decide +kernel
theorem dX11_kept_36 : decode cX11_kept 36 = .ok (.iload 6, 2) := by decide +kernel
theorem dX11_kept_38 : decode cX11_kept 38 = .ok (.iconst 0, 1) := by decide +kernel
theorem dX11_kept_39 : decode cX11_kept 39 = .ok (.sipush 255, 3) := by decide +kernel
theorem dX11_kept_42 : decode cX11_kept 42 = .ok (.invokestatic 106, 3) := by decide +kernel
theorem dX11_kept_45 : decode cX11_kept 45 = .ok (.ifCond .ne 9, 3) := by decide +kernel
theorem dX11_kept_48 : decode cX11_kept 48 = .ok (.aload_n 0, 1) := by decide +kernel
theorem dX11_kept_49 : decode cX11_kept 49 = .ok (.iconst 2, 1) := by decide +kernel
theorem dX11_kept_50 : decode cX11_kept 50 = .ok (.invokevirtual 147, 3) := by decide +kernel
theorem dX11_kept_53 : decode cX11_kept 53 = .ok (.ireturn, 1) := by decide +kernel
theorem dX11_kept_54 : decode cX11_kept 54 = .ok (.iload 7, 2) := by decide +kernel
theorem dX11_kept_56 : decode cX11_kept 56 = .ok (.ifCond .le 10, 3) := by decide +kernel
theorem dX11_kept_59 : decode cX11_kept 59 = .ok (.aload_n 0, 1) := by decide +kernel
theorem dX11_kept_60 : decode cX11_kept 60 = .ok (.iload 7, 2) := by decide +kernel
theorem dX11_kept_62 : decode cX11_kept 62 = .ok (.invokevirtual 147, 3) := by decide +kernel
theorem dX11_kept_65 : decode cX11_kept 65 = .ok (.ireturn, 1) := by decide +kernel
theorem dX11_kept_66 : decode cX11_kept 66 = .ok (.aload_n 0, 1) := by decide +kernel
theorem dX11_kept_67 : decode cX11_kept 67 = .ok (.iload_n 1, 1) := by decide +kernel
theorem dX11_kept_68 : decode cX11_kept 68 = .ok (.iload_n 2, 1) := by decide +kernel
theorem dX11_kept_69 : decode cX11_kept 69 = .ok (.iload_n 3, 1) := by decide +kernel
theorem dX11_kept_70 : decode cX11_kept 70 = .ok (.iload 4, 2) := by decide +kernel
theorem dX11_kept_72 : decode cX11_kept 72 = .ok (.iload 5, 2) := by decide +kernel
theorem dX11_kept_74 : decode cX11_kept 74 = .ok (.invokevirtual 303, 3) := by decide +kernel
theorem dX11_kept_77 : decode cX11_kept 77 = .ok (.aload_n 0, 1) := by decide +kernel
theorem dX11_kept_78 : decode cX11_kept 78 = .ok (.aload_n 0, 1) := by decide +kernel
theorem dX11_kept_79 : decode cX11_kept 79 = .ok (.iload_n 1, 1) := by decide +kernel
theorem dX11_kept_80 : decode cX11_kept 80 = .ok (.bipush 6, 2) := by decide +kernel
theorem dX11_kept_82 : decode cX11_kept 82 = .ok (.iload 6, 2) := by decide +kernel
theorem dX11_kept_84 : decode cX11_kept 84 = .ok (.invokevirtual 359, 3) := by decide +kernel
theorem dX11_kept_87 : decode cX11_kept 87 = .ok (.invokevirtual 157, 3) := by decide +kernel
theorem dX11_kept_90 : decode cX11_kept 90 = .ok (.ireturn, 1) := by decide +kernel
theorem dX11_flat_0 : decode cX11_flat 0 = .ok (.aload_n 0, 1) := by decide +kernel
theorem dX11_flat_1 : decode cX11_flat 1 = .ok (.iconst 0, 1) := by decide +kernel
theorem dX11_flat_2 : decode cX11_flat 2 = .ok (.putfield 85, 3) := by decide +kernel
theorem dX11_flat_5 : decode cX11_flat 5 = .ok (.aload_n 0, 1) := by decide +kernel
theorem dX11_flat_6 : decode cX11_flat 6 = .ok (.iload_n 1, 1) := by decide +kernel
theorem dX11_flat_7 : decode cX11_flat 7 = .ok (.invokevirtual 173, 3) := by decide +kernel
theorem dX11_flat_10 : decode cX11_flat 10 = .ok (.ifCond .ne 9, 3) := by decide +kernel
theorem dX11_flat_13 : decode cX11_flat 13 = .ok (.aload_n 0, 1) := by decide +kernel
theorem dX11_flat_14 : decode cX11_flat 14 = .ok (.iconst 1, 1) := by decide +kernel
theorem dX11_flat_15 : decode cX11_flat 15 = .ok (.invokevirtual 147, 3) := by decide +kernel
theorem dX11_flat_18 : decode cX11_flat 18 = .ok (.ireturn, 1) := by decide +kernel
theorem dX11_flat_19 : decode cX11_flat 19 = .ok (.iload_n 2, 1) := by decide +kernel
theorem dX11_flat_20 : decode cX11_flat 20 = .ok (.iload_n 3, 1) := by decide +kernel
theorem dX11_flat_21 : decode cX11_flat 21 = .ok (.invokestatic 263, 3) := by decide +kernel
theorem dX11_flat_24 : decode cX11_flat 24 = .ok (.ifCond .eq 15, 3) := by decide +kernel
theorem dX11_flat_27 : decode cX11_flat 27 = .ok (.iload 4, 2) := by decide +kernel
theorem dX11_flat_29 : decode cX11_flat 29 = .ok (.iconst 1, 1) := by decide +kernel
theorem dX11_flat_30 : decode cX11_flat 30 = .ok (.sipush 255, 3) := by decide +kernel
theorem dX11_flat_33 : decode cX11_flat 33 = .ok (.invokestatic 106, 3) := by decide +kernel
theorem dX11_flat_36 : decode cX11_flat 36 = .ok (.ifCond .ne 9, 3) := by decide +kernel
theorem dX11_flat_39 : decode cX11_flat 39 = .ok (.aload_n 0, 1) := by decide +kernel
theorem dX11_flat_40 : decode cX11_flat 40 = .ok (.iconst 2, 1) := by decide +kernel
theorem dX11_flat_41 : decode cX11_flat 41 = .ok (.invokevirtual 147, 3) := by decide +kernel
theorem dX11_flat_44 : decode cX11_flat 44 = .ok (.ireturn, 1) := by decide +kernel
theorem dX11_flat_45 : decode cX11_flat 45 = .ok (.iconst 0, 1) := by decide +kernel
theorem dX11_flat_46 : decode cX11_flat 46 = .ok (.istore 5, 2) := by decide +kernel
theorem dX11_flat_48 : decode cX11_flat 48 = .ok (.iload 5, 2) := by decide +kernel
theorem dX11_flat_50 : decode cX11_flat 50 = .ok (.iconst 3, 1) := by decide +kernel
theorem dX11_flat_51 : decode cX11_flat 51 = .ok (.if_icmp .gt 38, 3) := by decide +kernel
theorem dX11_flat_54 : decode cX11_flat 54 = .ok (.aload_n 0, 1) := by decide +kernel
theorem dX11_flat_55 : decode cX11_flat 55 = .ok (.iload_n 1, 1) := by decide +kernel
theorem dX11_flat_56 : decode cX11_flat 56 = .ok (.iload_n 1, 1) := by decide +kernel
theorem dX11_flat_57 : decode cX11_flat 57 = .ok (.iload_n 2, 1) := by decide +kernel
theorem dX11_flat_58 : decode cX11_flat 58 = .ok (.iload_n 3, 1) := by decide +kernel
theorem dX11_flat_59 : decode cX11_flat 59 = .ok (.iload 5, 2) := by decide +kernel
theorem dX11_flat_61 : decode cX11_flat 61 = .ok (.invokevirtual 303, 3) := by decide +kernel
theorem dX11_flat_64 : decode cX11_flat 64 = .ok (.aload_n 0, 1) := by decide +kernel
theorem dX11_flat_65 : decode cX11_flat 65 = .ok (.bipush 6, 2) := by decide +kernel
theorem dX11_flat_67 : decode cX11_flat 67 = .ok (.iconst (-1), 1) := by decide +kernel
theorem dX11_flat_68 : decode cX11_flat 68 = .ok (.iload 4, 2) := by decide +kernel
theorem dX11_flat_70 : decode cX11_flat 70 = .ok (.invokevirtual 359, 3) := by decide +kernel
theorem dX11_flat_73 : decode cX11_flat 73 = .ok (.ifCond .ne 10, 3) := by decide +kernel
theorem dX11_flat_76 : decode cX11_flat 76 = .ok (.aload_n 0, 1) := by decide +kernel
theorem dX11_flat_77 : decode cX11_flat 77 = .ok (.iload 5, 2) := by decide +kernel
theorem dX11_flat_79 : decode cX11_flat 79 = .ok (.invokevirtual 157, 3) := by decide +kernel
theorem dX11_flat_82 : decode cX11_flat 82 = .ok (.ireturn, 1) := by decide +kernel
theorem dX11_flat_83 : decode cX11_flat 83 = .ok (.iinc 5 1, 3) := by decide +kernel
theorem dX11_flat_86 : decode cX11_flat 86 = .ok (.goto (-38), 3) := by decide +kernel
theorem dX11_flat_89 : decode cX11_flat 89 = .ok (.aload_n 0, 1) := by decide +kernel
theorem dX11_flat_90 : decode cX11_flat 90 = .ok (.bipush (-2), 2) := by decide +kernel
theorem dX11_flat_92 : decode cX11_flat 92 = .ok (.invokevirtual 157, 3) := by decide +kernel
theorem dX11_flat_95 : decode cX11_flat 95 = .ok (.ireturn, 1) := by decide +kernel
theorem dX11_apart_0 : decode cX11_apart 0 = .ok (.aload_n 0, 1) := by decide +kernel
theorem dX11_apart_1 : decode cX11_apart 1 = .ok (.iconst 0, 1) := by decide +kernel
theorem dX11_apart_2 : decode cX11_apart 2 = .ok (.putfield 85, 3) := by decide +kernel
theorem dX11_apart_5 : decode cX11_apart 5 = .ok (.aload_n 0, 1) := by decide +kernel
theorem dX11_apart_6 : decode cX11_apart 6 = .ok (.iload_n 1, 1) := by decide +kernel
theorem dX11_apart_7 : decode cX11_apart 7 = .ok (.invokevirtual 173, 3) := by decide +kernel
theorem dX11_apart_10 : decode cX11_apart 10 = .ok (.ifCond .eq 20, 3) := by decide +kernel
theorem dX11_apart_13 : decode cX11_apart 13 = .ok (.aload_n 0, 1) := by decide +kernel
theorem dX11_apart_14 : decode cX11_apart 14 = .ok (.iload_n 2, 1) := by decide +kernel
theorem dX11_apart_15 : decode cX11_apart 15 = .ok (.invokevirtual 173, 3) := by decide +kernel
theorem dX11_apart_18 : decode cX11_apart 18 = .ok (.ifCond .eq 12, 3) := by decide +kernel
theorem dX11_apart_21 : decode cX11_apart 21 = .ok (.iload_n 3, 1) := by decide +kernel
theorem dX11_apart_22 : decode cX11_apart 22 = .ok (.iconst 0, 1) := by decide +kernel
theorem dX11_apart_23 : decode cX11_apart 23 = .ok (.iconst 2, 1) := by decide +kernel
theorem dX11_apart_24 : decode cX11_apart 24 = .ok (.invokestatic 106, 3) := by decide +kernel
theorem dX11_apart_27 : decode cX11_apart 27 = .ok (.ifCond .ne 9, 3) := by decide +kernel
theorem dX11_apart_30 : decode cX11_apart 30 = .ok (.aload_n 0, 1) := by decide +kernel
theorem dX11_apart_31 : decode cX11_apart 31 = .ok (.iconst 1, 1) := by decide +kernel
theorem dX11_apart_32 : decode cX11_apart 32 = .ok (.invokevirtual 147, 3) := by decide +kernel
theorem dX11_apart_35 : decode cX11_apart 35 = .ok (.ireturn, 1) := by decide +kernel
theorem dX11_apart_36 : decode cX11_apart 36 = .ok (.aload_n 0, 1) := by decide +kernel
theorem dX11_apart_37 : decode cX11_apart 37 = .ok (.iload_n 1, 1) := by decide +kernel
theorem dX11_apart_38 : decode cX11_apart 38 = .ok (.iload_n 2, 1) := by decide +kernel
theorem dX11_apart_39 : decode cX11_apart 39 = .ok (.invokevirtual 267, 3) := by decide +kernel
theorem dX11_apart_42 : decode cX11_apart 42 = .ok (.ifCond .ne 9, 3) := by decide +kernel
theorem dX11_apart_45 : decode cX11_apart 45 = .ok (.aload_n 0, 1) := by decide +kernel
theorem dX11_apart_46 : decode cX11_apart 46 = .ok (.iconst 5, 1) := by decide +kernel
theorem dX11_apart_47 : decode cX11_apart 47 = .ok (.invokevirtual 147, 3) := by decide +kernel
theorem dX11_apart_50 : decode cX11_apart 50 = .ok (.ireturn, 1) := by decide +kernel
theorem dX11_apart_51 : decode cX11_apart 51 = .ok (.iconst 0, 1) := by decide +kernel
theorem dX11_apart_52 : decode cX11_apart 52 = .ok (.istore 4, 2) := by decide +kernel
theorem dX11_apart_54 : decode cX11_apart 54 = .ok (.iconst 0, 1) := by decide +kernel
theorem dX11_apart_55 : decode cX11_apart 55 = .ok (.istore 5, 2) := by decide +kernel
theorem dX11_apart_57 : decode cX11_apart 57 = .ok (.iconst 0, 1) := by decide +kernel
theorem dX11_apart_58 : decode cX11_apart 58 = .ok (.istore 6, 2) := by decide +kernel
theorem dX11_apart_60 : decode cX11_apart 60 = .ok (.iconst 0, 1) := by decide +kernel
theorem dX11_apart_61 : decode cX11_apart 61 = .ok (.istore 7, 2) := by decide +kernel
theorem dX11_apart_63 : decode cX11_apart 63 = .ok (.iload 7, 2) := by decide +kernel
theorem dX11_apart_65 : decode cX11_apart 65 = .ok (.aload_n 0, 1) := by decide +kernel
theorem dX11_apart_66 : decode cX11_apart 66 = .ok (.iload_n 1, 1) := by decide +kernel
theorem dX11_apart_67 : decode cX11_apart 67 = .ok (.invokevirtual 176, 3) := by decide +kernel
theorem dX11_apart_70 : decode cX11_apart 70 = .ok (.if_icmp .ge 102, 3) := by decide +kernel
theorem dX11_apart_73 : decode cX11_apart 73 = .ok (.iconst 0, 1) := by decide +kernel
theorem dX11_apart_74 : decode cX11_apart 74 = .ok (.istore 8, 2) := by decide +kernel
theorem dX11_apart_76 : decode cX11_apart 76 = .ok (.iload 8, 2) := by decide +kernel
theorem dX11_apart_78 : decode cX11_apart 78 = .ok (.aload_n 0, 1) := by decide +kernel
theorem dX11_apart_79 : decode cX11_apart 79 = .ok (.iload_n 1, 1) := by decide +kernel
theorem dX11_apart_80 : decode cX11_apart 80 = .ok (.invokevirtual 170, 3) := by decide +kernel
theorem dX11_apart_83 : decode cX11_apart 83 = .ok (.if_icmp .ge 83, 3) := by decide +kernel
theorem dX11_apart_86 : decode cX11_apart 86 = .ok (.aload_n 0, 1) := by decide +kernel
theorem dX11_apart_87 : decode cX11_apart 87 = .ok (.iload_n 1, 1) := by decide +kernel
theorem dX11_apart_88 : decode cX11_apart 88 = .ok (.iload 8, 2) := by decide +kernel
theorem dX11_apart_90 : decode cX11_apart 90 = .ok (.iload 7, 2) := by decide +kernel
theorem dX11_apart_92 : decode cX11_apart 92 = .ok (.invokevirtual 182, 3) := by decide +kernel
theorem dX11_apart_95 : decode cX11_apart 95 = .ok (.aload_n 0, 1) := by decide +kernel
theorem dX11_apart_96 : decode cX11_apart 96 = .ok (.iload_n 2, 1) := by decide +kernel
theorem dX11_apart_97 : decode cX11_apart 97 = .ok (.iload 8, 2) := by decide +kernel
theorem dX11_apart_99 : decode cX11_apart 99 = .ok (.iload 7, 2) := by decide +kernel
theorem dX11_apart_101 : decode cX11_apart 101 = .ok (.invokevirtual 182, 3) := by decide +kernel
theorem dX11_apart_104 : decode cX11_apart 104 = .ok (.isub, 1) := by decide +kernel
theorem dX11_apart_105 : decode cX11_apart 105 = .ok (.istore 9, 2) := by decide +kernel
theorem dX11_apart_107 : decode cX11_apart 107 = .ok (.iload 9, 2) := by decide +kernel
theorem dX11_apart_109 : decode cX11_apart 109 = .ok (.ifCond .ge 9, 3) := by decide +kernel
theorem dX11_apart_112 : decode cX11_apart 112 = .ok (.iload 9, 2) := by decide +kernel
theorem dX11_apart_114 : decode cX11_apart 114 = .ok (.ineg, 1) := by decide +kernel
theorem dX11_apart_115 : decode cX11_apart 115 = .ok (.goto 5, 3) := by decide +kernel
theorem dX11_apart_118 : decode cX11_apart 118 = .ok (.iload 9, 2) := by decide +kernel
theorem dX11_apart_120 : decode cX11_apart 120 = .ok (.istore 9, 2) := by decide +kernel
theorem dX11_apart_122 : decode cX11_apart 122 = .ok (.iload 4, 2) := by decide +kernel
theorem dX11_apart_124 : decode cX11_apart 124 = .ok (.iload 9, 2) := by decide +kernel
theorem dX11_apart_126 : decode cX11_apart 126 = .ok (.ifCond .le 7, 3) := by decide +kernel
theorem dX11_apart_129 : decode cX11_apart 129 = .ok (.iconst 1, 1) := by decide +kernel
theorem dX11_apart_130 : decode cX11_apart 130 = .ok (.goto 4, 3) := by decide +kernel
theorem dX11_apart_133 : decode cX11_apart 133 = .ok (.iconst 0, 1) := by decide +kernel
theorem dX11_apart_134 : decode cX11_apart 134 = .ok (.iadd, 1) := by decide +kernel
theorem dX11_apart_135 : decode cX11_apart 135 = .ok (.istore 4, 2) := by decide +kernel
theorem dX11_apart_137 : decode cX11_apart 137 = .ok (.iload 5, 2) := by decide +kernel
theorem dX11_apart_139 : decode cX11_apart 139 = .ok (.iload 9, 2) := by decide +kernel
theorem dX11_apart_141 : decode cX11_apart 141 = .ok (.iadd, 1) := by decide +kernel
theorem dX11_apart_142 : decode cX11_apart 142 = .ok (.istore 5, 2) := by decide +kernel
theorem dX11_apart_144 : decode cX11_apart 144 = .ok (.iload 9, 2) := by decide +kernel
theorem dX11_apart_146 : decode cX11_apart 146 = .ok (.iload 6, 2) := by decide +kernel
theorem dX11_apart_148 : decode cX11_apart 148 = .ok (.if_icmp .le 8, 3) := by decide +kernel
theorem dX11_apart_151 : decode cX11_apart 151 = .ok (.iload 9, 2) := by decide +kernel
theorem dX11_apart_153 : decode cX11_apart 153 = .ok (.goto 5, 3) := by decide +kernel
theorem dX11_apart_156 : decode cX11_apart 156 = .ok (.iload 6, 2) := by decide +kernel
theorem dX11_apart_158 : decode cX11_apart 158 = .ok (.istore 6, 2) := by decide +kernel
theorem dX11_apart_160 : decode cX11_apart 160 = .ok (.iinc 8 1, 3) := by decide +kernel
theorem dX11_apart_163 : decode cX11_apart 163 = .ok (.goto (-87), 3) := by decide +kernel
theorem dX11_apart_166 : decode cX11_apart 166 = .ok (.iinc 7 1, 3) := by decide +kernel
theorem dX11_apart_169 : decode cX11_apart 169 = .ok (.goto (-106), 3) := by decide +kernel
theorem dX11_apart_172 : decode cX11_apart 172 = .ok (.aload_n 0, 1) := by decide +kernel
theorem dX11_apart_173 : decode cX11_apart 173 = .ok (.iload_n 3, 1) := by decide +kernel
theorem dX11_apart_174 : decode cX11_apart 174 = .ok (.ifCond .ne 8, 3) := by decide +kernel
theorem dX11_apart_177 : decode cX11_apart 177 = .ok (.iload 4, 2) := by decide +kernel
theorem dX11_apart_179 : decode cX11_apart 179 = .ok (.goto 15, 3) := by decide +kernel
theorem dX11_apart_182 : decode cX11_apart 182 = .ok (.iload_n 3, 1) := by decide +kernel
theorem dX11_apart_183 : decode cX11_apart 183 = .ok (.iconst 1, 1) := by decide +kernel
theorem dX11_apart_184 : decode cX11_apart 184 = .ok (.if_icmp .ne 8, 3) := by decide +kernel
theorem dX11_apart_187 : decode cX11_apart 187 = .ok (.iload 5, 2) := by decide +kernel
theorem dX11_apart_189 : decode cX11_apart 189 = .ok (.goto 5, 3) := by decide +kernel
theorem dX11_apart_192 : decode cX11_apart 192 = .ok (.iload 6, 2) := by decide +kernel
theorem dX11_apart_194 : decode cX11_apart 194 = .ok (.invokevirtual 157, 3) := by decide +kernel
theorem dX11_apart_197 : decode cX11_apart 197 = .ok (.ireturn, 1) := by decide +kernel
theorem dX11_laysPairs_0 : decode cX11_laysPairs 0 = .ok (.aload_n 0, 1) := by decide +kernel
theorem dX11_laysPairs_1 : decode cX11_laysPairs 1 = .ok (.iconst 0, 1) := by decide +kernel
theorem dX11_laysPairs_2 : decode cX11_laysPairs 2 = .ok (.putfield 362, 3) := by decide +kernel
theorem dX11_laysPairs_5 : decode cX11_laysPairs 5 = .ok (.iconst 0, 1) := by decide +kernel
theorem dX11_laysPairs_6 : decode cX11_laysPairs 6 = .ok (.istore_n 2, 1) := by decide +kernel
theorem dX11_laysPairs_7 : decode cX11_laysPairs 7 = .ok (.iload_n 2, 1) := by decide +kernel
theorem dX11_laysPairs_8 : decode cX11_laysPairs 8 = .ok (.aload_n 0, 1) := by decide +kernel
theorem dX11_laysPairs_9 : decode cX11_laysPairs 9 = .ok (.iload_n 1, 1) := by decide +kernel
theorem dX11_laysPairs_10 : decode cX11_laysPairs 10 = .ok (.invokevirtual 176, 3) := by decide +kernel
theorem dX11_laysPairs_13 : decode cX11_laysPairs 13 = .ok (.if_icmp .ge 73, 3) := by decide +kernel
theorem dX11_laysPairs_16 : decode cX11_laysPairs 16 = .ok (.iconst 0, 1) := by decide +kernel
theorem dX11_laysPairs_17 : decode cX11_laysPairs 17 = .ok (.istore_n 3, 1) := by decide +kernel
theorem dX11_laysPairs_18 : decode cX11_laysPairs 18 = .ok (.iload_n 3, 1) := by decide +kernel
theorem dX11_laysPairs_19 : decode cX11_laysPairs 19 = .ok (.aload_n 0, 1) := by decide +kernel
theorem dX11_laysPairs_20 : decode cX11_laysPairs 20 = .ok (.iload_n 1, 1) := by decide +kernel
theorem dX11_laysPairs_21 : decode cX11_laysPairs 21 = .ok (.invokevirtual 170, 3) := by decide +kernel
theorem dX11_laysPairs_24 : decode cX11_laysPairs 24 = .ok (.if_icmp .ge 56, 3) := by decide +kernel
theorem dX11_laysPairs_27 : decode cX11_laysPairs 27 = .ok (.iconst 0, 1) := by decide +kernel
theorem dX11_laysPairs_28 : decode cX11_laysPairs 28 = .ok (.istore 4, 2) := by decide +kernel
theorem dX11_laysPairs_30 : decode cX11_laysPairs 30 = .ok (.iload 4, 2) := by decide +kernel
theorem dX11_laysPairs_32 : decode cX11_laysPairs 32 = .ok (.iconst 2, 1) := by decide +kernel
theorem dX11_laysPairs_33 : decode cX11_laysPairs 33 = .ok (.if_icmp .ge 41, 3) := by decide +kernel
theorem dX11_laysPairs_36 : decode cX11_laysPairs 36 = .ok (.aload_n 0, 1) := by decide +kernel
theorem dX11_laysPairs_37 : decode cX11_laysPairs 37 = .ok (.iload_n 1, 1) := by decide +kernel
theorem dX11_laysPairs_38 : decode cX11_laysPairs 38 = .ok (.iload_n 3, 1) := by decide +kernel
theorem dX11_laysPairs_39 : decode cX11_laysPairs 39 = .ok (.iload_n 2, 1) := by decide +kernel
theorem dX11_laysPairs_40 : decode cX11_laysPairs 40 = .ok (.iload 4, 2) := by decide +kernel
theorem dX11_laysPairs_42 : decode cX11_laysPairs 42 = .ok (.invokevirtual 344, 3) := by decide +kernel
theorem dX11_laysPairs_45 : decode cX11_laysPairs 45 = .ok (.ifCond .eq 23, 3) := by decide +kernel
theorem dX11_laysPairs_48 : decode cX11_laysPairs 48 = .ok (.aload_n 0, 1) := by decide +kernel
theorem dX11_laysPairs_49 : decode cX11_laysPairs 49 = .ok (.aload_n 0, 1) := by decide +kernel
theorem dX11_laysPairs_50 : decode cX11_laysPairs 50 = .ok (.iload_n 1, 1) := by decide +kernel
theorem dX11_laysPairs_51 : decode cX11_laysPairs 51 = .ok (.iload_n 3, 1) := by decide +kernel
theorem dX11_laysPairs_52 : decode cX11_laysPairs 52 = .ok (.iload_n 2, 1) := by decide +kernel
theorem dX11_laysPairs_53 : decode cX11_laysPairs 53 = .ok (.invokevirtual 182, 3) := by decide +kernel
theorem dX11_laysPairs_56 : decode cX11_laysPairs 56 = .ok (.aload_n 0, 1) := by decide +kernel
theorem dX11_laysPairs_57 : decode cX11_laysPairs 57 = .ok (.iload_n 1, 1) := by decide +kernel
theorem dX11_laysPairs_58 : decode cX11_laysPairs 58 = .ok (.iload_n 3, 1) := by decide +kernel
theorem dX11_laysPairs_59 : decode cX11_laysPairs 59 = .ok (.iload_n 2, 1) := by decide +kernel
theorem dX11_laysPairs_60 : decode cX11_laysPairs 60 = .ok (.iload 4, 2) := by decide +kernel
theorem dX11_laysPairs_62 : decode cX11_laysPairs 62 = .ok (.invokevirtual 347, 3) := by decide +kernel
theorem dX11_laysPairs_65 : decode cX11_laysPairs 65 = .ok (.invokevirtual 365, 3) := by decide +kernel
theorem dX11_laysPairs_68 : decode cX11_laysPairs 68 = .ok (.iinc 4 1, 3) := by decide +kernel
theorem dX11_laysPairs_71 : decode cX11_laysPairs 71 = .ok (.goto (-41), 3) := by decide +kernel
theorem dX11_laysPairs_74 : decode cX11_laysPairs 74 = .ok (.iinc 3 1, 3) := by decide +kernel
theorem dX11_laysPairs_77 : decode cX11_laysPairs 77 = .ok (.goto (-59), 3) := by decide +kernel
theorem dX11_laysPairs_80 : decode cX11_laysPairs 80 = .ok (.iinc 2 1, 3) := by decide +kernel
theorem dX11_laysPairs_83 : decode cX11_laysPairs 83 = .ok (.goto (-76), 3) := by decide +kernel
theorem dX11_laysPairs_86 : decode cX11_laysPairs 86 = .ok (.return_, 1) := by decide +kernel
theorem dX11_comes_0 : decode cX11_comes 0 = .ok (.iload_n 1, 1) := by decide +kernel
theorem dX11_comes_1 : decode cX11_comes 1 = .ok (.iload_n 2, 1) := by decide +kernel
theorem dX11_comes_2 : decode cX11_comes 2 = .ok (.if_icmp .ge 13, 3) := by decide +kernel
theorem dX11_comes_5 : decode cX11_comes 5 = .ok (.sipush 256, 3) := by decide +kernel
theorem dX11_comes_8 : decode cX11_comes 8 = .ok (.iload_n 1, 1) := by decide +kernel
theorem dX11_comes_9 : decode cX11_comes 9 = .ok (.imul, 1) := by decide +kernel
theorem dX11_comes_10 : decode cX11_comes 10 = .ok (.iload_n 2, 1) := by decide +kernel
theorem dX11_comes_11 : decode cX11_comes 11 = .ok (.iadd, 1) := by decide +kernel
theorem dX11_comes_12 : decode cX11_comes 12 = .ok (.goto 10, 3) := by decide +kernel
theorem dX11_comes_15 : decode cX11_comes 15 = .ok (.sipush 256, 3) := by decide +kernel
theorem dX11_comes_18 : decode cX11_comes 18 = .ok (.iload_n 2, 1) := by decide +kernel
theorem dX11_comes_19 : decode cX11_comes 19 = .ok (.imul, 1) := by decide +kernel
theorem dX11_comes_20 : decode cX11_comes 20 = .ok (.iload_n 1, 1) := by decide +kernel
theorem dX11_comes_21 : decode cX11_comes 21 = .ok (.iadd, 1) := by decide +kernel
theorem dX11_comes_22 : decode cX11_comes 22 = .ok (.istore_n 3, 1) := by decide +kernel
theorem dX11_comes_23 : decode cX11_comes 23 = .ok (.aload_n 0, 1) := by decide +kernel
theorem dX11_comes_24 : decode cX11_comes 24 = .ok (.getfield 362, 3) := by decide +kernel
theorem dX11_comes_27 : decode cX11_comes 27 = .ok (.istore 4, 2) := by decide +kernel
theorem dX11_comes_29 : decode cX11_comes 29 = .ok (.iload 4, 2) := by decide +kernel
theorem dX11_comes_31 : decode cX11_comes 31 = .ok (.ifCond .le 38, 3) := by decide +kernel
theorem dX11_comes_34 : decode cX11_comes 34 = .ok (.aload_n 0, 1) := by decide +kernel
theorem dX11_comes_35 : decode cX11_comes 35 = .ok (.getfield 82, 3) := by decide +kernel
theorem dX11_comes_38 : decode cX11_comes 38 = .ok (.iload 4, 2) := by decide +kernel
theorem dX11_comes_40 : decode cX11_comes 40 = .ok (.iconst 1, 1) := by decide +kernel
theorem dX11_comes_41 : decode cX11_comes 41 = .ok (.isub, 1) := by decide +kernel
theorem dX11_comes_42 : decode cX11_comes 42 = .ok (.iaload, 1) := by decide +kernel
theorem dX11_comes_43 : decode cX11_comes 43 = .ok (.iload_n 3, 1) := by decide +kernel
theorem dX11_comes_44 : decode cX11_comes 44 = .ok (.if_icmp .le 25, 3) := by decide +kernel
theorem dX11_comes_47 : decode cX11_comes 47 = .ok (.aload_n 0, 1) := by decide +kernel
theorem dX11_comes_48 : decode cX11_comes 48 = .ok (.getfield 82, 3) := by decide +kernel
theorem dX11_comes_51 : decode cX11_comes 51 = .ok (.iload 4, 2) := by decide +kernel
theorem dX11_comes_53 : decode cX11_comes 53 = .ok (.aload_n 0, 1) := by decide +kernel
theorem dX11_comes_54 : decode cX11_comes 54 = .ok (.getfield 82, 3) := by decide +kernel
theorem dX11_comes_57 : decode cX11_comes 57 = .ok (.iload 4, 2) := by decide +kernel
theorem dX11_comes_59 : decode cX11_comes 59 = .ok (.iconst 1, 1) := by decide +kernel
theorem dX11_comes_60 : decode cX11_comes 60 = .ok (.isub, 1) := by decide +kernel
theorem dX11_comes_61 : decode cX11_comes 61 = .ok (.iaload, 1) := by decide +kernel
theorem dX11_comes_62 : decode cX11_comes 62 = .ok (.iastore, 1) := by decide +kernel
theorem dX11_comes_63 : decode cX11_comes 63 = .ok (.iinc 4 (-1), 3) := by decide +kernel
theorem dX11_comes_66 : decode cX11_comes 66 = .ok (.goto (-37), 3) := by decide +kernel
theorem dX11_comes_69 : decode cX11_comes 69 = .ok (.aload_n 0, 1) := by decide +kernel
theorem dX11_comes_70 : decode cX11_comes 70 = .ok (.getfield 82, 3) := by decide +kernel
theorem dX11_comes_73 : decode cX11_comes 73 = .ok (.iload 4, 2) := by decide +kernel
theorem dX11_comes_75 : decode cX11_comes 75 = .ok (.iload_n 3, 1) := by decide +kernel
theorem dX11_comes_76 : decode cX11_comes 76 = .ok (.iastore, 1) := by decide +kernel
theorem dX11_comes_77 : decode cX11_comes 77 = .ok (.aload_n 0, 1) := by decide +kernel
theorem dX11_comes_78 : decode cX11_comes 78 = .ok (.dup, 1) := by decide +kernel
theorem dX11_comes_79 : decode cX11_comes 79 = .ok (.getfield 362, 3) := by decide +kernel
theorem dX11_comes_82 : decode cX11_comes 82 = .ok (.iconst 1, 1) := by decide +kernel
theorem dX11_comes_83 : decode cX11_comes 83 = .ok (.iadd, 1) := by decide +kernel
theorem dX11_comes_84 : decode cX11_comes 84 = .ok (.putfield 362, 3) := by decide +kernel
theorem dX11_comes_87 : decode cX11_comes 87 = .ok (.return_, 1) := by decide +kernel
theorem dX11_pairs_0 : decode cX11_pairs 0 = .ok (.aload_n 0, 1) := by decide +kernel
theorem dX11_pairs_1 : decode cX11_pairs 1 = .ok (.iconst 0, 1) := by decide +kernel
theorem dX11_pairs_2 : decode cX11_pairs 2 = .ok (.putfield 85, 3) := by decide +kernel
theorem dX11_pairs_5 : decode cX11_pairs 5 = .ok (.aload_n 0, 1) := by decide +kernel
theorem dX11_pairs_6 : decode cX11_pairs 6 = .ok (.iload_n 1, 1) := by decide +kernel
theorem dX11_pairs_7 : decode cX11_pairs 7 = .ok (.invokevirtual 173, 3) := by decide +kernel
theorem dX11_pairs_10 : decode cX11_pairs 10 = .ok (.ifCond .ne 9, 3) := by decide +kernel
theorem dX11_pairs_13 : decode cX11_pairs 13 = .ok (.aload_n 0, 1) := by decide +kernel
theorem dX11_pairs_14 : decode cX11_pairs 14 = .ok (.iconst 1, 1) := by decide +kernel
theorem dX11_pairs_15 : decode cX11_pairs 15 = .ok (.invokevirtual 147, 3) := by decide +kernel
theorem dX11_pairs_18 : decode cX11_pairs 18 = .ok (.ireturn, 1) := by decide +kernel
theorem dX11_pairs_19 : decode cX11_pairs 19 = .ok (.aload_n 0, 1) := by decide +kernel
theorem dX11_pairs_20 : decode cX11_pairs 20 = .ok (.iload_n 1, 1) := by decide +kernel
theorem dX11_pairs_21 : decode cX11_pairs 21 = .ok (.invokevirtual 368, 3) := by decide +kernel
theorem dX11_pairs_24 : decode cX11_pairs 24 = .ok (.iconst 0, 1) := by decide +kernel
theorem dX11_pairs_25 : decode cX11_pairs 25 = .ok (.istore_n 2, 1) := by decide +kernel
theorem dX11_pairs_26 : decode cX11_pairs 26 = .ok (.iconst 0, 1) := by decide +kernel
theorem dX11_pairs_27 : decode cX11_pairs 27 = .ok (.istore_n 3, 1) := by decide +kernel
theorem dX11_pairs_28 : decode cX11_pairs 28 = .ok (.iload_n 3, 1) := by decide +kernel
theorem dX11_pairs_29 : decode cX11_pairs 29 = .ok (.aload_n 0, 1) := by decide +kernel
theorem dX11_pairs_30 : decode cX11_pairs 30 = .ok (.getfield 362, 3) := by decide +kernel
theorem dX11_pairs_33 : decode cX11_pairs 33 = .ok (.if_icmp .ge 38, 3) := by decide +kernel
theorem dX11_pairs_36 : decode cX11_pairs 36 = .ok (.iload_n 2, 1) := by decide +kernel
theorem dX11_pairs_37 : decode cX11_pairs 37 = .ok (.iload_n 3, 1) := by decide +kernel
theorem dX11_pairs_38 : decode cX11_pairs 38 = .ok (.ifCond .eq 20, 3) := by decide +kernel
theorem dX11_pairs_41 : decode cX11_pairs 41 = .ok (.aload_n 0, 1) := by decide +kernel
theorem dX11_pairs_42 : decode cX11_pairs 42 = .ok (.getfield 82, 3) := by decide +kernel
theorem dX11_pairs_45 : decode cX11_pairs 45 = .ok (.iload_n 3, 1) := by decide +kernel
theorem dX11_pairs_46 : decode cX11_pairs 46 = .ok (.iaload, 1) := by decide +kernel
theorem dX11_pairs_47 : decode cX11_pairs 47 = .ok (.aload_n 0, 1) := by decide +kernel
theorem dX11_pairs_48 : decode cX11_pairs 48 = .ok (.getfield 82, 3) := by decide +kernel
theorem dX11_pairs_51 : decode cX11_pairs 51 = .ok (.iload_n 3, 1) := by decide +kernel
theorem dX11_pairs_52 : decode cX11_pairs 52 = .ok (.iconst 1, 1) := by decide +kernel
theorem dX11_pairs_53 : decode cX11_pairs 53 = .ok (.isub, 1) := by decide +kernel
theorem dX11_pairs_54 : decode cX11_pairs 54 = .ok (.iaload, 1) := by decide +kernel
theorem dX11_pairs_55 : decode cX11_pairs 55 = .ok (.if_icmp .eq 7, 3) := by decide +kernel
theorem dX11_pairs_58 : decode cX11_pairs 58 = .ok (.iconst 1, 1) := by decide +kernel
theorem dX11_pairs_59 : decode cX11_pairs 59 = .ok (.goto 4, 3) := by decide +kernel
theorem dX11_pairs_62 : decode cX11_pairs 62 = .ok (.iconst 0, 1) := by decide +kernel
theorem dX11_pairs_63 : decode cX11_pairs 63 = .ok (.iadd, 1) := by decide +kernel
theorem dX11_pairs_64 : decode cX11_pairs 64 = .ok (.istore_n 2, 1) := by decide +kernel
theorem dX11_pairs_65 : decode cX11_pairs 65 = .ok (.iinc 3 1, 3) := by decide +kernel
theorem dX11_pairs_68 : decode cX11_pairs 68 = .ok (.goto (-40), 3) := by decide +kernel
theorem dX11_pairs_71 : decode cX11_pairs 71 = .ok (.aload_n 0, 1) := by decide +kernel
theorem dX11_pairs_72 : decode cX11_pairs 72 = .ok (.iload_n 2, 1) := by decide +kernel
theorem dX11_pairs_73 : decode cX11_pairs 73 = .ok (.invokevirtual 157, 3) := by decide +kernel
theorem dX11_pairs_76 : decode cX11_pairs 76 = .ok (.ireturn, 1) := by decide +kernel
theorem dX11_pair_0 : decode cX11_pair 0 = .ok (.aload_n 0, 1) := by decide +kernel
theorem dX11_pair_1 : decode cX11_pair 1 = .ok (.iconst 0, 1) := by decide +kernel
theorem dX11_pair_2 : decode cX11_pair 2 = .ok (.putfield 85, 3) := by decide +kernel
theorem dX11_pair_5 : decode cX11_pair 5 = .ok (.aload_n 0, 1) := by decide +kernel
theorem dX11_pair_6 : decode cX11_pair 6 = .ok (.iload_n 1, 1) := by decide +kernel
theorem dX11_pair_7 : decode cX11_pair 7 = .ok (.invokevirtual 173, 3) := by decide +kernel
theorem dX11_pair_10 : decode cX11_pair 10 = .ok (.ifCond .eq 12, 3) := by decide +kernel
theorem dX11_pair_13 : decode cX11_pair 13 = .ok (.iload_n 2, 1) := by decide +kernel
theorem dX11_pair_14 : decode cX11_pair 14 = .ok (.iconst 0, 1) := by decide +kernel
theorem dX11_pair_15 : decode cX11_pair 15 = .ok (.iconst 2, 1) := by decide +kernel
theorem dX11_pair_16 : decode cX11_pair 16 = .ok (.invokestatic 106, 3) := by decide +kernel
theorem dX11_pair_19 : decode cX11_pair 19 = .ok (.ifCond .ne 9, 3) := by decide +kernel
theorem dX11_pair_22 : decode cX11_pair 22 = .ok (.aload_n 0, 1) := by decide +kernel
theorem dX11_pair_23 : decode cX11_pair 23 = .ok (.iconst 1, 1) := by decide +kernel
theorem dX11_pair_24 : decode cX11_pair 24 = .ok (.invokevirtual 147, 3) := by decide +kernel
theorem dX11_pair_27 : decode cX11_pair 27 = .ok (.ireturn, 1) := by decide +kernel
theorem dX11_pair_28 : decode cX11_pair 28 = .ok (.aload_n 0, 1) := by decide +kernel
theorem dX11_pair_29 : decode cX11_pair 29 = .ok (.iload_n 1, 1) := by decide +kernel
theorem dX11_pair_30 : decode cX11_pair 30 = .ok (.invokevirtual 368, 3) := by decide +kernel
theorem dX11_pair_33 : decode cX11_pair 33 = .ok (.bipush (-2), 2) := by decide +kernel
theorem dX11_pair_35 : decode cX11_pair 35 = .ok (.istore_n 3, 1) := by decide +kernel
theorem dX11_pair_36 : decode cX11_pair 36 = .ok (.iconst 0, 1) := by decide +kernel
theorem dX11_pair_37 : decode cX11_pair 37 = .ok (.istore 4, 2) := by decide +kernel
theorem dX11_pair_39 : decode cX11_pair 39 = .ok (.iconst 0, 1) := by decide +kernel
theorem dX11_pair_40 : decode cX11_pair 40 = .ok (.istore 5, 2) := by decide +kernel
theorem dX11_pair_42 : decode cX11_pair 42 = .ok (.iconst 0, 1) := by decide +kernel
theorem dX11_pair_43 : decode cX11_pair 43 = .ok (.istore 6, 2) := by decide +kernel
theorem dX11_pair_45 : decode cX11_pair 45 = .ok (.iload 6, 2) := by decide +kernel
theorem dX11_pair_47 : decode cX11_pair 47 = .ok (.aload_n 0, 1) := by decide +kernel
theorem dX11_pair_48 : decode cX11_pair 48 = .ok (.getfield 362, 3) := by decide +kernel
theorem dX11_pair_51 : decode cX11_pair 51 = .ok (.if_icmp .ge 65, 3) := by decide +kernel
theorem dX11_pair_54 : decode cX11_pair 54 = .ok (.iload 6, 2) := by decide +kernel
theorem dX11_pair_56 : decode cX11_pair 56 = .ok (.ifCond .le 29, 3) := by decide +kernel
theorem dX11_pair_59 : decode cX11_pair 59 = .ok (.aload_n 0, 1) := by decide +kernel
theorem dX11_pair_60 : decode cX11_pair 60 = .ok (.getfield 82, 3) := by decide +kernel
theorem dX11_pair_63 : decode cX11_pair 63 = .ok (.iload 6, 2) := by decide +kernel
theorem dX11_pair_65 : decode cX11_pair 65 = .ok (.iaload, 1) := by decide +kernel
theorem dX11_pair_66 : decode cX11_pair 66 = .ok (.aload_n 0, 1) := by decide +kernel
theorem dX11_pair_67 : decode cX11_pair 67 = .ok (.getfield 82, 3) := by decide +kernel
theorem dX11_pair_70 : decode cX11_pair 70 = .ok (.iload 6, 2) := by decide +kernel
theorem dX11_pair_72 : decode cX11_pair 72 = .ok (.iconst 1, 1) := by decide +kernel
theorem dX11_pair_73 : decode cX11_pair 73 = .ok (.isub, 1) := by decide +kernel
theorem dX11_pair_74 : decode cX11_pair 74 = .ok (.iaload, 1) := by decide +kernel
theorem dX11_pair_75 : decode cX11_pair 75 = .ok (.if_icmp .ne 10, 3) := by decide +kernel
theorem dX11_pair_78 : decode cX11_pair 78 = .ok (.iload 5, 2) := by decide +kernel
theorem dX11_pair_80 : decode cX11_pair 80 = .ok (.iconst 1, 1) := by decide +kernel
theorem dX11_pair_81 : decode cX11_pair 81 = .ok (.iadd, 1) := by decide +kernel
theorem dX11_pair_82 : decode cX11_pair 82 = .ok (.goto 4, 3) := by decide +kernel
theorem dX11_pair_85 : decode cX11_pair 85 = .ok (.iconst 1, 1) := by decide +kernel
theorem dX11_pair_86 : decode cX11_pair 86 = .ok (.istore 5, 2) := by decide +kernel
theorem dX11_pair_88 : decode cX11_pair 88 = .ok (.iload 5, 2) := by decide +kernel
theorem dX11_pair_90 : decode cX11_pair 90 = .ok (.iload 4, 2) := by decide +kernel
theorem dX11_pair_92 : decode cX11_pair 92 = .ok (.if_icmp .gt 6, 3) := by decide +kernel
theorem dX11_pair_95 : decode cX11_pair 95 = .ok (.goto 15, 3) := by decide +kernel
theorem dX11_pair_98 : decode cX11_pair 98 = .ok (.iload 5, 2) := by decide +kernel
theorem dX11_pair_100 : decode cX11_pair 100 = .ok (.istore 4, 2) := by decide +kernel
theorem dX11_pair_102 : decode cX11_pair 102 = .ok (.aload_n 0, 1) := by decide +kernel
theorem dX11_pair_103 : decode cX11_pair 103 = .ok (.getfield 82, 3) := by decide +kernel
theorem dX11_pair_106 : decode cX11_pair 106 = .ok (.iload 6, 2) := by decide +kernel
theorem dX11_pair_108 : decode cX11_pair 108 = .ok (.iaload, 1) := by decide +kernel
theorem dX11_pair_109 : decode cX11_pair 109 = .ok (.istore_n 3, 1) := by decide +kernel
theorem dX11_pair_110 : decode cX11_pair 110 = .ok (.iinc 6 1, 3) := by decide +kernel
theorem dX11_pair_113 : decode cX11_pair 113 = .ok (.goto (-68), 3) := by decide +kernel
theorem dX11_pair_116 : decode cX11_pair 116 = .ok (.aload_n 0, 1) := by decide +kernel
theorem dX11_pair_117 : decode cX11_pair 117 = .ok (.iload_n 3, 1) := by decide +kernel
theorem dX11_pair_118 : decode cX11_pair 118 = .ok (.bipush (-2), 2) := by decide +kernel
theorem dX11_pair_120 : decode cX11_pair 120 = .ok (.if_icmp .ne 8, 3) := by decide +kernel
theorem dX11_pair_123 : decode cX11_pair 123 = .ok (.bipush (-2), 2) := by decide +kernel
theorem dX11_pair_125 : decode cX11_pair 125 = .ok (.goto 30, 3) := by decide +kernel
theorem dX11_pair_128 : decode cX11_pair 128 = .ok (.iload_n 2, 1) := by decide +kernel
theorem dX11_pair_129 : decode cX11_pair 129 = .ok (.ifCond .ne 11, 3) := by decide +kernel
theorem dX11_pair_132 : decode cX11_pair 132 = .ok (.iload_n 3, 1) := by decide +kernel
theorem dX11_pair_133 : decode cX11_pair 133 = .ok (.sipush 256, 3) := by decide +kernel
theorem dX11_pair_136 : decode cX11_pair 136 = .ok (.idiv, 1) := by decide +kernel
theorem dX11_pair_137 : decode cX11_pair 137 = .ok (.goto 18, 3) := by decide +kernel
theorem dX11_pair_140 : decode cX11_pair 140 = .ok (.iload_n 2, 1) := by decide +kernel
theorem dX11_pair_141 : decode cX11_pair 141 = .ok (.iconst 1, 1) := by decide +kernel
theorem dX11_pair_142 : decode cX11_pair 142 = .ok (.if_icmp .ne 11, 3) := by decide +kernel
theorem dX11_pair_145 : decode cX11_pair 145 = .ok (.iload_n 3, 1) := by decide +kernel
theorem dX11_pair_146 : decode cX11_pair 146 = .ok (.sipush 256, 3) := by decide +kernel
theorem dX11_pair_149 : decode cX11_pair 149 = .ok (.irem, 1) := by decide +kernel
theorem dX11_pair_150 : decode cX11_pair 150 = .ok (.goto 5, 3) := by decide +kernel
theorem dX11_pair_153 : decode cX11_pair 153 = .ok (.iload 4, 2) := by decide +kernel
theorem dX11_pair_155 : decode cX11_pair 155 = .ok (.invokevirtual 157, 3) := by decide +kernel
theorem dX11_pair_158 : decode cX11_pair 158 = .ok (.ireturn, 1) := by decide +kernel
theorem dX11_letter_0 : decode cX11_letter 0 = .ok (.aload_n 0, 1) := by decide +kernel
theorem dX11_letter_1 : decode cX11_letter 1 = .ok (.iconst 0, 1) := by decide +kernel
theorem dX11_letter_2 : decode cX11_letter 2 = .ok (.putfield 85, 3) := by decide +kernel
theorem dX11_letter_5 : decode cX11_letter 5 = .ok (.iload_n 1, 1) := by decide +kernel
theorem dX11_letter_6 : decode cX11_letter 6 = .ok (.iconst 0, 1) := by decide +kernel
theorem dX11_letter_7 : decode cX11_letter 7 = .ok (.aload_n 0, 1) := by decide +kernel
theorem dX11_letter_8 : decode cX11_letter 8 = .ok (.getfield 160, 3) := by decide +kernel
theorem dX11_letter_11 : decode cX11_letter 11 = .ok (.iconst 1, 1) := by decide +kernel
theorem dX11_letter_12 : decode cX11_letter 12 = .ok (.isub, 1) := by decide +kernel
theorem dX11_letter_13 : decode cX11_letter 13 = .ok (.invokestatic 106, 3) := by decide +kernel
theorem dX11_letter_16 : decode cX11_letter 16 = .ok (.ifCond .eq 34, 3) := by decide +kernel
theorem dX11_letter_19 : decode cX11_letter 19 = .ok (.iload_n 2, 1) := by decide +kernel
theorem dX11_letter_20 : decode cX11_letter 20 = .ok (.iconst 0, 1) := by decide +kernel
theorem dX11_letter_21 : decode cX11_letter 21 = .ok (.aload_n 0, 1) := by decide +kernel
theorem dX11_letter_22 : decode cX11_letter 22 = .ok (.getfield 35, 3) := by decide +kernel
theorem dX11_letter_25 : decode cX11_letter 25 = .ok (.iload_n 1, 1) := by decide +kernel
theorem dX11_letter_26 : decode cX11_letter 26 = .ok (.iaload, 1) := by decide +kernel
theorem dX11_letter_27 : decode cX11_letter 27 = .ok (.iconst 1, 1) := by decide +kernel
theorem dX11_letter_28 : decode cX11_letter 28 = .ok (.isub, 1) := by decide +kernel
theorem dX11_letter_29 : decode cX11_letter 29 = .ok (.invokestatic 106, 3) := by decide +kernel
theorem dX11_letter_32 : decode cX11_letter 32 = .ok (.ifCond .eq 18, 3) := by decide +kernel
theorem dX11_letter_35 : decode cX11_letter 35 = .ok (.aload_n 0, 1) := by decide +kernel
theorem dX11_letter_36 : decode cX11_letter 36 = .ok (.getfield 32, 3) := by decide +kernel
theorem dX11_letter_39 : decode cX11_letter 39 = .ok (.bipush 16, 2) := by decide +kernel
theorem dX11_letter_41 : decode cX11_letter 41 = .ok (.iload_n 1, 1) := by decide +kernel
theorem dX11_letter_42 : decode cX11_letter 42 = .ok (.imul, 1) := by decide +kernel
theorem dX11_letter_43 : decode cX11_letter 43 = .ok (.iload_n 2, 1) := by decide +kernel
theorem dX11_letter_44 : decode cX11_letter 44 = .ok (.iadd, 1) := by decide +kernel
theorem dX11_letter_45 : decode cX11_letter 45 = .ok (.iaload, 1) := by decide +kernel
theorem dX11_letter_46 : decode cX11_letter 46 = .ok (.bipush 97, 2) := by decide +kernel
theorem dX11_letter_48 : decode cX11_letter 48 = .ok (.isub, 1) := by decide +kernel
theorem dX11_letter_49 : decode cX11_letter 49 = .ok (.ireturn, 1) := by decide +kernel
theorem dX11_letter_50 : decode cX11_letter 50 = .ok (.aload_n 0, 1) := by decide +kernel
theorem dX11_letter_51 : decode cX11_letter 51 = .ok (.iconst 1, 1) := by decide +kernel
theorem dX11_letter_52 : decode cX11_letter 52 = .ok (.putfield 85, 3) := by decide +kernel
theorem dX11_letter_55 : decode cX11_letter 55 = .ok (.iconst 0, 1) := by decide +kernel
theorem dX11_letter_56 : decode cX11_letter 56 = .ok (.ireturn, 1) := by decide +kernel
theorem dX11_bytes_0 : decode cX11_bytes 0 = .ok (.aload_n 0, 1) := by decide +kernel
theorem dX11_bytes_1 : decode cX11_bytes 1 = .ok (.iconst 0, 1) := by decide +kernel
theorem dX11_bytes_2 : decode cX11_bytes 2 = .ok (.putfield 85, 3) := by decide +kernel
theorem dX11_bytes_5 : decode cX11_bytes 5 = .ok (.aload_n 0, 1) := by decide +kernel
theorem dX11_bytes_6 : decode cX11_bytes 6 = .ok (.getfield 91, 3) := by decide +kernel
theorem dX11_bytes_9 : decode cX11_bytes 9 = .ok (.ireturn, 1) := by decide +kernel
theorem dX11_trouble_0 : decode cX11_trouble 0 = .ok (.aload_n 0, 1) := by decide +kernel
theorem dX11_trouble_1 : decode cX11_trouble 1 = .ok (.iconst 0, 1) := by decide +kernel
theorem dX11_trouble_2 : decode cX11_trouble 2 = .ok (.putfield 85, 3) := by decide +kernel
theorem dX11_trouble_5 : decode cX11_trouble 5 = .ok (.aload_n 0, 1) := by decide +kernel
theorem dX11_trouble_6 : decode cX11_trouble 6 = .ok (.getfield 88, 3) := by decide +kernel
theorem dX11_trouble_9 : decode cX11_trouble 9 = .ok (.ireturn, 1) := by decide +kernel
