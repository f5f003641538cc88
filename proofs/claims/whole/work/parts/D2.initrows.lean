theorem dX5_init_0 : decode cX5_init 0 = .ok (.aload_n 0, 1) := by decide +kernel
theorem dX5_init_1 : decode cX5_init 1 = .ok (.invokespecial 3, 3) := by decide +kernel
theorem dX5_init_4 : decode cX5_init 4 = .ok (.aload_n 0, 1) := by decide +kernel
theorem dX5_init_5 : decode cX5_init 5 = .ok (.sipush 192, 3) := by decide +kernel
theorem dX5_init_8 : decode cX5_init 8 = .ok (.newarray .int, 2) := by decide +kernel
theorem dX5_init_10 : decode cX5_init 10 = .ok (.putfield 9, 3) := by decide +kernel
theorem dX5_init_13 : decode cX5_init 13 = .ok (.return_, 1) := by decide +kernel
theorem dX2_init_0 : decode cX2_init 0 = .ok (.aload_n 0, 1) := by decide +kernel
theorem dX2_init_1 : decode cX2_init 1 = .ok (.invokespecial 3, 3) := by decide +kernel
theorem dX2_init_4 : decode cX2_init 4 = .ok (.aload_n 0, 1) := by decide +kernel
theorem dX2_init_5 : decode cX2_init 5 = .ok (.bipush 64, 2) := by decide +kernel
theorem dX2_init_7 : decode cX2_init 7 = .ok (.newarray .int, 2) := by decide +kernel
theorem dX2_init_9 : decode cX2_init 9 = .ok (.putfield 9, 3) := by decide +kernel
theorem dX2_init_12 : decode cX2_init 12 = .ok (.aload_n 0, 1) := by decide +kernel
theorem dX2_init_13 : decode cX2_init 13 = .ok (.iconst 4, 1) := by decide +kernel
theorem dX2_init_14 : decode cX2_init 14 = .ok (.newarray .int, 2) := by decide +kernel
theorem dX2_init_16 : decode cX2_init 16 = .ok (.putfield 15, 3) := by decide +kernel
theorem dX2_init_19 : decode cX2_init 19 = .ok (.return_, 1) := by decide +kernel
theorem dX3_init_0 : decode cX3_init 0 = .ok (.aload_n 0, 1) := by decide +kernel
theorem dX3_init_1 : decode cX3_init 1 = .ok (.invokespecial 3, 3) := by decide +kernel
theorem dX3_init_4 : decode cX3_init 4 = .ok (.aload_n 0, 1) := by decide +kernel
theorem dX3_init_5 : decode cX3_init 5 = .ok (.sipush 396, 3) := by decide +kernel
theorem dX3_init_8 : decode cX3_init 8 = .ok (.newarray .long, 2) := by decide +kernel
theorem dX3_init_10 : decode cX3_init 10 = .ok (.putfield 11, 3) := by decide +kernel
theorem dX3_init_13 : decode cX3_init 13 = .ok (.return_, 1) := by decide +kernel
theorem dX4_init_0 : decode cX4_init 0 = .ok (.aload_n 0, 1) := by decide +kernel
theorem dX4_init_1 : decode cX4_init 1 = .ok (.invokespecial 3, 3) := by decide +kernel
theorem dX4_init_4 : decode cX4_init 4 = .ok (.aload_n 0, 1) := by decide +kernel
theorem dX4_init_5 : decode cX4_init 5 = .ok (.sipush 356, 3) := by decide +kernel
theorem dX4_init_8 : decode cX4_init 8 = .ok (.newarray .int, 2) := by decide +kernel
theorem dX4_init_10 : decode cX4_init 10 = .ok (.putfield 11, 3) := by decide +kernel
theorem dX4_init_13 : decode cX4_init 13 = .ok (.return_, 1) := by decide +kernel
theorem dX6_init_0 : decode cX6_init 0 = .ok (.aload_n 0, 1) := by decide +kernel
theorem dX6_init_1 : decode cX6_init 1 = .ok (.invokespecial 3, 3) := by decide +kernel
theorem dX6_init_4 : decode cX6_init 4 = .ok (.aload_n 0, 1) := by decide +kernel
theorem dX6_init_5 : decode cX6_init 5 = .ok (.sipush 192, 3) := by decide +kernel
theorem dX6_init_8 : decode cX6_init 8 = .ok (.newarray .int, 2) := by decide +kernel
theorem dX6_init_10 : decode cX6_init 10 = .ok (.putfield 9, 3) := by decide +kernel
theorem dX6_init_13 : decode cX6_init 13 = .ok (.aload_n 0, 1) := by decide +kernel
theorem dX6_init_14 : decode cX6_init 14 = .ok (.sipush 192, 3) := by decide +kernel
theorem dX6_init_17 : decode cX6_init 17 = .ok (.newarray .int, 2) := by decide +kernel
theorem dX6_init_19 : decode cX6_init 19 = .ok (.putfield 15, 3) := by decide +kernel
theorem dX6_init_22 : decode cX6_init 22 = .ok (.aload_n 0, 1) := by decide +kernel
theorem dX6_init_23 : decode cX6_init 23 = .ok (.sipush 192, 3) := by decide +kernel
theorem dX6_init_26 : decode cX6_init 26 = .ok (.newarray .int, 2) := by decide +kernel
theorem dX6_init_28 : decode cX6_init 28 = .ok (.putfield 18, 3) := by decide +kernel
theorem dX6_init_31 : decode cX6_init 31 = .ok (.return_, 1) := by decide +kernel
theorem dX7_init_0 : decode cX7_init 0 = .ok (.aload_n 0, 1) := by decide +kernel
theorem dX7_init_1 : decode cX7_init 1 = .ok (.invokespecial 3, 3) := by decide +kernel
theorem dX7_init_4 : decode cX7_init 4 = .ok (.aload_n 0, 1) := by decide +kernel
theorem dX7_init_5 : decode cX7_init 5 = .ok (.sipush 256, 3) := by decide +kernel
theorem dX7_init_8 : decode cX7_init 8 = .ok (.newarray .int, 2) := by decide +kernel
theorem dX7_init_10 : decode cX7_init 10 = .ok (.putfield 9, 3) := by decide +kernel
theorem dX7_init_13 : decode cX7_init 13 = .ok (.return_, 1) := by decide +kernel
theorem dX8_init_0 : decode cX8_init 0 = .ok (.aload_n 0, 1) := by decide +kernel
theorem dX8_init_1 : decode cX8_init 1 = .ok (.invokespecial 3, 3) := by decide +kernel
theorem dX8_init_4 : decode cX8_init 4 = .ok (.aload_n 0, 1) := by decide +kernel
theorem dX8_init_5 : decode cX8_init 5 = .ok (.sipush 700, 3) := by decide +kernel
theorem dX8_init_8 : decode cX8_init 8 = .ok (.newarray .int, 2) := by decide +kernel
theorem dX8_init_10 : decode cX8_init 10 = .ok (.putfield 9, 3) := by decide +kernel
theorem dX8_init_13 : decode cX8_init 13 = .ok (.return_, 1) := by decide +kernel
theorem dX1_init_0 : decode cX1_init 0 = .ok (.aload_n 0, 1) := by decide +kernel
theorem dX1_init_1 : decode cX1_init 1 = .ok (.invokespecial 3, 3) := by decide +kernel
theorem dX1_init_4 : decode cX1_init 4 = .ok (.aload_n 0, 1) := by decide +kernel
theorem dX1_init_5 : decode cX1_init 5 = .ok (.new 9, 3) := by decide +kernel
theorem dX1_init_8 : decode cX1_init 8 = .ok (.dup, 1) := by decide +kernel
theorem dX1_init_9 : decode cX1_init 9 = .ok (.invokespecial 11, 3) := by decide +kernel
theorem dX1_init_12 : decode cX1_init 12 = .ok (.putfield 12, 3) := by decide +kernel
theorem dX1_init_15 : decode cX1_init 15 = .ok (.aload_n 0, 1) := by decide +kernel
theorem dX1_init_16 : decode cX1_init 16 = .ok (.new 9, 3) := by decide +kernel
theorem dX1_init_19 : decode cX1_init 19 = .ok (.dup, 1) := by decide +kernel
theorem dX1_init_20 : decode cX1_init 20 = .ok (.invokespecial 11, 3) := by decide +kernel
theorem dX1_init_23 : decode cX1_init 23 = .ok (.putfield 18, 3) := by decide +kernel
theorem dX1_init_26 : decode cX1_init 26 = .ok (.aload_n 0, 1) := by decide +kernel
theorem dX1_init_27 : decode cX1_init 27 = .ok (.iconst 3, 1) := by decide +kernel
theorem dX1_init_28 : decode cX1_init 28 = .ok (.newarray .int, 2) := by decide +kernel
theorem dX1_init_30 : decode cX1_init 30 = .ok (.putfield 21, 3) := by decide +kernel
theorem dX1_init_33 : decode cX1_init 33 = .ok (.aload_n 0, 1) := by decide +kernel
theorem dX1_init_34 : decode cX1_init 34 = .ok (.sipush 256, 3) := by decide +kernel
theorem dX1_init_37 : decode cX1_init 37 = .ok (.newarray .int, 2) := by decide +kernel
theorem dX1_init_39 : decode cX1_init 39 = .ok (.putfield 25, 3) := by decide +kernel
theorem dX1_init_42 : decode cX1_init 42 = .ok (.aload_n 0, 1) := by decide +kernel
theorem dX1_init_43 : decode cX1_init 43 = .ok (.sipush 144, 3) := by decide +kernel
theorem dX1_init_46 : decode cX1_init 46 = .ok (.newarray .int, 2) := by decide +kernel
theorem dX1_init_48 : decode cX1_init 48 = .ok (.putfield 28, 3) := by decide +kernel
theorem dX1_init_51 : decode cX1_init 51 = .ok (.return_, 1) := by decide +kernel
theorem dX0_init_0 : decode cX0_init 0 = .ok (.aload_n 0, 1) := by decide +kernel
theorem dX0_init_1 : decode cX0_init 1 = .ok (.invokespecial 3, 3) := by decide +kernel
theorem dX0_init_4 : decode cX0_init 4 = .ok (.aload_n 0, 1) := by decide +kernel
theorem dX0_init_5 : decode cX0_init 5 = .ok (.bipush 10, 2) := by decide +kernel
theorem dX0_init_7 : decode cX0_init 7 = .ok (.anewarray 9, 3) := by decide +kernel
theorem dX0_init_10 : decode cX0_init 10 = .ok (.putfield 11, 3) := by decide +kernel
theorem dX0_init_13 : decode cX0_init 13 = .ok (.aload_n 0, 1) := by decide +kernel
theorem dX0_init_14 : decode cX0_init 14 = .ok (.bipush 10, 2) := by decide +kernel
theorem dX0_init_16 : decode cX0_init 16 = .ok (.newarray .int, 2) := by decide +kernel
theorem dX0_init_18 : decode cX0_init 18 = .ok (.putfield 17, 3) := by decide +kernel
theorem dX0_init_21 : decode cX0_init 21 = .ok (.iconst 0, 1) := by decide +kernel
theorem dX0_init_22 : decode cX0_init 22 = .ok (.istore_n 1, 1) := by decide +kernel
theorem dX0_init_23 : decode cX0_init 23 = .ok (.iload_n 1, 1) := by decide +kernel
theorem dX0_init_24 : decode cX0_init 24 = .ok (.bipush 10, 2) := by decide +kernel
theorem dX0_init_26 : decode cX0_init 26 = .ok (.if_icmp .ge 22, 3) := by decide +kernel
theorem dX0_init_29 : decode cX0_init 29 = .ok (.aload_n 0, 1) := by decide +kernel
theorem dX0_init_30 : decode cX0_init 30 = .ok (.getfield 11, 3) := by decide +kernel
theorem dX0_init_33 : decode cX0_init 33 = .ok (.iload_n 1, 1) := by decide +kernel
theorem dX0_init_34 : decode cX0_init 34 = .ok (.new 9, 3) := by decide +kernel
theorem dX0_init_37 : decode cX0_init 37 = .ok (.dup, 1) := by decide +kernel
theorem dX0_init_38 : decode cX0_init 38 = .ok (.invokespecial 21, 3) := by decide +kernel
theorem dX0_init_41 : decode cX0_init 41 = .ok (.aastore, 1) := by decide +kernel
theorem dX0_init_42 : decode cX0_init 42 = .ok (.iinc 1 1, 3) := by decide +kernel
theorem dX0_init_45 : decode cX0_init 45 = .ok (.goto (-22), 3) := by decide +kernel
theorem dX0_init_48 : decode cX0_init 48 = .ok (.return_, 1) := by decide +kernel
theorem dX9_init_0 : decode cX9_init 0 = .ok (.aload_n 0, 1) := by decide +kernel
theorem dX9_init_1 : decode cX9_init 1 = .ok (.invokespecial 3, 3) := by decide +kernel
theorem dX9_init_4 : decode cX9_init 4 = .ok (.aload_n 0, 1) := by decide +kernel
theorem dX9_init_5 : decode cX9_init 5 = .ok (.iconst 4, 1) := by decide +kernel
theorem dX9_init_6 : decode cX9_init 6 = .ok (.anewarray 9, 3) := by decide +kernel
theorem dX9_init_9 : decode cX9_init 9 = .ok (.putfield 11, 3) := by decide +kernel
theorem dX9_init_12 : decode cX9_init 12 = .ok (.aload_n 0, 1) := by decide +kernel
theorem dX9_init_13 : decode cX9_init 13 = .ok (.new 17, 3) := by decide +kernel
theorem dX9_init_16 : decode cX9_init 16 = .ok (.dup, 1) := by decide +kernel
theorem dX9_init_17 : decode cX9_init 17 = .ok (.invokespecial 19, 3) := by decide +kernel
theorem dX9_init_20 : decode cX9_init 20 = .ok (.putfield 20, 3) := by decide +kernel
theorem dX9_init_23 : decode cX9_init 23 = .ok (.iconst 0, 1) := by decide +kernel
theorem dX9_init_24 : decode cX9_init 24 = .ok (.istore_n 1, 1) := by decide +kernel
theorem dX9_init_25 : decode cX9_init 25 = .ok (.iload_n 1, 1) := by decide +kernel
theorem dX9_init_26 : decode cX9_init 26 = .ok (.iconst 4, 1) := by decide +kernel
theorem dX9_init_27 : decode cX9_init 27 = .ok (.if_icmp .ge 22, 3) := by decide +kernel
theorem dX9_init_30 : decode cX9_init 30 = .ok (.aload_n 0, 1) := by decide +kernel
theorem dX9_init_31 : decode cX9_init 31 = .ok (.getfield 11, 3) := by decide +kernel
theorem dX9_init_34 : decode cX9_init 34 = .ok (.iload_n 1, 1) := by decide +kernel
theorem dX9_init_35 : decode cX9_init 35 = .ok (.new 9, 3) := by decide +kernel
theorem dX9_init_38 : decode cX9_init 38 = .ok (.dup, 1) := by decide +kernel
theorem dX9_init_39 : decode cX9_init 39 = .ok (.invokespecial 24, 3) := by decide +kernel
theorem dX9_init_42 : decode cX9_init 42 = .ok (.aastore, 1) := by decide +kernel
theorem dX9_init_43 : decode cX9_init 43 = .ok (.iinc 1 1, 3) := by decide +kernel
theorem dX9_init_46 : decode cX9_init 46 = .ok (.goto (-21), 3) := by decide +kernel
theorem dX9_init_49 : decode cX9_init 49 = .ok (.return_, 1) := by decide +kernel
theorem dX10_init_0 : decode cX10_init 0 = .ok (.aload_n 0, 1) := by decide +kernel
theorem dX10_init_1 : decode cX10_init 1 = .ok (.invokespecial 3, 3) := by decide +kernel
theorem dX10_init_4 : decode cX10_init 4 = .ok (.aload_n 0, 1) := by decide +kernel
theorem dX10_init_5 : decode cX10_init 5 = .ok (.bipush 6, 2) := by decide +kernel
theorem dX10_init_7 : decode cX10_init 7 = .ok (.anewarray 9, 3) := by decide +kernel
theorem dX10_init_10 : decode cX10_init 10 = .ok (.putfield 11, 3) := by decide +kernel
theorem dX10_init_13 : decode cX10_init 13 = .ok (.aload_n 0, 1) := by decide +kernel
theorem dX10_init_14 : decode cX10_init 14 = .ok (.new 9, 3) := by decide +kernel
theorem dX10_init_17 : decode cX10_init 17 = .ok (.dup, 1) := by decide +kernel
theorem dX10_init_18 : decode cX10_init 18 = .ok (.invokespecial 15, 3) := by decide +kernel
theorem dX10_init_21 : decode cX10_init 21 = .ok (.putfield 16, 3) := by decide +kernel
theorem dX10_init_24 : decode cX10_init 24 = .ok (.aload_n 0, 1) := by decide +kernel
theorem dX10_init_25 : decode cX10_init 25 = .ok (.new 9, 3) := by decide +kernel
theorem dX10_init_28 : decode cX10_init 28 = .ok (.dup, 1) := by decide +kernel
theorem dX10_init_29 : decode cX10_init 29 = .ok (.invokespecial 15, 3) := by decide +kernel
theorem dX10_init_32 : decode cX10_init 32 = .ok (.putfield 20, 3) := by decide +kernel
theorem dX10_init_35 : decode cX10_init 35 = .ok (.aload_n 0, 1) := by decide +kernel
theorem dX10_init_36 : decode cX10_init 36 = .ok (.new 23, 3) := by decide +kernel
theorem dX10_init_39 : decode cX10_init 39 = .ok (.dup, 1) := by decide +kernel
theorem dX10_init_40 : decode cX10_init 40 = .ok (.invokespecial 25, 3) := by decide +kernel
theorem dX10_init_43 : decode cX10_init 43 = .ok (.putfield 26, 3) := by decide +kernel
theorem dX10_init_46 : decode cX10_init 46 = .ok (.aload_n 0, 1) := by decide +kernel
theorem dX10_init_47 : decode cX10_init 47 = .ok (.new 30, 3) := by decide +kernel
theorem dX10_init_50 : decode cX10_init 50 = .ok (.dup, 1) := by decide +kernel
theorem dX10_init_51 : decode cX10_init 51 = .ok (.invokespecial 32, 3) := by decide +kernel
theorem dX10_init_54 : decode cX10_init 54 = .ok (.putfield 33, 3) := by decide +kernel
theorem dX10_init_57 : decode cX10_init 57 = .ok (.aload_n 0, 1) := by decide +kernel
theorem dX10_init_58 : decode cX10_init 58 = .ok (.new 37, 3) := by decide +kernel
theorem dX10_init_61 : decode cX10_init 61 = .ok (.dup, 1) := by decide +kernel
theorem dX10_init_62 : decode cX10_init 62 = .ok (.invokespecial 39, 3) := by decide +kernel
theorem dX10_init_65 : decode cX10_init 65 = .ok (.putfield 40, 3) := by decide +kernel
theorem dX10_init_68 : decode cX10_init 68 = .ok (.aload_n 0, 1) := by decide +kernel
theorem dX10_init_69 : decode cX10_init 69 = .ok (.new 44, 3) := by decide +kernel
theorem dX10_init_72 : decode cX10_init 72 = .ok (.dup, 1) := by decide +kernel
theorem dX10_init_73 : decode cX10_init 73 = .ok (.invokespecial 46, 3) := by decide +kernel
theorem dX10_init_76 : decode cX10_init 76 = .ok (.putfield 47, 3) := by decide +kernel
theorem dX10_init_79 : decode cX10_init 79 = .ok (.aload_n 0, 1) := by decide +kernel
theorem dX10_init_80 : decode cX10_init 80 = .ok (.new 51, 3) := by decide +kernel
theorem dX10_init_83 : decode cX10_init 83 = .ok (.dup, 1) := by decide +kernel
theorem dX10_init_84 : decode cX10_init 84 = .ok (.invokespecial 53, 3) := by decide +kernel
theorem dX10_init_87 : decode cX10_init 87 = .ok (.putfield 54, 3) := by decide +kernel
theorem dX10_init_90 : decode cX10_init 90 = .ok (.aload_n 0, 1) := by decide +kernel
theorem dX10_init_91 : decode cX10_init 91 = .ok (.new 58, 3) := by decide +kernel
theorem dX10_init_94 : decode cX10_init 94 = .ok (.dup, 1) := by decide +kernel
theorem dX10_init_95 : decode cX10_init 95 = .ok (.invokespecial 60, 3) := by decide +kernel
theorem dX10_init_98 : decode cX10_init 98 = .ok (.putfield 61, 3) := by decide +kernel
theorem dX10_init_101 : decode cX10_init 101 = .ok (.aload_n 0, 1) := by decide +kernel
theorem dX10_init_102 : decode cX10_init 102 = .ok (.new 51, 3) := by decide +kernel
theorem dX10_init_105 : decode cX10_init 105 = .ok (.dup, 1) := by decide +kernel
theorem dX10_init_106 : decode cX10_init 106 = .ok (.invokespecial 53, 3) := by decide +kernel
theorem dX10_init_109 : decode cX10_init 109 = .ok (.putfield 65, 3) := by decide +kernel
theorem dX10_init_112 : decode cX10_init 112 = .ok (.aload_n 0, 1) := by decide +kernel
theorem dX10_init_113 : decode cX10_init 113 = .ok (.new 68, 3) := by decide +kernel
theorem dX10_init_116 : decode cX10_init 116 = .ok (.dup, 1) := by decide +kernel
theorem dX10_init_117 : decode cX10_init 117 = .ok (.invokespecial 70, 3) := by decide +kernel
theorem dX10_init_120 : decode cX10_init 120 = .ok (.putfield 71, 3) := by decide +kernel
theorem dX10_init_123 : decode cX10_init 123 = .ok (.aload_n 0, 1) := by decide +kernel
theorem dX10_init_124 : decode cX10_init 124 = .ok (.new 75, 3) := by decide +kernel
theorem dX10_init_127 : decode cX10_init 127 = .ok (.dup, 1) := by decide +kernel
theorem dX10_init_128 : decode cX10_init 128 = .ok (.invokespecial 77, 3) := by decide +kernel
theorem dX10_init_131 : decode cX10_init 131 = .ok (.putfield 78, 3) := by decide +kernel
theorem dX10_init_134 : decode cX10_init 134 = .ok (.aload_n 0, 1) := by decide +kernel
theorem dX10_init_135 : decode cX10_init 135 = .ok (.new 82, 3) := by decide +kernel
theorem dX10_init_138 : decode cX10_init 138 = .ok (.dup, 1) := by decide +kernel
theorem dX10_init_139 : decode cX10_init 139 = .ok (.invokespecial 84, 3) := by decide +kernel
theorem dX10_init_142 : decode cX10_init 142 = .ok (.putfield 85, 3) := by decide +kernel
theorem dX10_init_145 : decode cX10_init 145 = .ok (.aload_n 0, 1) := by decide +kernel
theorem dX10_init_146 : decode cX10_init 146 = .ok (.sipush 203, 3) := by decide +kernel
theorem dX10_init_149 : decode cX10_init 149 = .ok (.newarray .int, 2) := by decide +kernel
theorem dX10_init_151 : decode cX10_init 151 = .ok (.putfield 89, 3) := by decide +kernel
theorem dX10_init_154 : decode cX10_init 154 = .ok (.iconst 0, 1) := by decide +kernel
theorem dX10_init_155 : decode cX10_init 155 = .ok (.istore_n 1, 1) := by decide +kernel
theorem dX10_init_156 : decode cX10_init 156 = .ok (.iload_n 1, 1) := by decide +kernel
theorem dX10_init_157 : decode cX10_init 157 = .ok (.bipush 6, 2) := by decide +kernel
theorem dX10_init_159 : decode cX10_init 159 = .ok (.if_icmp .ge 22, 3) := by decide +kernel
theorem dX10_init_162 : decode cX10_init 162 = .ok (.aload_n 0, 1) := by decide +kernel
theorem dX10_init_163 : decode cX10_init 163 = .ok (.getfield 11, 3) := by decide +kernel
theorem dX10_init_166 : decode cX10_init 166 = .ok (.iload_n 1, 1) := by decide +kernel
theorem dX10_init_167 : decode cX10_init 167 = .ok (.new 9, 3) := by decide +kernel
theorem dX10_init_170 : decode cX10_init 170 = .ok (.dup, 1) := by decide +kernel
theorem dX10_init_171 : decode cX10_init 171 = .ok (.invokespecial 15, 3) := by decide +kernel
theorem dX10_init_174 : decode cX10_init 174 = .ok (.aastore, 1) := by decide +kernel
theorem dX10_init_175 : decode cX10_init 175 = .ok (.iinc 1 1, 3) := by decide +kernel
theorem dX10_init_178 : decode cX10_init 178 = .ok (.goto (-22), 3) := by decide +kernel
theorem dX10_init_181 : decode cX10_init 181 = .ok (.return_, 1) := by decide +kernel
theorem dX11_init_0 : decode cX11_init 0 = .ok (.aload_n 0, 1) := by decide +kernel
theorem dX11_init_1 : decode cX11_init 1 = .ok (.invokespecial 1, 3) := by decide +kernel
theorem dX11_init_4 : decode cX11_init 4 = .ok (.aload_n 0, 1) := by decide +kernel
theorem dX11_init_5 : decode cX11_init 5 = .ok (.iconst (-1), 1) := by decide +kernel
theorem dX11_init_6 : decode cX11_init 6 = .ok (.putfield 9, 3) := by decide +kernel
theorem dX11_init_9 : decode cX11_init 9 = .ok (.aload_n 0, 1) := by decide +kernel
theorem dX11_init_10 : decode cX11_init 10 = .ok (.sipush 700, 3) := by decide +kernel
theorem dX11_init_13 : decode cX11_init 13 = .ok (.newarray .int, 2) := by decide +kernel
theorem dX11_init_15 : decode cX11_init 15 = .ok (.putfield 13, 3) := by decide +kernel
theorem dX11_init_18 : decode cX11_init 18 = .ok (.aload_n 0, 1) := by decide +kernel
theorem dX11_init_19 : decode cX11_init 19 = .ok (.iconst 4, 1) := by decide +kernel
theorem dX11_init_20 : decode cX11_init 20 = .ok (.newarray .int, 2) := by decide +kernel
theorem dX11_init_22 : decode cX11_init 22 = .ok (.putfield 17, 3) := by decide +kernel
theorem dX11_init_25 : decode cX11_init 25 = .ok (.aload_n 0, 1) := by decide +kernel
theorem dX11_init_26 : decode cX11_init 26 = .ok (.iconst 4, 1) := by decide +kernel
theorem dX11_init_27 : decode cX11_init 27 = .ok (.newarray .int, 2) := by decide +kernel
theorem dX11_init_29 : decode cX11_init 29 = .ok (.putfield 20, 3) := by decide +kernel
theorem dX11_init_32 : decode cX11_init 32 = .ok (.aload_n 0, 1) := by decide +kernel
theorem dX11_init_33 : decode cX11_init 33 = .ok (.iconst 4, 1) := by decide +kernel
theorem dX11_init_34 : decode cX11_init 34 = .ok (.newarray .int, 2) := by decide +kernel
theorem dX11_init_36 : decode cX11_init 36 = .ok (.putfield 23, 3) := by decide +kernel
theorem dX11_init_39 : decode cX11_init 39 = .ok (.aload_n 0, 1) := by decide +kernel
theorem dX11_init_40 : decode cX11_init 40 = .ok (.iconst 4, 1) := by decide +kernel
theorem dX11_init_41 : decode cX11_init 41 = .ok (.newarray .int, 2) := by decide +kernel
theorem dX11_init_43 : decode cX11_init 43 = .ok (.putfield 26, 3) := by decide +kernel
theorem dX11_init_46 : decode cX11_init 46 = .ok (.aload_n 0, 1) := by decide +kernel
theorem dX11_init_47 : decode cX11_init 47 = .ok (.sipush 768, 3) := by decide +kernel
theorem dX11_init_50 : decode cX11_init 50 = .ok (.newarray .int, 2) := by decide +kernel
theorem dX11_init_52 : decode cX11_init 52 = .ok (.putfield 29, 3) := by decide +kernel
theorem dX11_init_55 : decode cX11_init 55 = .ok (.aload_n 0, 1) := by decide +kernel
theorem dX11_init_56 : decode cX11_init 56 = .ok (.bipush 64, 2) := by decide +kernel
theorem dX11_init_58 : decode cX11_init 58 = .ok (.newarray .int, 2) := by decide +kernel
theorem dX11_init_60 : decode cX11_init 60 = .ok (.putfield 32, 3) := by decide +kernel
theorem dX11_init_63 : decode cX11_init 63 = .ok (.aload_n 0, 1) := by decide +kernel
theorem dX11_init_64 : decode cX11_init 64 = .ok (.iconst 4, 1) := by decide +kernel
theorem dX11_init_65 : decode cX11_init 65 = .ok (.newarray .int, 2) := by decide +kernel
theorem dX11_init_67 : decode cX11_init 67 = .ok (.putfield 35, 3) := by decide +kernel
theorem dX11_init_70 : decode cX11_init 70 = .ok (.aload_n 0, 1) := by decide +kernel
theorem dX11_init_71 : decode cX11_init 71 = .ok (.sipush 1552, 3) := by decide +kernel
theorem dX11_init_74 : decode cX11_init 74 = .ok (.newarray .int, 2) := by decide +kernel
theorem dX11_init_76 : decode cX11_init 76 = .ok (.putfield 38, 3) := by decide +kernel
theorem dX11_init_79 : decode cX11_init 79 = .ok (.aload_n 0, 1) := by decide +kernel
theorem dX11_init_80 : decode cX11_init 80 = .ok (.sipush 11640, 3) := by decide +kernel
theorem dX11_init_83 : decode cX11_init 83 = .ok (.newarray .int, 2) := by decide +kernel
theorem dX11_init_85 : decode cX11_init 85 = .ok (.putfield 41, 3) := by decide +kernel
theorem dX11_init_88 : decode cX11_init 88 = .ok (.aload_n 0, 1) := by decide +kernel
theorem dX11_init_89 : decode cX11_init 89 = .ok (.ldc 44, 2) := by decide +kernel
theorem dX11_init_91 : decode cX11_init 91 = .ok (.newarray .long, 2) := by decide +kernel
theorem dX11_init_93 : decode cX11_init 93 = .ok (.putfield 45, 3) := by decide +kernel
theorem dX11_init_96 : decode cX11_init 96 = .ok (.aload_n 0, 1) := by decide +kernel
theorem dX11_init_97 : decode cX11_init 97 = .ok (.ldc 44, 2) := by decide +kernel
theorem dX11_init_99 : decode cX11_init 99 = .ok (.newarray .long, 2) := by decide +kernel
theorem dX11_init_101 : decode cX11_init 101 = .ok (.putfield 49, 3) := by decide +kernel
theorem dX11_init_104 : decode cX11_init 104 = .ok (.aload_n 0, 1) := by decide +kernel
theorem dX11_init_105 : decode cX11_init 105 = .ok (.sipush 17043, 3) := by decide +kernel
theorem dX11_init_108 : decode cX11_init 108 = .ok (.newarray .long, 2) := by decide +kernel
theorem dX11_init_110 : decode cX11_init 110 = .ok (.putfield 52, 3) := by decide +kernel
theorem dX11_init_113 : decode cX11_init 113 = .ok (.aload_n 0, 1) := by decide +kernel
theorem dX11_init_114 : decode cX11_init 114 = .ok (.sipush 17043, 3) := by decide +kernel
theorem dX11_init_117 : decode cX11_init 117 = .ok (.newarray .long, 2) := by decide +kernel
theorem dX11_init_119 : decode cX11_init 119 = .ok (.putfield 55, 3) := by decide +kernel
theorem dX11_init_122 : decode cX11_init 122 = .ok (.aload_n 0, 1) := by decide +kernel
theorem dX11_init_123 : decode cX11_init 123 = .ok (.iconst 2, 1) := by decide +kernel
theorem dX11_init_124 : decode cX11_init 124 = .ok (.newarray .int, 2) := by decide +kernel
theorem dX11_init_126 : decode cX11_init 126 = .ok (.putfield 58, 3) := by decide +kernel
theorem dX11_init_129 : decode cX11_init 129 = .ok (.aload_n 0, 1) := by decide +kernel
theorem dX11_init_130 : decode cX11_init 130 = .ok (.iconst 2, 1) := by decide +kernel
theorem dX11_init_131 : decode cX11_init 131 = .ok (.newarray .int, 2) := by decide +kernel
theorem dX11_init_133 : decode cX11_init 133 = .ok (.putfield 61, 3) := by decide +kernel
theorem dX11_init_136 : decode cX11_init 136 = .ok (.aload_n 0, 1) := by decide +kernel
theorem dX11_init_137 : decode cX11_init 137 = .ok (.bipush 6, 2) := by decide +kernel
theorem dX11_init_139 : decode cX11_init 139 = .ok (.newarray .int, 2) := by decide +kernel
theorem dX11_init_141 : decode cX11_init 141 = .ok (.putfield 64, 3) := by decide +kernel
theorem dX11_init_144 : decode cX11_init 144 = .ok (.aload_n 0, 1) := by decide +kernel
theorem dX11_init_145 : decode cX11_init 145 = .ok (.sipush 194, 3) := by decide +kernel
theorem dX11_init_148 : decode cX11_init 148 = .ok (.newarray .int, 2) := by decide +kernel
theorem dX11_init_150 : decode cX11_init 150 = .ok (.putfield 67, 3) := by decide +kernel
theorem dX11_init_153 : decode cX11_init 153 = .ok (.aload_n 0, 1) := by decide +kernel
theorem dX11_init_154 : decode cX11_init 154 = .ok (.sipush 192, 3) := by decide +kernel
theorem dX11_init_157 : decode cX11_init 157 = .ok (.newarray .int, 2) := by decide +kernel
theorem dX11_init_159 : decode cX11_init 159 = .ok (.putfield 70, 3) := by decide +kernel
theorem dX11_init_162 : decode cX11_init 162 = .ok (.aload_n 0, 1) := by decide +kernel
theorem dX11_init_163 : decode cX11_init 163 = .ok (.sipush 192, 3) := by decide +kernel
theorem dX11_init_166 : decode cX11_init 166 = .ok (.newarray .int, 2) := by decide +kernel
theorem dX11_init_168 : decode cX11_init 168 = .ok (.putfield 73, 3) := by decide +kernel
theorem dX11_init_171 : decode cX11_init 171 = .ok (.aload_n 0, 1) := by decide +kernel
theorem dX11_init_172 : decode cX11_init 172 = .ok (.sipush 192, 3) := by decide +kernel
theorem dX11_init_175 : decode cX11_init 175 = .ok (.newarray .int, 2) := by decide +kernel
theorem dX11_init_177 : decode cX11_init 177 = .ok (.putfield 76, 3) := by decide +kernel
theorem dX11_init_180 : decode cX11_init 180 = .ok (.aload_n 0, 1) := by decide +kernel
theorem dX11_init_181 : decode cX11_init 181 = .ok (.sipush 204, 3) := by decide +kernel
theorem dX11_init_184 : decode cX11_init 184 = .ok (.newarray .int, 2) := by decide +kernel
theorem dX11_init_186 : decode cX11_init 186 = .ok (.putfield 79, 3) := by decide +kernel
theorem dX11_init_189 : decode cX11_init 189 = .ok (.aload_n 0, 1) := by decide +kernel
theorem dX11_init_190 : decode cX11_init 190 = .ok (.sipush 384, 3) := by decide +kernel
theorem dX11_init_193 : decode cX11_init 193 = .ok (.newarray .int, 2) := by decide +kernel
theorem dX11_init_195 : decode cX11_init 195 = .ok (.putfield 82, 3) := by decide +kernel
theorem dX11_init_198 : decode cX11_init 198 = .ok (.return_, 1) := by decide +kernel
def M_X5_init : zMt := (yX5_init, cX5_init, 1, none, 0, 1, 12)
theorem mI_X5_init : zm_I M_X5_init := ⟨⟨zt_t 34 (by decide +kernel) rfl, zt_t 2 (by decide +kernel) rfl, by decide +kernel⟩, zt_t 33 (by decide +kernel) rfl, rfl, rfl, rfl⟩
def M_X2_init : zMt := (yX2_init, cX2_init, 1, none, 0, 1, 12)
theorem mI_X2_init : zm_I M_X2_init := ⟨⟨zt_t 130 (by decide +kernel) rfl, zt_t 6 (by decide +kernel) rfl, by decide +kernel⟩, zt_t 129 (by decide +kernel) rfl, rfl, rfl, rfl⟩
def M_X3_init : zMt := (yX3_init, cX3_init, 1, none, 0, 1, 12)
theorem mI_X3_init : zm_I M_X3_init := ⟨⟨zt_t 203 (by decide +kernel) rfl, zt_t 8 (by decide +kernel) rfl, by decide +kernel⟩, zt_t 202 (by decide +kernel) rfl, rfl, rfl, rfl⟩
def M_X4_init : zMt := (yX4_init, cX4_init, 1, none, 0, 1, 12)
theorem mI_X4_init : zm_I M_X4_init := ⟨⟨zt_t 256 (by decide +kernel) rfl, zt_t 11 (by decide +kernel) rfl, by decide +kernel⟩, zt_t 255 (by decide +kernel) rfl, rfl, rfl, rfl⟩
def M_X6_init : zMt := (yX6_init, cX6_init, 1, none, 0, 1, 12)
theorem mI_X6_init : zm_I M_X6_init := ⟨⟨zt_t 232 (by decide +kernel) rfl, zt_t 10 (by decide +kernel) rfl, by decide +kernel⟩, zt_t 231 (by decide +kernel) rfl, rfl, rfl, rfl⟩
def M_X7_init : zMt := (yX7_init, cX7_init, 1, none, 0, 1, 12)
theorem mI_X7_init : zm_I M_X7_init := ⟨⟨zt_t 214 (by decide +kernel) rfl, zt_t 9 (by decide +kernel) rfl, by decide +kernel⟩, zt_t 213 (by decide +kernel) rfl, rfl, rfl, rfl⟩
def M_X8_init : zMt := (yX8_init, cX8_init, 1, none, 0, 1, 12)
theorem mI_X8_init : zm_I M_X8_init := ⟨⟨zt_t 90 (by decide +kernel) rfl, zt_t 4 (by decide +kernel) rfl, by decide +kernel⟩, zt_t 89 (by decide +kernel) rfl, rfl, rfl, rfl⟩
def M_X1_init : zMt := (yX1_init, cX1_init, 1, none, 0, 2, 32)
theorem mI_X1_init : zm_I M_X1_init := ⟨⟨zt_t 163 (by decide +kernel) rfl, zt_t 7 (by decide +kernel) rfl, by decide +kernel⟩, zt_t 162 (by decide +kernel) rfl, rfl, rfl, rfl⟩
def M_X0_init : zMt := (yX0_init, cX0_init, 2, none, 0, 2, 32)
theorem mI_X0_init : zm_I M_X0_init := ⟨⟨zt_t 66 (by decide +kernel) rfl, zt_t 3 (by decide +kernel) rfl, by decide +kernel⟩, zt_t 65 (by decide +kernel) rfl, rfl, rfl, rfl⟩
def M_X9_init : zMt := (yX9_init, cX9_init, 2, none, 0, 2, 32)
theorem mI_X9_init : zm_I M_X9_init := ⟨⟨zt_t 123 (by decide +kernel) rfl, zt_t 5 (by decide +kernel) rfl, by decide +kernel⟩, zt_t 122 (by decide +kernel) rfl, rfl, rfl, rfl⟩
def M_X10_init : zMt := (yX10_init, cX10_init, 2, none, 0, 3, 53)
theorem mI_X10_init : zm_I M_X10_init := ⟨⟨zt_t 25 (by decide +kernel) rfl, zt_t 1 (by decide +kernel) rfl, by decide +kernel⟩, zt_t 24 (by decide +kernel) rfl, rfl, rfl, rfl⟩
def M_X11_init : zMt := (yX11_init, cX11_init, 1, none, 0, 1, 12)
theorem mI_X11_init : zm_I M_X11_init := ⟨⟨zt_t 1062 (by decide +kernel) rfl, zt_t 12 (by decide +kernel) rfl, by decide +kernel⟩, zt_t 1061 (by decide +kernel) rfl, rfl, rfl, rfl⟩
theorem ob_X10_3 : Cond.methodLink RX10 3 Lib.objectInit ∈ zt_tbl := zt_t 26 (by decide +kernel) rfl
theorem ob_X0_3 : Cond.methodLink RX0 3 Lib.objectInit ∈ zt_tbl := zt_t 67 (by decide +kernel) rfl
theorem ob_X1_3 : Cond.methodLink RX1 3 Lib.objectInit ∈ zt_tbl := zt_t 164 (by decide +kernel) rfl
theorem ob_X2_3 : Cond.methodLink RX2 3 Lib.objectInit ∈ zt_tbl := zt_t 131 (by decide +kernel) rfl
theorem ob_X3_3 : Cond.methodLink RX3 3 Lib.objectInit ∈ zt_tbl := zt_t 204 (by decide +kernel) rfl
theorem ob_X4_3 : Cond.methodLink RX4 3 Lib.objectInit ∈ zt_tbl := zt_t 257 (by decide +kernel) rfl
theorem ob_X5_3 : Cond.methodLink RX5 3 Lib.objectInit ∈ zt_tbl := zt_t 35 (by decide +kernel) rfl
theorem ob_X6_3 : Cond.methodLink RX6 3 Lib.objectInit ∈ zt_tbl := zt_t 233 (by decide +kernel) rfl
theorem ob_X7_3 : Cond.methodLink RX7 3 Lib.objectInit ∈ zt_tbl := zt_t 215 (by decide +kernel) rfl
theorem ob_X8_3 : Cond.methodLink RX8 3 Lib.objectInit ∈ zt_tbl := zt_t 91 (by decide +kernel) rfl
theorem ob_X9_3 : Cond.methodLink RX9 3 Lib.objectInit ∈ zt_tbl := zt_t 124 (by decide +kernel) rfl
theorem ob_X11_1 : Cond.methodLink RX11 1 Lib.objectInit ∈ zt_tbl := zt_t 1063 (by decide +kernel) rfl
theorem mi_X10_15 : zml RX10 15 M_X5_init := Or.inr ⟨"ShadeGrid", zn_t 32 (by decide +kernel) rfl⟩
theorem mi_X10_25 : zml RX10 25 M_X0_init := Or.inl (zt_t 64 (by decide +kernel) rfl)
theorem mi_X10_32 : zml RX10 32 M_X8_init := Or.inr ⟨"ShadeGrid", zn_t 88 (by decide +kernel) rfl⟩
theorem mi_X10_39 : zml RX10 39 M_X9_init := Or.inl (zt_t 121 (by decide +kernel) rfl)
theorem mi_X10_46 : zml RX10 46 M_X2_init := Or.inr ⟨"ShadeGrid", zn_t 158 (by decide +kernel) rfl⟩
theorem mi_X10_53 : zml RX10 53 M_X1_init := Or.inr ⟨"ShadeGrid", zn_t 161 (by decide +kernel) rfl⟩
theorem mi_X10_60 : zml RX10 60 M_X3_init := Or.inr ⟨"ShadeGrid", zn_t 201 (by decide +kernel) rfl⟩
theorem mi_X10_70 : zml RX10 70 M_X7_init := Or.inr ⟨"ShadeGrid", zn_t 212 (by decide +kernel) rfl⟩
theorem mi_X10_77 : zml RX10 77 M_X6_init := Or.inr ⟨"ShadeGrid", zn_t 230 (by decide +kernel) rfl⟩
theorem mi_X10_84 : zml RX10 84 M_X4_init := Or.inr ⟨"ShadeGrid", zn_t 254 (by decide +kernel) rfl⟩
theorem mi_X0_21 : zml RX0 21 M_X5_init := Or.inr ⟨"ShadeGrid", zn_t 69 (by decide +kernel) rfl⟩
theorem mi_X1_11 : zml RX1 11 M_X5_init := Or.inr ⟨"ShadeGrid", zn_t 166 (by decide +kernel) rfl⟩
theorem mi_X9_19 : zml RX9 19 M_X2_init := Or.inr ⟨"ShadeGrid", zn_t 128 (by decide +kernel) rfl⟩
theorem mi_X9_24 : zml RX9 24 M_X5_init := Or.inr ⟨"ShadeGrid", zn_t 144 (by decide +kernel) rfl⟩
theorem an_X10_9 : Cond.classLink RX10 9 "ShadeGrid$Picture" ∈ zt_tbl := zt_t 29 (by decide +kernel) rfl
theorem an_X0_9 : Cond.classLink RX0 9 "ShadeGrid$Picture" ∈ zt_tbl := zt_t 68 (by decide +kernel) rfl
theorem an_X9_9 : Cond.classLink RX9 9 "ShadeGrid$Picture" ∈ zt_tbl := zt_t 125 (by decide +kernel) rfl
theorem df_X0 : ∀ j, j < 4 → defaultValue (tyX0 j) = vp_V (z_fs (fun _ => 0) (fun _ => 0) (fun _ => none) 0 (zk_f 0)) j := by decide +kernel
theorem df_X1 : ∀ j, j < 9 → defaultValue (tyX1 j) = vp_V (z_fs (fun _ => 0) (fun _ => 0) (fun _ => none) 0 (zk_f 1)) j := by decide +kernel
theorem df_X2 : ∀ j, j < 3 → defaultValue (tyX2 j) = vp_V (z_fs (fun _ => 0) (fun _ => 0) (fun _ => none) 0 (zk_f 2)) j := by decide +kernel
theorem df_X3 : ∀ j, j < 1 → defaultValue (tyX3 j) = vp_V (z_fs (fun _ => 0) (fun _ => 0) (fun _ => none) 0 (zk_f 3)) j := by decide +kernel
theorem df_X4 : ∀ j, j < 5 → defaultValue (tyX4 j) = vp_V (z_fs (fun _ => 0) (fun _ => 0) (fun _ => none) 0 (zk_f 4)) j := by decide +kernel
theorem df_X5 : ∀ j, j < 3 → defaultValue (tyX5 j) = vp_V (z_fs (fun _ => 0) (fun _ => 0) (fun _ => none) 0 (zk_f 5)) j := by decide +kernel
theorem df_X6 : ∀ j, j < 5 → defaultValue (tyX6 j) = vp_V (z_fs (fun _ => 0) (fun _ => 0) (fun _ => none) 0 (zk_f 6)) j := by decide +kernel
theorem df_X7 : ∀ j, j < 3 → defaultValue (tyX7 j) = vp_V (z_fs (fun _ => 0) (fun _ => 0) (fun _ => none) 0 (zk_f 7)) j := by decide +kernel
theorem df_X8 : ∀ j, j < 7 → defaultValue (tyX8 j) = vp_V (z_fs (fun _ => 0) (fun _ => 0) (fun _ => none) 0 (zk_f 8)) j := by decide +kernel
theorem df_X9 : ∀ j, j < 3 → defaultValue (tyX9 j) = vp_V (z_fs (fun _ => 0) (fun _ => 0) (fun _ => none) 0 (zk_f 9)) j := by decide +kernel
theorem df_X10 : ∀ j, j < 18 → defaultValue (tyX10 j) = vp_V (z_fs (fun _ => 0) (fun _ => 0) (fun _ => none) 0 (zk_f 10)) j := by decide +kernel
theorem df_X11 : ∀ j, j < 47 → defaultValue (tyX11 j) = vp_V (z_fs (fun _ => 0) (fun _ => 0) (fun _ => none) 0 (zk_f 11)) j := by decide +kernel
theorem nw_X10_9 : zknew RX10 9 5 3 := ⟨RX5, TX5, tyX5, rfl, zcX5.2.1, tyX5_ok, zt_t 29 (by decide +kernel) rfl, zt_t 31 (by decide +kernel) rfl, zt_t 2 (by decide +kernel) rfl, df_X5⟩
theorem nw_X10_23 : zknew RX10 23 0 4 := ⟨RX0, TX0, tyX0, rfl, zcX0.2.1, tyX0_ok, zt_t 62 (by decide +kernel) rfl, zt_t 63 (by decide +kernel) rfl, zt_t 3 (by decide +kernel) rfl, df_X0⟩
theorem nw_X10_30 : zknew RX10 30 8 7 := ⟨RX8, TX8, tyX8, rfl, zcX8.2.1, tyX8_ok, zt_t 86 (by decide +kernel) rfl, zt_t 87 (by decide +kernel) rfl, zt_t 4 (by decide +kernel) rfl, df_X8⟩
theorem nw_X10_37 : zknew RX10 37 9 3 := ⟨RX9, TX9, tyX9, rfl, zcX9.2.1, tyX9_ok, zt_t 119 (by decide +kernel) rfl, zt_t 120 (by decide +kernel) rfl, zt_t 5 (by decide +kernel) rfl, df_X9⟩
theorem nw_X10_44 : zknew RX10 44 2 3 := ⟨RX2, TX2, tyX2, rfl, zcX2.2.1, tyX2_ok, zt_t 157 (by decide +kernel) rfl, zt_t 127 (by decide +kernel) rfl, zt_t 6 (by decide +kernel) rfl, df_X2⟩
theorem nw_X10_51 : zknew RX10 51 1 9 := ⟨RX1, TX1, tyX1, rfl, zcX1.2.1, tyX1_ok, zt_t 159 (by decide +kernel) rfl, zt_t 160 (by decide +kernel) rfl, zt_t 7 (by decide +kernel) rfl, df_X1⟩
theorem nw_X10_58 : zknew RX10 58 3 1 := ⟨RX3, TX3, tyX3, rfl, zcX3.2.1, tyX3_ok, zt_t 199 (by decide +kernel) rfl, zt_t 200 (by decide +kernel) rfl, zt_t 8 (by decide +kernel) rfl, df_X3⟩
theorem nw_X10_68 : zknew RX10 68 7 3 := ⟨RX7, TX7, tyX7, rfl, zcX7.2.1, tyX7_ok, zt_t 210 (by decide +kernel) rfl, zt_t 211 (by decide +kernel) rfl, zt_t 9 (by decide +kernel) rfl, df_X7⟩
theorem nw_X10_75 : zknew RX10 75 6 5 := ⟨RX6, TX6, tyX6, rfl, zcX6.2.1, tyX6_ok, zt_t 228 (by decide +kernel) rfl, zt_t 229 (by decide +kernel) rfl, zt_t 10 (by decide +kernel) rfl, df_X6⟩
theorem nw_X10_82 : zknew RX10 82 4 5 := ⟨RX4, TX4, tyX4, rfl, zcX4.2.1, tyX4_ok, zt_t 252 (by decide +kernel) rfl, zt_t 253 (by decide +kernel) rfl, zt_t 11 (by decide +kernel) rfl, df_X4⟩
theorem nw_X0_9 : zknew RX0 9 5 3 := ⟨RX5, TX5, tyX5, rfl, zcX5.2.1, tyX5_ok, zt_t 68 (by decide +kernel) rfl, zt_t 31 (by decide +kernel) rfl, zt_t 2 (by decide +kernel) rfl, df_X5⟩
theorem nw_X1_9 : zknew RX1 9 5 3 := ⟨RX5, TX5, tyX5, rfl, zcX5.2.1, tyX5_ok, zt_t 165 (by decide +kernel) rfl, zt_t 31 (by decide +kernel) rfl, zt_t 2 (by decide +kernel) rfl, df_X5⟩
theorem nw_X9_9 : zknew RX9 9 5 3 := ⟨RX5, TX5, tyX5, rfl, zcX5.2.1, tyX5_ok, zt_t 125 (by decide +kernel) rfl, zt_t 31 (by decide +kernel) rfl, zt_t 2 (by decide +kernel) rfl, df_X5⟩
theorem nw_X9_17 : zknew RX9 17 2 3 := ⟨RX2, TX2, tyX2, rfl, zcX2.2.1, tyX2_ok, zt_t 126 (by decide +kernel) rfl, zt_t 127 (by decide +kernel) rfl, zt_t 6 (by decide +kernel) rfl, df_X2⟩
theorem ff_X10_11 : zff RX10 11 10 0 := ⟨by decide, rfl, RX10, TX10, 18, (.array (.object "ShadeGrid$Picture")), zcX10, by decide, zt_t 278 (by decide +kernel) rfl, rfl, rfl, by decide +kernel, fun _ => ⟨rfl, rfl⟩⟩ -- pictures
theorem ff_X10_16 : zff RX10 16 10 1 := ⟨by decide, rfl, RX10, TX10, 18, (.object "ShadeGrid$Picture"), zcX10, by decide, zt_t 279 (by decide +kernel) rfl, rfl, rfl, by decide +kernel, fun _ => ⟨rfl, rfl⟩⟩ -- work
theorem ff_X10_20 : zff RX10 20 10 2 := ⟨by decide, rfl, RX10, TX10, 18, (.object "ShadeGrid$Picture"), zcX10, by decide, zt_t 280 (by decide +kernel) rfl, rfl, rfl, by decide +kernel, fun _ => ⟨rfl, rfl⟩⟩ -- ahead
theorem ff_X10_26 : zff RX10 26 10 3 := ⟨by decide, rfl, RX10, TX10, 18, (.object "ShadeGrid$History"), zcX10, by decide, zt_t 281 (by decide +kernel) rfl, rfl, rfl, by decide +kernel, fun _ => ⟨rfl, rfl⟩⟩ -- history
theorem ff_X10_33 : zff RX10 33 10 4 := ⟨by decide, rfl, RX10, TX10, 18, (.object "ShadeGrid$Tape"), zcX10, by decide, zt_t 282 (by decide +kernel) rfl, rfl, rfl, by decide +kernel, fun _ => ⟨rfl, rfl⟩⟩ -- tape
theorem ff_X10_40 : zff RX10 40 10 5 := ⟨by decide, rfl, RX10, TX10, 18, (.object "ShadeGrid$TextReader"), zcX10, by decide, zt_t 283 (by decide +kernel) rfl, rfl, rfl, by decide +kernel, fun _ => ⟨rfl, rfl⟩⟩ -- reader
theorem ff_X10_47 : zff RX10 47 10 6 := ⟨by decide, rfl, RX10, TX10, 18, (.object "ShadeGrid$Names"), zcX10, by decide, zt_t 284 (by decide +kernel) rfl, rfl, rfl, by decide +kernel, fun _ => ⟨rfl, rfl⟩⟩ -- names
theorem ff_X10_54 : zff RX10 54 10 7 := ⟨by decide, rfl, RX10, TX10, 18, (.object "ShadeGrid$Lattice"), zcX10, by decide, zt_t 285 (by decide +kernel) rfl, rfl, rfl, by decide +kernel, fun _ => ⟨rfl, rfl⟩⟩ -- lattice
theorem ff_X10_61 : zff RX10 61 10 8 := ⟨by decide, rfl, RX10, TX10, 18, (.object "ShadeGrid$NodeSet"), zcX10, by decide, zt_t 286 (by decide +kernel) rfl, rfl, rfl, by decide +kernel, fun _ => ⟨rfl, rfl⟩⟩ -- nodes
theorem ff_X10_65 : zff RX10 65 10 9 := ⟨by decide, rfl, RX10, TX10, 18, (.object "ShadeGrid$Lattice"), zcX10, by decide, zt_t 287 (by decide +kernel) rfl, rfl, rfl, by decide +kernel, fun _ => ⟨rfl, rfl⟩⟩ -- smoother
theorem ff_X10_71 : zff RX10 71 10 10 := ⟨by decide, rfl, RX10, TX10, 18, (.object "ShadeGrid$Tally"), zcX10, by decide, zt_t 288 (by decide +kernel) rfl, rfl, rfl, by decide +kernel, fun _ => ⟨rfl, rfl⟩⟩ -- tally
theorem ff_X10_78 : zff RX10 78 10 11 := ⟨by decide, rfl, RX10, TX10, 18, (.object "ShadeGrid$Regions"), zcX10, by decide, zt_t 289 (by decide +kernel) rfl, rfl, rfl, by decide +kernel, fun _ => ⟨rfl, rfl⟩⟩ -- areas
theorem ff_X10_85 : zff RX10 85 10 12 := ⟨by decide, rfl, RX10, TX10, 18, (.object "ShadeGrid$Pairs"), zcX10, by decide, zt_t 290 (by decide +kernel) rfl, rfl, rfl, by decide +kernel, fun _ => ⟨rfl, rfl⟩⟩ -- couples
theorem ff_X10_89 : zff RX10 89 10 13 := ⟨by decide, rfl, RX10, TX10, 18, (.array .int), zcX10, by decide, zt_t 291 (by decide +kernel) rfl, rfl, rfl, by decide +kernel, fun _ => ⟨rfl, rfl⟩⟩ -- written
theorem ff_X0_11 : zff RX0 11 0 0 := ⟨by decide, rfl, RX0, TX0, 4, (.array (.object "ShadeGrid$Picture")), zcX0, by decide, zt_t 70 (by decide +kernel) rfl, rfl, rfl, by decide +kernel, fun _ => ⟨rfl, rfl⟩⟩ -- before
theorem ff_X0_17 : zff RX0 17 0 1 := ⟨by decide, rfl, RX0, TX0, 4, (.array .int), zcX0, by decide, zt_t 72 (by decide +kernel) rfl, rfl, rfl, by decide +kernel, fun _ => ⟨rfl, rfl⟩⟩ -- places
theorem ff_X1_12 : zff RX1 12 1 0 := ⟨by decide, rfl, RX1, TX1, 9, (.object "ShadeGrid$Picture"), zcX1, by decide, zt_t 167 (by decide +kernel) rfl, rfl, rfl, by decide +kernel, fun _ => ⟨rfl, rfl⟩⟩ -- picture
theorem ff_X1_18 : zff RX1 18 1 1 := ⟨by decide, rfl, RX1, TX1, 9, (.object "ShadeGrid$Picture"), zcX1, by decide, zt_t 168 (by decide +kernel) rfl, rfl, rfl, by decide +kernel, fun _ => ⟨rfl, rfl⟩⟩ -- guide
theorem ff_X1_21 : zff RX1 21 1 2 := ⟨by decide, rfl, RX1, TX1, 9, (.array .int), zcX1, by decide, zt_t 169 (by decide +kernel) rfl, rfl, rfl, by decide +kernel, fun _ => ⟨rfl, rfl⟩⟩ -- blurs
theorem ff_X1_25 : zff RX1 25 1 3 := ⟨by decide, rfl, RX1, TX1, 9, (.array .int), zcX1, by decide, zt_t 170 (by decide +kernel) rfl, rfl, rfl, by decide +kernel, fun _ => ⟨rfl, rfl⟩⟩ -- bondsAcross
theorem ff_X1_28 : zff RX1 28 1 4 := ⟨by decide, rfl, RX1, TX1, 9, (.array .int), zcX1, by decide, zt_t 171 (by decide +kernel) rfl, rfl, rfl, by decide +kernel, fun _ => ⟨rfl, rfl⟩⟩ -- bondsDown
theorem ff_X2_9 : zff RX2 9 2 0 := ⟨by decide, rfl, RX2, TX2, 3, (.array .int), zcX2, by decide, zt_t 132 (by decide +kernel) rfl, rfl, rfl, by decide +kernel, fun _ => ⟨rfl, rfl⟩⟩ -- letters
theorem ff_X2_15 : zff RX2 15 2 1 := ⟨by decide, rfl, RX2, TX2, 3, (.array .int), zcX2, by decide, zt_t 133 (by decide +kernel) rfl, rfl, rfl, by decide +kernel, fun _ => ⟨rfl, rfl⟩⟩ -- lengths
theorem ff_X3_11 : zff RX3 11 3 0 := ⟨by decide, rfl, RX3, TX3, 1, (.array .long), zcX3, by decide, zt_t 205 (by decide +kernel) rfl, rfl, rfl, by decide +kernel, fun _ => ⟨rfl, rfl⟩⟩ -- columns
theorem ff_X4_11 : zff RX4 11 4 0 := ⟨by decide, rfl, RX4, TX4, 5, (.array .int), zcX4, by decide, zt_t 258 (by decide +kernel) rfl, rfl, rfl, by decide +kernel, fun _ => ⟨rfl, rfl⟩⟩ -- codes
theorem ff_X5_9 : zff RX5 9 5 0 := ⟨by decide, rfl, RX5, TX5, 3, (.array .int), zcX5, by decide, zt_t 36 (by decide +kernel) rfl, rfl, rfl, by decide +kernel, fun _ => ⟨rfl, rfl⟩⟩ -- shades
theorem ff_X6_9 : zff RX6 9 6 0 := ⟨by decide, rfl, RX6, TX6, 5, (.array .int), zcX6, by decide, zt_t 234 (by decide +kernel) rfl, rfl, rfl, by decide +kernel, fun _ => ⟨rfl, rfl⟩⟩ -- numbers
theorem ff_X6_15 : zff RX6 15 6 1 := ⟨by decide, rfl, RX6, TX6, 5, (.array .int), zcX6, by decide, zt_t 236 (by decide +kernel) rfl, rfl, rfl, by decide +kernel, fun _ => ⟨rfl, rfl⟩⟩ -- queueX
theorem ff_X6_18 : zff RX6 18 6 2 := ⟨by decide, rfl, RX6, TX6, 5, (.array .int), zcX6, by decide, zt_t 237 (by decide +kernel) rfl, rfl, rfl, by decide +kernel, fun _ => ⟨rfl, rfl⟩⟩ -- queueY
theorem ff_X7_9 : zff RX7 9 7 0 := ⟨by decide, rfl, RX7, TX7, 3, (.array .int), zcX7, by decide, zt_t 216 (by decide +kernel) rfl, rfl, rfl, by decide +kernel, fun _ => ⟨rfl, rfl⟩⟩ -- times
theorem ff_X8_9 : zff RX8 9 8 0 := ⟨by decide, rfl, RX8, TX8, 7, (.array .int), zcX8, by decide, zt_t 92 (by decide +kernel) rfl, rfl, rfl, by decide +kernel, fun _ => ⟨rfl, rfl⟩⟩ -- content
theorem ff_X9_11 : zff RX9 11 9 0 := ⟨by decide, rfl, RX9, TX9, 3, (.array (.object "ShadeGrid$Picture")), zcX9, by decide, zt_t 145 (by decide +kernel) rfl, rfl, rfl, by decide +kernel, fun _ => ⟨rfl, rfl⟩⟩ -- pictures
theorem ff_X9_20 : zff RX9 20 9 1 := ⟨by decide, rfl, RX9, TX9, 3, (.object "ShadeGrid$Names"), zcX9, by decide, zt_t 147 (by decide +kernel) rfl, rfl, rfl, by decide +kernel, fun _ => ⟨rfl, rfl⟩⟩ -- names
theorem ff_X11_13 : zff RX11 13 11 3 := ⟨by decide, rfl, RX11, TX11, 47, (.array .int), zcX11, by decide, zt_t 1068 (by decide +kernel) rfl, rfl, rfl, by decide +kernel, fun _ => ⟨rfl, rfl⟩⟩ -- tape
theorem ff_X11_17 : zff RX11 17 11 12 := ⟨by decide, rfl, RX11, TX11, 47, (.array .int), zcX11, by decide, zt_t 1077 (by decide +kernel) rfl, rfl, rfl, by decide +kernel, fun _ => ⟨rfl, rfl⟩⟩ -- nameAt
theorem ff_X11_20 : zff RX11 20 11 13 := ⟨by decide, rfl, RX11, TX11, 47, (.array .int), zcX11, by decide, zt_t 1078 (by decide +kernel) rfl, rfl, rfl, by decide +kernel, fun _ => ⟨rfl, rfl⟩⟩ -- nameLong
theorem ff_X11_23 : zff RX11 23 11 14 := ⟨by decide, rfl, RX11, TX11, 47, (.array .int), zcX11, by decide, zt_t 1079 (by decide +kernel) rfl, rfl, rfl, by decide +kernel, fun _ => ⟨rfl, rfl⟩⟩ -- readWide
theorem ff_X11_26 : zff RX11 26 11 15 := ⟨by decide, rfl, RX11, TX11, 47, (.array .int), zcX11, by decide, zt_t 1080 (by decide +kernel) rfl, rfl, rfl, by decide +kernel, fun _ => ⟨rfl, rfl⟩⟩ -- readHigh
theorem ff_X11_29 : zff RX11 29 11 16 := ⟨by decide, rfl, RX11, TX11, 47, (.array .int), zcX11, by decide, zt_t 1081 (by decide +kernel) rfl, rfl, rfl, by decide +kernel, fun _ => ⟨rfl, rfl⟩⟩ -- readDot
theorem ff_X11_32 : zff RX11 32 11 17 := ⟨by decide, rfl, RX11, TX11, 47, (.array .int), zcX11, by decide, zt_t 1082 (by decide +kernel) rfl, rfl, rfl, by decide +kernel, fun _ => ⟨rfl, rfl⟩⟩ -- name
theorem ff_X11_35 : zff RX11 35 11 18 := ⟨by decide, rfl, RX11, TX11, 47, (.array .int), zcX11, by decide, zt_t 1083 (by decide +kernel) rfl, rfl, rfl, by decide +kernel, fun _ => ⟨rfl, rfl⟩⟩ -- nameMany
theorem ff_X11_38 : zff RX11 38 11 21 := ⟨by decide, rfl, RX11, TX11, 47, (.array .int), zcX11, by decide, zt_t 1086 (by decide +kernel) rfl, rfl, rfl, by decide +kernel, fun _ => ⟨rfl, rfl⟩⟩ -- now
theorem ff_X11_41 : zff RX11 41 11 22 := ⟨by decide, rfl, RX11, TX11, 47, (.array .int), zcX11, by decide, zt_t 1087 (by decide +kernel) rfl, rfl, rfl, by decide +kernel, fun _ => ⟨rfl, rfl⟩⟩ -- past
theorem ff_X11_45 : zff RX11 45 11 24 := ⟨by decide, rfl, RX11, TX11, 47, (.array .long), zcX11, by decide, zt_t 1089 (by decide +kernel) rfl, rfl, rfl, by decide +kernel, fun _ => ⟨rfl, rfl⟩⟩ -- weight
theorem ff_X11_49 : zff RX11 49 11 25 := ⟨by decide, rfl, RX11, TX11, 47, (.array .long), zcX11, by decide, zt_t 1090 (by decide +kernel) rfl, rfl, rfl, by decide +kernel, fun _ => ⟨rfl, rfl⟩⟩ -- sum
theorem ff_X11_52 : zff RX11 52 11 26 := ⟨by decide, rfl, RX11, TX11, 47, (.array .long), zcX11, by decide, zt_t 1091 (by decide +kernel) rfl, rfl, rfl, by decide +kernel, fun _ => ⟨rfl, rfl⟩⟩ -- wasWeight
theorem ff_X11_55 : zff RX11 55 11 27 := ⟨by decide, rfl, RX11, TX11, 47, (.array .long), zcX11, by decide, zt_t 1092 (by decide +kernel) rfl, rfl, rfl, by decide +kernel, fun _ => ⟨rfl, rfl⟩⟩ -- wasSum
theorem ff_X11_58 : zff RX11 58 11 28 := ⟨by decide, rfl, RX11, TX11, 47, (.array .int), zcX11, by decide, zt_t 1093 (by decide +kernel) rfl, rfl, rfl, by decide +kernel, fun _ => ⟨rfl, rfl⟩⟩ -- step
theorem ff_X11_61 : zff RX11 61 11 29 := ⟨by decide, rfl, RX11, TX11, 47, (.array .int), zcX11, by decide, zt_t 1094 (by decide +kernel) rfl, rfl, rfl, by decide +kernel, fun _ => ⟨rfl, rfl⟩⟩ -- range
theorem ff_X11_64 : zff RX11 64 11 30 := ⟨by decide, rfl, RX11, TX11, 47, (.array .int), zcX11, by decide, zt_t 1095 (by decide +kernel) rfl, rfl, rfl, by decide +kernel, fun _ => ⟨rfl, rfl⟩⟩ -- blurred
theorem ff_X11_67 : zff RX11 67 11 31 := ⟨by decide, rfl, RX11, TX11, 47, (.array .int), zcX11, by decide, zt_t 1096 (by decide +kernel) rfl, rfl, rfl, by decide +kernel, fun _ => ⟨rfl, rfl⟩⟩ -- guided
theorem ff_X11_70 : zff RX11 70 11 39 := ⟨by decide, rfl, RX11, TX11, 47, (.array .int), zcX11, by decide, zt_t 1104 (by decide +kernel) rfl, rfl, rfl, by decide +kernel, fun _ => ⟨rfl, rfl⟩⟩ -- sorted
theorem ff_X11_73 : zff RX11 73 11 41 := ⟨by decide, rfl, RX11, TX11, 47, (.array .int), zcX11, by decide, zt_t 1106 (by decide +kernel) rfl, rfl, rfl, by decide +kernel, fun _ => ⟨rfl, rfl⟩⟩ -- regionOf
theorem ff_X11_76 : zff RX11 76 11 42 := ⟨by decide, rfl, RX11, TX11, 47, (.array .int), zcX11, by decide, zt_t 1107 (by decide +kernel) rfl, rfl, rfl, by decide +kernel, fun _ => ⟨rfl, rfl⟩⟩ -- queue
theorem ff_X11_79 : zff RX11 79 11 43 := ⟨by decide, rfl, RX11, TX11, 47, (.array .int), zcX11, by decide, zt_t 1108 (by decide +kernel) rfl, rfl, rfl, by decide +kernel, fun _ => ⟨rfl, rfl⟩⟩ -- ink
theorem ff_X11_82 : zff RX11 82 11 45 := ⟨by decide, rfl, RX11, TX11, 47, (.array .int), zcX11, by decide, zt_t 1110 (by decide +kernel) rfl, rfl, rfl, by decide +kernel, fun _ => ⟨rfl, rfl⟩⟩ -- pair
theorem fi_X11_9 : zfp RX11 9 11 2 0 .int := ⟨by decide, rfl, RX11, TX11, 47, zcX11, by decide, Or.inl (zt_t 1067 (by decide +kernel) rfl), rfl, by decide +kernel⟩ -- wrongAt
