theorem dJ13_bitCount_95d88_0 : decode cJ13_bitCount_95d88 0 = .ok (.lload_n 0, 1) := by decide +kernel
theorem dJ13_bitCount_95d88_1 : decode cJ13_bitCount_95d88 1 = .ok (.lload_n 0, 1) := by decide +kernel
theorem dJ13_bitCount_95d88_2 : decode cJ13_bitCount_95d88 2 = .ok (.iconst 1, 1) := by decide +kernel
theorem dJ13_bitCount_95d88_3 : decode cJ13_bitCount_95d88 3 = .ok (.lushr, 1) := by decide +kernel
theorem dJ13_bitCount_95d88_4 : decode cJ13_bitCount_95d88 4 = .ok (.ldc2_w 314, 3) := by decide +kernel
theorem dJ13_bitCount_95d88_7 : decode cJ13_bitCount_95d88 7 = .ok (.land, 1) := by decide +kernel
theorem dJ13_bitCount_95d88_8 : decode cJ13_bitCount_95d88 8 = .ok (.lsub, 1) := by decide +kernel
theorem dJ13_bitCount_95d88_9 : decode cJ13_bitCount_95d88 9 = .ok (.lstore_n 0, 1) := by decide +kernel
theorem dJ13_bitCount_95d88_10 : decode cJ13_bitCount_95d88 10 = .ok (.lload_n 0, 1) := by decide +kernel
theorem dJ13_bitCount_95d88_11 : decode cJ13_bitCount_95d88 11 = .ok (.ldc2_w 316, 3) := by decide +kernel
theorem dJ13_bitCount_95d88_14 : decode cJ13_bitCount_95d88 14 = .ok (.land, 1) := by decide +kernel
theorem dJ13_bitCount_95d88_15 : decode cJ13_bitCount_95d88 15 = .ok (.lload_n 0, 1) := by decide +kernel
theorem dJ13_bitCount_95d88_16 : decode cJ13_bitCount_95d88 16 = .ok (.iconst 2, 1) := by decide +kernel
theorem dJ13_bitCount_95d88_17 : decode cJ13_bitCount_95d88 17 = .ok (.lushr, 1) := by decide +kernel
theorem dJ13_bitCount_95d88_18 : decode cJ13_bitCount_95d88 18 = .ok (.ldc2_w 316, 3) := by decide +kernel
theorem dJ13_bitCount_95d88_21 : decode cJ13_bitCount_95d88 21 = .ok (.land, 1) := by decide +kernel
theorem dJ13_bitCount_95d88_22 : decode cJ13_bitCount_95d88 22 = .ok (.ladd, 1) := by decide +kernel
theorem dJ13_bitCount_95d88_23 : decode cJ13_bitCount_95d88 23 = .ok (.lstore_n 0, 1) := by decide +kernel
theorem dJ13_bitCount_95d88_24 : decode cJ13_bitCount_95d88 24 = .ok (.lload_n 0, 1) := by decide +kernel
theorem dJ13_bitCount_95d88_25 : decode cJ13_bitCount_95d88 25 = .ok (.lload_n 0, 1) := by decide +kernel
theorem dJ13_bitCount_95d88_26 : decode cJ13_bitCount_95d88 26 = .ok (.iconst 4, 1) := by decide +kernel
theorem dJ13_bitCount_95d88_27 : decode cJ13_bitCount_95d88 27 = .ok (.lushr, 1) := by decide +kernel
theorem dJ13_bitCount_95d88_28 : decode cJ13_bitCount_95d88 28 = .ok (.ladd, 1) := by decide +kernel
theorem dJ13_bitCount_95d88_29 : decode cJ13_bitCount_95d88 29 = .ok (.ldc2_w 318, 3) := by decide +kernel
theorem dJ13_bitCount_95d88_32 : decode cJ13_bitCount_95d88 32 = .ok (.land, 1) := by decide +kernel
theorem dJ13_bitCount_95d88_33 : decode cJ13_bitCount_95d88 33 = .ok (.lstore_n 0, 1) := by decide +kernel
theorem dJ13_bitCount_95d88_34 : decode cJ13_bitCount_95d88 34 = .ok (.lload_n 0, 1) := by decide +kernel
theorem dJ13_bitCount_95d88_35 : decode cJ13_bitCount_95d88 35 = .ok (.lload_n 0, 1) := by decide +kernel
theorem dJ13_bitCount_95d88_36 : decode cJ13_bitCount_95d88 36 = .ok (.bipush 8, 2) := by decide +kernel
theorem dJ13_bitCount_95d88_38 : decode cJ13_bitCount_95d88 38 = .ok (.lushr, 1) := by decide +kernel
theorem dJ13_bitCount_95d88_39 : decode cJ13_bitCount_95d88 39 = .ok (.ladd, 1) := by decide +kernel
theorem dJ13_bitCount_95d88_40 : decode cJ13_bitCount_95d88 40 = .ok (.lstore_n 0, 1) := by decide +kernel
theorem dJ13_bitCount_95d88_41 : decode cJ13_bitCount_95d88 41 = .ok (.lload_n 0, 1) := by decide +kernel
theorem dJ13_bitCount_95d88_42 : decode cJ13_bitCount_95d88 42 = .ok (.lload_n 0, 1) := by decide +kernel
theorem dJ13_bitCount_95d88_43 : decode cJ13_bitCount_95d88 43 = .ok (.bipush 16, 2) := by decide +kernel
theorem dJ13_bitCount_95d88_45 : decode cJ13_bitCount_95d88 45 = .ok (.lushr, 1) := by decide +kernel
theorem dJ13_bitCount_95d88_46 : decode cJ13_bitCount_95d88 46 = .ok (.ladd, 1) := by decide +kernel
theorem dJ13_bitCount_95d88_47 : decode cJ13_bitCount_95d88 47 = .ok (.lstore_n 0, 1) := by decide +kernel
theorem dJ13_bitCount_95d88_48 : decode cJ13_bitCount_95d88 48 = .ok (.lload_n 0, 1) := by decide +kernel
theorem dJ13_bitCount_95d88_49 : decode cJ13_bitCount_95d88 49 = .ok (.lload_n 0, 1) := by decide +kernel
theorem dJ13_bitCount_95d88_50 : decode cJ13_bitCount_95d88 50 = .ok (.bipush 32, 2) := by decide +kernel
theorem dJ13_bitCount_95d88_52 : decode cJ13_bitCount_95d88 52 = .ok (.lushr, 1) := by decide +kernel
theorem dJ13_bitCount_95d88_53 : decode cJ13_bitCount_95d88 53 = .ok (.ladd, 1) := by decide +kernel
theorem dJ13_bitCount_95d88_54 : decode cJ13_bitCount_95d88 54 = .ok (.lstore_n 0, 1) := by decide +kernel
theorem dJ13_bitCount_95d88_55 : decode cJ13_bitCount_95d88 55 = .ok (.lload_n 0, 1) := by decide +kernel
theorem dJ13_bitCount_95d88_56 : decode cJ13_bitCount_95d88 56 = .ok (.l2i, 1) := by decide +kernel
theorem dJ13_bitCount_95d88_57 : decode cJ13_bitCount_95d88 57 = .ok (.bipush 127, 2) := by decide +kernel
theorem dJ13_bitCount_95d88_59 : decode cJ13_bitCount_95d88 59 = .ok (.iand, 1) := by decide +kernel
theorem dJ13_bitCount_95d88_60 : decode cJ13_bitCount_95d88 60 = .ok (.ireturn, 1) := by decide +kernel
theorem dJ9_abs_0f7a4_0 : decode cJ9_abs_0f7a4 0 = .ok (.iload_n 0, 1) := by decide +kernel
theorem dJ9_abs_0f7a4_1 : decode cJ9_abs_0f7a4 1 = .ok (.ifCond .ge 8, 3) := by decide +kernel
theorem dJ9_abs_0f7a4_4 : decode cJ9_abs_0f7a4 4 = .ok (.iload_n 0, 1) := by decide +kernel
theorem dJ9_abs_0f7a4_5 : decode cJ9_abs_0f7a4 5 = .ok (.ineg, 1) := by decide +kernel
theorem dJ9_abs_0f7a4_6 : decode cJ9_abs_0f7a4 6 = .ok (.goto 4, 3) := by decide +kernel
theorem dJ9_abs_0f7a4_9 : decode cJ9_abs_0f7a4 9 = .ok (.iload_n 0, 1) := by decide +kernel
theorem dJ9_abs_0f7a4_10 : decode cJ9_abs_0f7a4 10 = .ok (.ireturn, 1) := by decide +kernel
theorem dJ9_max_7cf53_0 : decode cJ9_max_7cf53 0 = .ok (.iload_n 0, 1) := by decide +kernel
theorem dJ9_max_7cf53_1 : decode cJ9_max_7cf53 1 = .ok (.iload_n 1, 1) := by decide +kernel
theorem dJ9_max_7cf53_2 : decode cJ9_max_7cf53 2 = .ok (.if_icmp .lt 7, 3) := by decide +kernel
theorem dJ9_max_7cf53_5 : decode cJ9_max_7cf53 5 = .ok (.iload_n 0, 1) := by decide +kernel
theorem dJ9_max_7cf53_6 : decode cJ9_max_7cf53 6 = .ok (.goto 4, 3) := by decide +kernel
theorem dJ9_max_7cf53_9 : decode cJ9_max_7cf53 9 = .ok (.iload_n 1, 1) := by decide +kernel
theorem dJ9_max_7cf53_10 : decode cJ9_max_7cf53 10 = .ok (.ireturn, 1) := by decide +kernel
theorem dJ9_min_7cf53_0 : decode cJ9_min_7cf53 0 = .ok (.iload_n 0, 1) := by decide +kernel
theorem dJ9_min_7cf53_1 : decode cJ9_min_7cf53 1 = .ok (.iload_n 1, 1) := by decide +kernel
theorem dJ9_min_7cf53_2 : decode cJ9_min_7cf53 2 = .ok (.if_icmp .gt 7, 3) := by decide +kernel
theorem dJ9_min_7cf53_5 : decode cJ9_min_7cf53 5 = .ok (.iload_n 0, 1) := by decide +kernel
theorem dJ9_min_7cf53_6 : decode cJ9_min_7cf53 6 = .ok (.goto 4, 3) := by decide +kernel
theorem dJ9_min_7cf53_9 : decode cJ9_min_7cf53 9 = .ok (.iload_n 1, 1) := by decide +kernel
theorem dJ9_min_7cf53_10 : decode cJ9_min_7cf53 10 = .ok (.ireturn, 1) := by decide +kernel
theorem dJ7_fill_d0a16_0 : decode cJ7_fill_d0a16 0 = .ok (.iconst 0, 1) := by decide +kernel
theorem dJ7_fill_d0a16_1 : decode cJ7_fill_d0a16 1 = .ok (.istore_n 3, 1) := by decide +kernel
theorem dJ7_fill_d0a16_2 : decode cJ7_fill_d0a16 2 = .ok (.aload_n 0, 1) := by decide +kernel
theorem dJ7_fill_d0a16_3 : decode cJ7_fill_d0a16 3 = .ok (.arraylength, 1) := by decide +kernel
theorem dJ7_fill_d0a16_4 : decode cJ7_fill_d0a16 4 = .ok (.istore 4, 2) := by decide +kernel
theorem dJ7_fill_d0a16_6 : decode cJ7_fill_d0a16 6 = .ok (.iload_n 3, 1) := by decide +kernel
theorem dJ7_fill_d0a16_7 : decode cJ7_fill_d0a16 7 = .ok (.iload 4, 2) := by decide +kernel
theorem dJ7_fill_d0a16_9 : decode cJ7_fill_d0a16 9 = .ok (.if_icmp .ge 13, 3) := by decide +kernel
theorem dJ7_fill_d0a16_12 : decode cJ7_fill_d0a16 12 = .ok (.aload_n 0, 1) := by decide +kernel
theorem dJ7_fill_d0a16_13 : decode cJ7_fill_d0a16 13 = .ok (.iload_n 3, 1) := by decide +kernel
theorem dJ7_fill_d0a16_14 : decode cJ7_fill_d0a16 14 = .ok (.lload_n 1, 1) := by decide +kernel
theorem dJ7_fill_d0a16_15 : decode cJ7_fill_d0a16 15 = .ok (.lastore, 1) := by decide +kernel
theorem dJ7_fill_d0a16_16 : decode cJ7_fill_d0a16 16 = .ok (.iinc 3 1, 3) := by decide +kernel
theorem dJ7_fill_d0a16_19 : decode cJ7_fill_d0a16 19 = .ok (.goto (-13), 3) := by decide +kernel
theorem dJ7_fill_d0a16_22 : decode cJ7_fill_d0a16 22 = .ok (.return_, 1) := by decide +kernel
theorem dJ7_fill_53178_0 : decode cJ7_fill_53178 0 = .ok (.iconst 0, 1) := by decide +kernel
theorem dJ7_fill_53178_1 : decode cJ7_fill_53178 1 = .ok (.istore_n 2, 1) := by decide +kernel
theorem dJ7_fill_53178_2 : decode cJ7_fill_53178 2 = .ok (.aload_n 0, 1) := by decide +kernel
theorem dJ7_fill_53178_3 : decode cJ7_fill_53178 3 = .ok (.arraylength, 1) := by decide +kernel
theorem dJ7_fill_53178_4 : decode cJ7_fill_53178 4 = .ok (.istore_n 3, 1) := by decide +kernel
theorem dJ7_fill_53178_5 : decode cJ7_fill_53178 5 = .ok (.iload_n 2, 1) := by decide +kernel
theorem dJ7_fill_53178_6 : decode cJ7_fill_53178 6 = .ok (.iload_n 3, 1) := by decide +kernel
theorem dJ7_fill_53178_7 : decode cJ7_fill_53178 7 = .ok (.if_icmp .ge 13, 3) := by decide +kernel
theorem dJ7_fill_53178_10 : decode cJ7_fill_53178 10 = .ok (.aload_n 0, 1) := by decide +kernel
theorem dJ7_fill_53178_11 : decode cJ7_fill_53178 11 = .ok (.iload_n 2, 1) := by decide +kernel
theorem dJ7_fill_53178_12 : decode cJ7_fill_53178 12 = .ok (.iload_n 1, 1) := by decide +kernel
theorem dJ7_fill_53178_13 : decode cJ7_fill_53178 13 = .ok (.iastore, 1) := by decide +kernel
theorem dJ7_fill_53178_14 : decode cJ7_fill_53178 14 = .ok (.iinc 2 1, 3) := by decide +kernel
theorem dJ7_fill_53178_17 : decode cJ7_fill_53178 17 = .ok (.goto (-12), 3) := by decide +kernel
theorem dJ7_fill_53178_20 : decode cJ7_fill_53178 20 = .ok (.return_, 1) := by decide +kernel
theorem dX0_remember_0 : decode cX0_remember 0 = .ok (.aload_n 0, 1) := by decide +kernel
theorem dX0_remember_1 : decode cX0_remember 1 = .ok (.getfield 17, 3) := by decide +kernel
theorem dX0_remember_4 : decode cX0_remember 4 = .ok (.aload_n 0, 1) := by decide +kernel
theorem dX0_remember_5 : decode cX0_remember 5 = .ok (.getfield 22, 3) := by decide +kernel
theorem dX0_remember_8 : decode cX0_remember 8 = .ok (.iload_n 1, 1) := by decide +kernel
theorem dX0_remember_9 : decode cX0_remember 9 = .ok (.iastore, 1) := by decide +kernel
theorem dX0_remember_10 : decode cX0_remember 10 = .ok (.aload_n 0, 1) := by decide +kernel
theorem dX0_remember_11 : decode cX0_remember 11 = .ok (.getfield 11, 3) := by decide +kernel
theorem dX0_remember_14 : decode cX0_remember 14 = .ok (.aload_n 0, 1) := by decide +kernel
theorem dX0_remember_15 : decode cX0_remember 15 = .ok (.getfield 22, 3) := by decide +kernel
theorem dX0_remember_18 : decode cX0_remember 18 = .ok (.aaload, 1) := by decide +kernel
theorem dX0_remember_19 : decode cX0_remember 19 = .ok (.aload_n 2, 1) := by decide +kernel
theorem dX0_remember_20 : decode cX0_remember 20 = .ok (.invokevirtual 26, 3) := by decide +kernel
theorem dX0_remember_23 : decode cX0_remember 23 = .ok (.aload_n 0, 1) := by decide +kernel
theorem dX0_remember_24 : decode cX0_remember 24 = .ok (.aload_n 0, 1) := by decide +kernel
theorem dX0_remember_25 : decode cX0_remember 25 = .ok (.getfield 22, 3) := by decide +kernel
theorem dX0_remember_28 : decode cX0_remember 28 = .ok (.bipush 9, 2) := by decide +kernel
theorem dX0_remember_30 : decode cX0_remember 30 = .ok (.if_icmp .ge 12, 3) := by decide +kernel
theorem dX0_remember_33 : decode cX0_remember 33 = .ok (.aload_n 0, 1) := by decide +kernel
theorem dX0_remember_34 : decode cX0_remember 34 = .ok (.getfield 22, 3) := by decide +kernel
theorem dX0_remember_37 : decode cX0_remember 37 = .ok (.iconst 1, 1) := by decide +kernel
theorem dX0_remember_38 : decode cX0_remember 38 = .ok (.iadd, 1) := by decide +kernel
theorem dX0_remember_39 : decode cX0_remember 39 = .ok (.goto 4, 3) := by decide +kernel
theorem dX0_remember_42 : decode cX0_remember 42 = .ok (.iconst 0, 1) := by decide +kernel
theorem dX0_remember_43 : decode cX0_remember 43 = .ok (.putfield 22, 3) := by decide +kernel
theorem dX0_remember_46 : decode cX0_remember 46 = .ok (.aload_n 0, 1) := by decide +kernel
theorem dX0_remember_47 : decode cX0_remember 47 = .ok (.bipush 10, 2) := by decide +kernel
theorem dX0_remember_49 : decode cX0_remember 49 = .ok (.aload_n 0, 1) := by decide +kernel
theorem dX0_remember_50 : decode cX0_remember 50 = .ok (.getfield 30, 3) := by decide +kernel
theorem dX0_remember_53 : decode cX0_remember 53 = .ok (.iconst 1, 1) := by decide +kernel
theorem dX0_remember_54 : decode cX0_remember 54 = .ok (.iadd, 1) := by decide +kernel
theorem dX0_remember_55 : decode cX0_remember 55 = .ok (.invokestatic 33, 3) := by decide +kernel
theorem dX0_remember_58 : decode cX0_remember 58 = .ok (.putfield 30, 3) := by decide +kernel
theorem dX0_remember_61 : decode cX0_remember 61 = .ok (.return_, 1) := by decide +kernel
theorem dX0_takeLatest_0 : decode cX0_takeLatest 0 = .ok (.aload_n 0, 1) := by decide +kernel
theorem dX0_takeLatest_1 : decode cX0_takeLatest 1 = .ok (.aload_n 0, 1) := by decide +kernel
theorem dX0_takeLatest_2 : decode cX0_takeLatest 2 = .ok (.getfield 22, 3) := by decide +kernel
theorem dX0_takeLatest_5 : decode cX0_takeLatest 5 = .ok (.ifCond .le 12, 3) := by decide +kernel
theorem dX0_takeLatest_8 : decode cX0_takeLatest 8 = .ok (.aload_n 0, 1) := by decide +kernel
theorem dX0_takeLatest_9 : decode cX0_takeLatest 9 = .ok (.getfield 22, 3) := by decide +kernel
theorem dX0_takeLatest_12 : decode cX0_takeLatest 12 = .ok (.iconst 1, 1) := by decide +kernel
theorem dX0_takeLatest_13 : decode cX0_takeLatest 13 = .ok (.isub, 1) := by decide +kernel
theorem dX0_takeLatest_14 : decode cX0_takeLatest 14 = .ok (.goto 5, 3) := by decide +kernel
theorem dX0_takeLatest_17 : decode cX0_takeLatest 17 = .ok (.bipush 9, 2) := by decide +kernel
theorem dX0_takeLatest_19 : decode cX0_takeLatest 19 = .ok (.putfield 22, 3) := by decide +kernel
theorem dX0_takeLatest_22 : decode cX0_takeLatest 22 = .ok (.aload_n 0, 1) := by decide +kernel
theorem dX0_takeLatest_23 : decode cX0_takeLatest 23 = .ok (.iconst 0, 1) := by decide +kernel
theorem dX0_takeLatest_24 : decode cX0_takeLatest 24 = .ok (.aload_n 0, 1) := by decide +kernel
theorem dX0_takeLatest_25 : decode cX0_takeLatest 25 = .ok (.getfield 30, 3) := by decide +kernel
theorem dX0_takeLatest_28 : decode cX0_takeLatest 28 = .ok (.iconst 1, 1) := by decide +kernel
theorem dX0_takeLatest_29 : decode cX0_takeLatest 29 = .ok (.isub, 1) := by decide +kernel
theorem dX0_takeLatest_30 : decode cX0_takeLatest 30 = .ok (.invokestatic 39, 3) := by decide +kernel
theorem dX0_takeLatest_33 : decode cX0_takeLatest 33 = .ok (.putfield 30, 3) := by decide +kernel
theorem dX0_takeLatest_36 : decode cX0_takeLatest 36 = .ok (.aload_n 0, 1) := by decide +kernel
theorem dX0_takeLatest_37 : decode cX0_takeLatest 37 = .ok (.getfield 22, 3) := by decide +kernel
theorem dX0_takeLatest_40 : decode cX0_takeLatest 40 = .ok (.ireturn, 1) := by decide +kernel
theorem dX2_become_0 : decode cX2_become 0 = .ok (.aload_n 0, 1) := by decide +kernel
theorem dX2_become_1 : decode cX2_become 1 = .ok (.aload_n 1, 1) := by decide +kernel
theorem dX2_become_2 : decode cX2_become 2 = .ok (.getfield 18, 3) := by decide +kernel
theorem dX2_become_5 : decode cX2_become 5 = .ok (.putfield 18, 3) := by decide +kernel
theorem dX2_become_8 : decode cX2_become 8 = .ok (.aload_n 1, 1) := by decide +kernel
theorem dX2_become_9 : decode cX2_become 9 = .ok (.getfield 9, 3) := by decide +kernel
theorem dX2_become_12 : decode cX2_become 12 = .ok (.iconst 0, 1) := by decide +kernel
theorem dX2_become_13 : decode cX2_become 13 = .ok (.aload_n 0, 1) := by decide +kernel
theorem dX2_become_14 : decode cX2_become 14 = .ok (.getfield 9, 3) := by decide +kernel
theorem dX2_become_17 : decode cX2_become 17 = .ok (.iconst 0, 1) := by decide +kernel
theorem dX2_become_18 : decode cX2_become 18 = .ok (.bipush 64, 2) := by decide +kernel
theorem dX2_become_20 : decode cX2_become 20 = .ok (.invokestatic 22, 3) := by decide +kernel
theorem dX2_become_23 : decode cX2_become 23 = .ok (.aload_n 1, 1) := by decide +kernel
theorem dX2_become_24 : decode cX2_become 24 = .ok (.getfield 15, 3) := by decide +kernel
theorem dX2_become_27 : decode cX2_become 27 = .ok (.iconst 0, 1) := by decide +kernel
theorem dX2_become_28 : decode cX2_become 28 = .ok (.aload_n 0, 1) := by decide +kernel
theorem dX2_become_29 : decode cX2_become 29 = .ok (.getfield 15, 3) := by decide +kernel
theorem dX2_become_32 : decode cX2_become 32 = .ok (.iconst 0, 1) := by decide +kernel
theorem dX2_become_33 : decode cX2_become 33 = .ok (.iconst 4, 1) := by decide +kernel
theorem dX2_become_34 : decode cX2_become 34 = .ok (.invokestatic 22, 3) := by decide +kernel
theorem dX2_become_37 : decode cX2_become 37 = .ok (.return_, 1) := by decide +kernel
theorem dX2_add_0 : decode cX2_add 0 = .ok (.aload_n 0, 1) := by decide +kernel
theorem dX2_add_1 : decode cX2_add 1 = .ok (.getfield 18, 3) := by decide +kernel
theorem dX2_add_4 : decode cX2_add 4 = .ok (.iconst 4, 1) := by decide +kernel
theorem dX2_add_5 : decode cX2_add 5 = .ok (.if_icmp .ge 71, 3) := by decide +kernel
theorem dX2_add_8 : decode cX2_add 8 = .ok (.aload_n 0, 1) := by decide +kernel
theorem dX2_add_9 : decode cX2_add 9 = .ok (.getfield 15, 3) := by decide +kernel
theorem dX2_add_12 : decode cX2_add 12 = .ok (.aload_n 0, 1) := by decide +kernel
theorem dX2_add_13 : decode cX2_add 13 = .ok (.getfield 18, 3) := by decide +kernel
theorem dX2_add_16 : decode cX2_add 16 = .ok (.bipush 16, 2) := by decide +kernel
theorem dX2_add_18 : decode cX2_add 18 = .ok (.aload_n 1, 1) := by decide +kernel
theorem dX2_add_19 : decode cX2_add 19 = .ok (.getfield 28, 3) := by decide +kernel
theorem dX2_add_22 : decode cX2_add 22 = .ok (.invokestatic 33, 3) := by decide +kernel
theorem dX2_add_25 : decode cX2_add 25 = .ok (.iastore, 1) := by decide +kernel
theorem dX2_add_26 : decode cX2_add 26 = .ok (.iconst 0, 1) := by decide +kernel
theorem dX2_add_27 : decode cX2_add 27 = .ok (.istore_n 2, 1) := by decide +kernel
theorem dX2_add_28 : decode cX2_add 28 = .ok (.iload_n 2, 1) := by decide +kernel
theorem dX2_add_29 : decode cX2_add 29 = .ok (.aload_n 0, 1) := by decide +kernel
theorem dX2_add_30 : decode cX2_add 30 = .ok (.getfield 15, 3) := by decide +kernel
theorem dX2_add_33 : decode cX2_add 33 = .ok (.aload_n 0, 1) := by decide +kernel
theorem dX2_add_34 : decode cX2_add 34 = .ok (.getfield 18, 3) := by decide +kernel
theorem dX2_add_37 : decode cX2_add 37 = .ok (.iaload, 1) := by decide +kernel
theorem dX2_add_38 : decode cX2_add 38 = .ok (.if_icmp .ge 28, 3) := by decide +kernel
theorem dX2_add_41 : decode cX2_add 41 = .ok (.aload_n 0, 1) := by decide +kernel
theorem dX2_add_42 : decode cX2_add 42 = .ok (.getfield 9, 3) := by decide +kernel
theorem dX2_add_45 : decode cX2_add 45 = .ok (.aload_n 0, 1) := by decide +kernel
theorem dX2_add_46 : decode cX2_add 46 = .ok (.getfield 18, 3) := by decide +kernel
theorem dX2_add_49 : decode cX2_add 49 = .ok (.bipush 16, 2) := by decide +kernel
theorem dX2_add_51 : decode cX2_add 51 = .ok (.imul, 1) := by decide +kernel
theorem dX2_add_52 : decode cX2_add 52 = .ok (.iload_n 2, 1) := by decide +kernel
theorem dX2_add_53 : decode cX2_add 53 = .ok (.iadd, 1) := by decide +kernel
theorem dX2_add_54 : decode cX2_add 54 = .ok (.aload_n 1, 1) := by decide +kernel
theorem dX2_add_55 : decode cX2_add 55 = .ok (.iload_n 2, 1) := by decide +kernel
theorem dX2_add_56 : decode cX2_add 56 = .ok (.invokevirtual 39, 3) := by decide +kernel
theorem dX2_add_59 : decode cX2_add 59 = .ok (.iastore, 1) := by decide +kernel
theorem dX2_add_60 : decode cX2_add 60 = .ok (.iinc 2 1, 3) := by decide +kernel
theorem dX2_add_63 : decode cX2_add 63 = .ok (.goto (-35), 3) := by decide +kernel
theorem dX2_add_66 : decode cX2_add 66 = .ok (.aload_n 0, 1) := by decide +kernel
theorem dX2_add_67 : decode cX2_add 67 = .ok (.dup, 1) := by decide +kernel
theorem dX2_add_68 : decode cX2_add 68 = .ok (.getfield 18, 3) := by decide +kernel
theorem dX2_add_71 : decode cX2_add 71 = .ok (.iconst 1, 1) := by decide +kernel
theorem dX2_add_72 : decode cX2_add 72 = .ok (.iadd, 1) := by decide +kernel
theorem dX2_add_73 : decode cX2_add 73 = .ok (.putfield 18, 3) := by decide +kernel
theorem dX2_add_76 : decode cX2_add 76 = .ok (.return_, 1) := by decide +kernel
theorem dX2_know_0 : decode cX2_know 0 = .ok (.iconst 0, 1) := by decide +kernel
theorem dX2_know_1 : decode cX2_know 1 = .ok (.istore_n 2, 1) := by decide +kernel
theorem dX2_know_2 : decode cX2_know 2 = .ok (.iload_n 2, 1) := by decide +kernel
theorem dX2_know_3 : decode cX2_know 3 = .ok (.aload_n 0, 1) := by decide +kernel
theorem dX2_know_4 : decode cX2_know 4 = .ok (.getfield 18, 3) := by decide +kernel
theorem dX2_know_7 : decode cX2_know 7 = .ok (.if_icmp .ge 20, 3) := by decide +kernel
theorem dX2_know_10 : decode cX2_know 10 = .ok (.aload_n 0, 1) := by decide +kernel
theorem dX2_know_11 : decode cX2_know 11 = .ok (.iload_n 2, 1) := by decide +kernel
theorem dX2_know_12 : decode cX2_know 12 = .ok (.aload_n 1, 1) := by decide +kernel
theorem dX2_know_13 : decode cX2_know 13 = .ok (.invokevirtual 43, 3) := by decide +kernel
theorem dX2_know_16 : decode cX2_know 16 = .ok (.ifCond .eq 5, 3) := by decide +kernel
theorem dX2_know_19 : decode cX2_know 19 = .ok (.iconst 1, 1) := by decide +kernel
theorem dX2_know_20 : decode cX2_know 20 = .ok (.ireturn, 1) := by decide +kernel
theorem dX2_know_21 : decode cX2_know 21 = .ok (.iinc 2 1, 3) := by decide +kernel
theorem dX2_know_24 : decode cX2_know 24 = .ok (.goto (-22), 3) := by decide +kernel
theorem dX2_know_27 : decode cX2_know 27 = .ok (.iconst 0, 1) := by decide +kernel
theorem dX2_know_28 : decode cX2_know 28 = .ok (.ireturn, 1) := by decide +kernel
theorem dX2_hasLetter_0 : decode cX2_hasLetter 0 = .ok (.iload_n 1, 1) := by decide +kernel
theorem dX2_hasLetter_1 : decode cX2_hasLetter 1 = .ok (.ifCond .lt 34, 3) := by decide +kernel
theorem dX2_hasLetter_4 : decode cX2_hasLetter 4 = .ok (.iload_n 1, 1) := by decide +kernel
theorem dX2_hasLetter_5 : decode cX2_hasLetter 5 = .ok (.aload_n 0, 1) := by decide +kernel
theorem dX2_hasLetter_6 : decode cX2_hasLetter 6 = .ok (.getfield 18, 3) := by decide +kernel
theorem dX2_hasLetter_9 : decode cX2_hasLetter 9 = .ok (.if_icmp .ge 26, 3) := by decide +kernel
theorem dX2_hasLetter_12 : decode cX2_hasLetter 12 = .ok (.iload_n 1, 1) := by decide +kernel
theorem dX2_hasLetter_13 : decode cX2_hasLetter 13 = .ok (.iconst 4, 1) := by decide +kernel
theorem dX2_hasLetter_14 : decode cX2_hasLetter 14 = .ok (.if_icmp .ge 21, 3) := by decide +kernel
theorem dX2_hasLetter_17 : decode cX2_hasLetter 17 = .ok (.iload_n 2, 1) := by decide +kernel
theorem dX2_hasLetter_18 : decode cX2_hasLetter 18 = .ok (.ifCond .lt 17, 3) := by decide +kernel
theorem dX2_hasLetter_21 : decode cX2_hasLetter 21 = .ok (.iload_n 2, 1) := by decide +kernel
theorem dX2_hasLetter_22 : decode cX2_hasLetter 22 = .ok (.aload_n 0, 1) := by decide +kernel
theorem dX2_hasLetter_23 : decode cX2_hasLetter 23 = .ok (.getfield 15, 3) := by decide +kernel
theorem dX2_hasLetter_26 : decode cX2_hasLetter 26 = .ok (.iload_n 1, 1) := by decide +kernel
theorem dX2_hasLetter_27 : decode cX2_hasLetter 27 = .ok (.iaload, 1) := by decide +kernel
theorem dX2_hasLetter_28 : decode cX2_hasLetter 28 = .ok (.if_icmp .ge 7, 3) := by decide +kernel
theorem dX2_hasLetter_31 : decode cX2_hasLetter 31 = .ok (.iconst 1, 1) := by decide +kernel
theorem dX2_hasLetter_32 : decode cX2_hasLetter 32 = .ok (.goto 4, 3) := by decide +kernel
theorem dX2_hasLetter_35 : decode cX2_hasLetter 35 = .ok (.iconst 0, 1) := by decide +kernel
theorem dX2_hasLetter_36 : decode cX2_hasLetter 36 = .ok (.ireturn, 1) := by decide +kernel
theorem dX2_letterOf_0 : decode cX2_letterOf 0 = .ok (.aload_n 0, 1) := by decide +kernel
theorem dX2_letterOf_1 : decode cX2_letterOf 1 = .ok (.iload_n 1, 1) := by decide +kernel
theorem dX2_letterOf_2 : decode cX2_letterOf 2 = .ok (.iload_n 2, 1) := by decide +kernel
theorem dX2_letterOf_3 : decode cX2_letterOf 3 = .ok (.invokevirtual 47, 3) := by decide +kernel
theorem dX2_letterOf_6 : decode cX2_letterOf 6 = .ok (.ifCond .eq 17, 3) := by decide +kernel
theorem dX2_letterOf_9 : decode cX2_letterOf 9 = .ok (.aload_n 0, 1) := by decide +kernel
theorem dX2_letterOf_10 : decode cX2_letterOf 10 = .ok (.getfield 9, 3) := by decide +kernel
theorem dX2_letterOf_13 : decode cX2_letterOf 13 = .ok (.iload_n 1, 1) := by decide +kernel
theorem dX2_letterOf_14 : decode cX2_letterOf 14 = .ok (.bipush 16, 2) := by decide +kernel
theorem dX2_letterOf_16 : decode cX2_letterOf 16 = .ok (.imul, 1) := by decide +kernel
theorem dX2_letterOf_17 : decode cX2_letterOf 17 = .ok (.iload_n 2, 1) := by decide +kernel
theorem dX2_letterOf_18 : decode cX2_letterOf 18 = .ok (.iadd, 1) := by decide +kernel
theorem dX2_letterOf_19 : decode cX2_letterOf 19 = .ok (.iaload, 1) := by decide +kernel
theorem dX2_letterOf_20 : decode cX2_letterOf 20 = .ok (.goto 4, 3) := by decide +kernel
theorem dX2_letterOf_23 : decode cX2_letterOf 23 = .ok (.iconst (-1), 1) := by decide +kernel
theorem dX2_letterOf_24 : decode cX2_letterOf 24 = .ok (.ireturn, 1) := by decide +kernel
theorem dX2_isName_0 : decode cX2_isName 0 = .ok (.aload_n 2, 1) := by decide +kernel
theorem dX2_isName_1 : decode cX2_isName 1 = .ok (.getfield 28, 3) := by decide +kernel
theorem dX2_isName_4 : decode cX2_isName 4 = .ok (.istore_n 3, 1) := by decide +kernel
theorem dX2_isName_5 : decode cX2_isName 5 = .ok (.aload_n 0, 1) := by decide +kernel
theorem dX2_isName_6 : decode cX2_isName 6 = .ok (.iload_n 1, 1) := by decide +kernel
theorem dX2_isName_7 : decode cX2_isName 7 = .ok (.iload_n 3, 1) := by decide +kernel
theorem dX2_isName_8 : decode cX2_isName 8 = .ok (.invokevirtual 47, 3) := by decide +kernel
theorem dX2_isName_11 : decode cX2_isName 11 = .ok (.ifCond .ne 14, 3) := by decide +kernel
theorem dX2_isName_14 : decode cX2_isName 14 = .ok (.aload_n 0, 1) := by decide +kernel
theorem dX2_isName_15 : decode cX2_isName 15 = .ok (.iload_n 1, 1) := by decide +kernel
theorem dX2_isName_16 : decode cX2_isName 16 = .ok (.iload_n 3, 1) := by decide +kernel
theorem dX2_isName_17 : decode cX2_isName 17 = .ok (.iconst 1, 1) := by decide +kernel
theorem dX2_isName_18 : decode cX2_isName 18 = .ok (.isub, 1) := by decide +kernel
theorem dX2_isName_19 : decode cX2_isName 19 = .ok (.invokevirtual 47, 3) := by decide +kernel
theorem dX2_isName_22 : decode cX2_isName 22 = .ok (.ifCond .ne 5, 3) := by decide +kernel
theorem dX2_isName_25 : decode cX2_isName 25 = .ok (.iconst 0, 1) := by decide +kernel
theorem dX2_isName_26 : decode cX2_isName 26 = .ok (.ireturn, 1) := by decide +kernel
theorem dX2_isName_27 : decode cX2_isName 27 = .ok (.iconst 0, 1) := by decide +kernel
theorem dX2_isName_28 : decode cX2_isName 28 = .ok (.istore 4, 2) := by decide +kernel
theorem dX2_isName_30 : decode cX2_isName 30 = .ok (.iload 4, 2) := by decide +kernel
theorem dX2_isName_32 : decode cX2_isName 32 = .ok (.iload_n 3, 1) := by decide +kernel
theorem dX2_isName_33 : decode cX2_isName 33 = .ok (.if_icmp .ge 32, 3) := by decide +kernel
theorem dX2_isName_36 : decode cX2_isName 36 = .ok (.aload_n 0, 1) := by decide +kernel
theorem dX2_isName_37 : decode cX2_isName 37 = .ok (.getfield 9, 3) := by decide +kernel
theorem dX2_isName_40 : decode cX2_isName 40 = .ok (.iload_n 1, 1) := by decide +kernel
theorem dX2_isName_41 : decode cX2_isName 41 = .ok (.bipush 16, 2) := by decide +kernel
theorem dX2_isName_43 : decode cX2_isName 43 = .ok (.imul, 1) := by decide +kernel
theorem dX2_isName_44 : decode cX2_isName 44 = .ok (.iload 4, 2) := by decide +kernel
theorem dX2_isName_46 : decode cX2_isName 46 = .ok (.iadd, 1) := by decide +kernel
theorem dX2_isName_47 : decode cX2_isName 47 = .ok (.iaload, 1) := by decide +kernel
theorem dX2_isName_48 : decode cX2_isName 48 = .ok (.aload_n 2, 1) := by decide +kernel
theorem dX2_isName_49 : decode cX2_isName 49 = .ok (.iload 4, 2) := by decide +kernel
theorem dX2_isName_51 : decode cX2_isName 51 = .ok (.invokevirtual 39, 3) := by decide +kernel
theorem dX2_isName_54 : decode cX2_isName 54 = .ok (.if_icmp .eq 5, 3) := by decide +kernel
theorem dX2_isName_57 : decode cX2_isName 57 = .ok (.iconst 0, 1) := by decide +kernel
theorem dX2_isName_58 : decode cX2_isName 58 = .ok (.ireturn, 1) := by decide +kernel
theorem dX2_isName_59 : decode cX2_isName 59 = .ok (.iinc 4 1, 3) := by decide +kernel
theorem dX2_isName_62 : decode cX2_isName 62 = .ok (.goto (-32), 3) := by decide +kernel
theorem dX2_isName_65 : decode cX2_isName 65 = .ok (.iconst 1, 1) := by decide +kernel
theorem dX2_isName_66 : decode cX2_isName 66 = .ok (.ireturn, 1) := by decide +kernel
theorem dX5_isTold_0 : decode cX5_isTold 0 = .ok (.aload_n 0, 1) := by decide +kernel
theorem dX5_isTold_1 : decode cX5_isTold 1 = .ok (.getfield 15, 3) := by decide +kernel
theorem dX5_isTold_4 : decode cX5_isTold 4 = .ok (.ifCond .le 7, 3) := by decide +kernel
theorem dX5_isTold_7 : decode cX5_isTold 7 = .ok (.iconst 1, 1) := by decide +kernel
theorem dX5_isTold_8 : decode cX5_isTold 8 = .ok (.goto 4, 3) := by decide +kernel
theorem dX5_isTold_11 : decode cX5_isTold 11 = .ok (.iconst 0, 1) := by decide +kernel
theorem dX5_isTold_12 : decode cX5_isTold 12 = .ok (.ireturn, 1) := by decide +kernel
theorem dX5_forget_0 : decode cX5_forget 0 = .ok (.aload_n 0, 1) := by decide +kernel
theorem dX5_forget_1 : decode cX5_forget 1 = .ok (.iconst 0, 1) := by decide +kernel
theorem dX5_forget_2 : decode cX5_forget 2 = .ok (.putfield 15, 3) := by decide +kernel
theorem dX5_forget_5 : decode cX5_forget 5 = .ok (.aload_n 0, 1) := by decide +kernel
theorem dX5_forget_6 : decode cX5_forget 6 = .ok (.iconst 0, 1) := by decide +kernel
theorem dX5_forget_7 : decode cX5_forget 7 = .ok (.putfield 19, 3) := by decide +kernel
theorem dX5_forget_10 : decode cX5_forget 10 = .ok (.return_, 1) := by decide +kernel
theorem dX5_resize_0 : decode cX5_resize 0 = .ok (.aload_n 0, 1) := by decide +kernel
theorem dX5_resize_1 : decode cX5_resize 1 = .ok (.iconst 0, 1) := by decide +kernel
theorem dX5_resize_2 : decode cX5_resize 2 = .ok (.bipush 16, 2) := by decide +kernel
theorem dX5_resize_4 : decode cX5_resize 4 = .ok (.iload_n 1, 1) := by decide +kernel
theorem dX5_resize_5 : decode cX5_resize 5 = .ok (.invokestatic 22, 3) := by decide +kernel
theorem dX5_resize_8 : decode cX5_resize 8 = .ok (.invokestatic 28, 3) := by decide +kernel
theorem dX5_resize_11 : decode cX5_resize 11 = .ok (.putfield 15, 3) := by decide +kernel
theorem dX5_resize_14 : decode cX5_resize 14 = .ok (.aload_n 0, 1) := by decide +kernel
theorem dX5_resize_15 : decode cX5_resize 15 = .ok (.iconst 0, 1) := by decide +kernel
theorem dX5_resize_16 : decode cX5_resize 16 = .ok (.bipush 12, 2) := by decide +kernel
theorem dX5_resize_18 : decode cX5_resize 18 = .ok (.iload_n 2, 1) := by decide +kernel
theorem dX5_resize_19 : decode cX5_resize 19 = .ok (.invokestatic 22, 3) := by decide +kernel
theorem dX5_resize_22 : decode cX5_resize 22 = .ok (.invokestatic 28, 3) := by decide +kernel
theorem dX5_resize_25 : decode cX5_resize 25 = .ok (.putfield 19, 3) := by decide +kernel
theorem dX5_resize_28 : decode cX5_resize 28 = .ok (.return_, 1) := by decide +kernel
theorem dX5_become_0 : decode cX5_become 0 = .ok (.aload_n 0, 1) := by decide +kernel
theorem dX5_become_1 : decode cX5_become 1 = .ok (.aload_n 1, 1) := by decide +kernel
theorem dX5_become_2 : decode cX5_become 2 = .ok (.getfield 15, 3) := by decide +kernel
theorem dX5_become_5 : decode cX5_become 5 = .ok (.putfield 15, 3) := by decide +kernel
theorem dX5_become_8 : decode cX5_become 8 = .ok (.aload_n 0, 1) := by decide +kernel
theorem dX5_become_9 : decode cX5_become 9 = .ok (.aload_n 1, 1) := by decide +kernel
theorem dX5_become_10 : decode cX5_become 10 = .ok (.getfield 19, 3) := by decide +kernel
theorem dX5_become_13 : decode cX5_become 13 = .ok (.putfield 19, 3) := by decide +kernel
theorem dX5_become_16 : decode cX5_become 16 = .ok (.aload_n 1, 1) := by decide +kernel
theorem dX5_become_17 : decode cX5_become 17 = .ok (.getfield 9, 3) := by decide +kernel
theorem dX5_become_20 : decode cX5_become 20 = .ok (.iconst 0, 1) := by decide +kernel
theorem dX5_become_21 : decode cX5_become 21 = .ok (.aload_n 0, 1) := by decide +kernel
theorem dX5_become_22 : decode cX5_become 22 = .ok (.getfield 9, 3) := by decide +kernel
theorem dX5_become_25 : decode cX5_become 25 = .ok (.iconst 0, 1) := by decide +kernel
theorem dX5_become_26 : decode cX5_become 26 = .ok (.sipush 192, 3) := by decide +kernel
theorem dX5_become_29 : decode cX5_become 29 = .ok (.invokestatic 31, 3) := by decide +kernel
theorem dX5_become_32 : decode cX5_become 32 = .ok (.return_, 1) := by decide +kernel
theorem dX5_count_0 : decode cX5_count 0 = .ok (.aload_n 0, 1) := by decide +kernel
theorem dX5_count_1 : decode cX5_count 1 = .ok (.getfield 15, 3) := by decide +kernel
theorem dX5_count_4 : decode cX5_count 4 = .ok (.aload_n 0, 1) := by decide +kernel
theorem dX5_count_5 : decode cX5_count 5 = .ok (.getfield 19, 3) := by decide +kernel
theorem dX5_count_8 : decode cX5_count 8 = .ok (.imul, 1) := by decide +kernel
theorem dX5_count_9 : decode cX5_count 9 = .ok (.ireturn, 1) := by decide +kernel
theorem dX5_contains_0 : decode cX5_contains 0 = .ok (.iload_n 1, 1) := by decide +kernel
theorem dX5_contains_1 : decode cX5_contains 1 = .ok (.ifCond .lt 27, 3) := by decide +kernel
theorem dX5_contains_4 : decode cX5_contains 4 = .ok (.iload_n 1, 1) := by decide +kernel
theorem dX5_contains_5 : decode cX5_contains 5 = .ok (.aload_n 0, 1) := by decide +kernel
theorem dX5_contains_6 : decode cX5_contains 6 = .ok (.getfield 15, 3) := by decide +kernel
theorem dX5_contains_9 : decode cX5_contains 9 = .ok (.if_icmp .ge 19, 3) := by decide +kernel
theorem dX5_contains_12 : decode cX5_contains 12 = .ok (.iload_n 2, 1) := by decide +kernel
theorem dX5_contains_13 : decode cX5_contains 13 = .ok (.ifCond .lt 15, 3) := by decide +kernel
theorem dX5_contains_16 : decode cX5_contains 16 = .ok (.iload_n 2, 1) := by decide +kernel
theorem dX5_contains_17 : decode cX5_contains 17 = .ok (.aload_n 0, 1) := by decide +kernel
theorem dX5_contains_18 : decode cX5_contains 18 = .ok (.getfield 19, 3) := by decide +kernel
theorem dX5_contains_21 : decode cX5_contains 21 = .ok (.if_icmp .ge 7, 3) := by decide +kernel
theorem dX5_contains_24 : decode cX5_contains 24 = .ok (.iconst 1, 1) := by decide +kernel
theorem dX5_contains_25 : decode cX5_contains 25 = .ok (.goto 4, 3) := by decide +kernel
theorem dX5_contains_28 : decode cX5_contains 28 = .ok (.iconst 0, 1) := by decide +kernel
theorem dX5_contains_29 : decode cX5_contains 29 = .ok (.ireturn, 1) := by decide +kernel
theorem dX5_indexOf_0 : decode cX5_indexOf 0 = .ok (.aload_n 0, 1) := by decide +kernel
theorem dX5_indexOf_1 : decode cX5_indexOf 1 = .ok (.iload_n 1, 1) := by decide +kernel
theorem dX5_indexOf_2 : decode cX5_indexOf 2 = .ok (.iload_n 2, 1) := by decide +kernel
theorem dX5_indexOf_3 : decode cX5_indexOf 3 = .ok (.invokevirtual 37, 3) := by decide +kernel
theorem dX5_indexOf_6 : decode cX5_indexOf 6 = .ok (.ifCond .eq 14, 3) := by decide +kernel
theorem dX5_indexOf_9 : decode cX5_indexOf 9 = .ok (.iload_n 2, 1) := by decide +kernel
theorem dX5_indexOf_10 : decode cX5_indexOf 10 = .ok (.aload_n 0, 1) := by decide +kernel
theorem dX5_indexOf_11 : decode cX5_indexOf 11 = .ok (.getfield 15, 3) := by decide +kernel
theorem dX5_indexOf_14 : decode cX5_indexOf 14 = .ok (.imul, 1) := by decide +kernel
theorem dX5_indexOf_15 : decode cX5_indexOf 15 = .ok (.iload_n 1, 1) := by decide +kernel
theorem dX5_indexOf_16 : decode cX5_indexOf 16 = .ok (.iadd, 1) := by decide +kernel
theorem dX5_indexOf_17 : decode cX5_indexOf 17 = .ok (.goto 4, 3) := by decide +kernel
theorem dX5_indexOf_20 : decode cX5_indexOf 20 = .ok (.iconst 0, 1) := by decide +kernel
theorem dX5_indexOf_21 : decode cX5_indexOf 21 = .ok (.ireturn, 1) := by decide +kernel
theorem dX5_shadeAt_0 : decode cX5_shadeAt 0 = .ok (.aload_n 0, 1) := by decide +kernel
theorem dX5_shadeAt_1 : decode cX5_shadeAt 1 = .ok (.iload_n 1, 1) := by decide +kernel
theorem dX5_shadeAt_2 : decode cX5_shadeAt 2 = .ok (.iload_n 2, 1) := by decide +kernel
theorem dX5_shadeAt_3 : decode cX5_shadeAt 3 = .ok (.invokevirtual 37, 3) := by decide +kernel
theorem dX5_shadeAt_6 : decode cX5_shadeAt 6 = .ok (.ifCond .eq 19, 3) := by decide +kernel
theorem dX5_shadeAt_9 : decode cX5_shadeAt 9 = .ok (.aload_n 0, 1) := by decide +kernel
theorem dX5_shadeAt_10 : decode cX5_shadeAt 10 = .ok (.getfield 9, 3) := by decide +kernel
theorem dX5_shadeAt_13 : decode cX5_shadeAt 13 = .ok (.iload_n 2, 1) := by decide +kernel
theorem dX5_shadeAt_14 : decode cX5_shadeAt 14 = .ok (.aload_n 0, 1) := by decide +kernel
theorem dX5_shadeAt_15 : decode cX5_shadeAt 15 = .ok (.getfield 15, 3) := by decide +kernel
theorem dX5_shadeAt_18 : decode cX5_shadeAt 18 = .ok (.imul, 1) := by decide +kernel
theorem dX5_shadeAt_19 : decode cX5_shadeAt 19 = .ok (.iload_n 1, 1) := by decide +kernel
theorem dX5_shadeAt_20 : decode cX5_shadeAt 20 = .ok (.iadd, 1) := by decide +kernel
theorem dX5_shadeAt_21 : decode cX5_shadeAt 21 = .ok (.iaload, 1) := by decide +kernel
theorem dX5_shadeAt_22 : decode cX5_shadeAt 22 = .ok (.goto 4, 3) := by decide +kernel
theorem dX5_shadeAt_25 : decode cX5_shadeAt 25 = .ok (.iconst 0, 1) := by decide +kernel
theorem dX5_shadeAt_26 : decode cX5_shadeAt 26 = .ok (.ireturn, 1) := by decide +kernel
theorem dX5_putShade_0 : decode cX5_putShade 0 = .ok (.aload_n 0, 1) := by decide +kernel
theorem dX5_putShade_1 : decode cX5_putShade 1 = .ok (.iload_n 1, 1) := by decide +kernel
theorem dX5_putShade_2 : decode cX5_putShade 2 = .ok (.iload_n 2, 1) := by decide +kernel
theorem dX5_putShade_3 : decode cX5_putShade 3 = .ok (.invokevirtual 37, 3) := by decide +kernel
theorem dX5_putShade_6 : decode cX5_putShade 6 = .ok (.ifCond .eq 17, 3) := by decide +kernel
theorem dX5_putShade_9 : decode cX5_putShade 9 = .ok (.aload_n 0, 1) := by decide +kernel
theorem dX5_putShade_10 : decode cX5_putShade 10 = .ok (.getfield 9, 3) := by decide +kernel
theorem dX5_putShade_13 : decode cX5_putShade 13 = .ok (.iload_n 2, 1) := by decide +kernel
theorem dX5_putShade_14 : decode cX5_putShade 14 = .ok (.aload_n 0, 1) := by decide +kernel
theorem dX5_putShade_15 : decode cX5_putShade 15 = .ok (.getfield 15, 3) := by decide +kernel
theorem dX5_putShade_18 : decode cX5_putShade 18 = .ok (.imul, 1) := by decide +kernel
theorem dX5_putShade_19 : decode cX5_putShade 19 = .ok (.iload_n 1, 1) := by decide +kernel
theorem dX5_putShade_20 : decode cX5_putShade 20 = .ok (.iadd, 1) := by decide +kernel
theorem dX5_putShade_21 : decode cX5_putShade 21 = .ok (.iload_n 3, 1) := by decide +kernel
theorem dX5_putShade_22 : decode cX5_putShade 22 = .ok (.iastore, 1) := by decide +kernel
theorem dX5_putShade_23 : decode cX5_putShade 23 = .ok (.return_, 1) := by decide +kernel
theorem dX5_stepRight_0 : decode cX5_stepRight 0 = .ok (.aload_n 0, 1) := by decide +kernel
theorem dX5_stepRight_1 : decode cX5_stepRight 1 = .ok (.iload_n 1, 1) := by decide +kernel
theorem dX5_stepRight_2 : decode cX5_stepRight 2 = .ok (.iload_n 2, 1) := by decide +kernel
theorem dX5_stepRight_3 : decode cX5_stepRight 3 = .ok (.invokevirtual 37, 3) := by decide +kernel
theorem dX5_stepRight_6 : decode cX5_stepRight 6 = .ok (.ifCond .eq 35, 3) := by decide +kernel
theorem dX5_stepRight_9 : decode cX5_stepRight 9 = .ok (.aload_n 0, 1) := by decide +kernel
theorem dX5_stepRight_10 : decode cX5_stepRight 10 = .ok (.iload_n 1, 1) := by decide +kernel
theorem dX5_stepRight_11 : decode cX5_stepRight 11 = .ok (.iconst 1, 1) := by decide +kernel
theorem dX5_stepRight_12 : decode cX5_stepRight 12 = .ok (.iadd, 1) := by decide +kernel
theorem dX5_stepRight_13 : decode cX5_stepRight 13 = .ok (.iload_n 2, 1) := by decide +kernel
theorem dX5_stepRight_14 : decode cX5_stepRight 14 = .ok (.invokevirtual 37, 3) := by decide +kernel
theorem dX5_stepRight_17 : decode cX5_stepRight 17 = .ok (.ifCond .eq 24, 3) := by decide +kernel
theorem dX5_stepRight_20 : decode cX5_stepRight 20 = .ok (.aload_n 0, 1) := by decide +kernel
theorem dX5_stepRight_21 : decode cX5_stepRight 21 = .ok (.iload_n 1, 1) := by decide +kernel
theorem dX5_stepRight_22 : decode cX5_stepRight 22 = .ok (.iload_n 2, 1) := by decide +kernel
theorem dX5_stepRight_23 : decode cX5_stepRight 23 = .ok (.invokevirtual 41, 3) := by decide +kernel
theorem dX5_stepRight_26 : decode cX5_stepRight 26 = .ok (.aload_n 0, 1) := by decide +kernel
theorem dX5_stepRight_27 : decode cX5_stepRight 27 = .ok (.iload_n 1, 1) := by decide +kernel
theorem dX5_stepRight_28 : decode cX5_stepRight 28 = .ok (.iconst 1, 1) := by decide +kernel
theorem dX5_stepRight_29 : decode cX5_stepRight 29 = .ok (.iadd, 1) := by decide +kernel
theorem dX5_stepRight_30 : decode cX5_stepRight 30 = .ok (.iload_n 2, 1) := by decide +kernel
theorem dX5_stepRight_31 : decode cX5_stepRight 31 = .ok (.invokevirtual 41, 3) := by decide +kernel
theorem dX5_stepRight_34 : decode cX5_stepRight 34 = .ok (.isub, 1) := by decide +kernel
theorem dX5_stepRight_35 : decode cX5_stepRight 35 = .ok (.invokestatic 44, 3) := by decide +kernel
theorem dX5_stepRight_38 : decode cX5_stepRight 38 = .ok (.goto 4, 3) := by decide +kernel
theorem dX5_stepRight_41 : decode cX5_stepRight 41 = .ok (.iconst (-1), 1) := by decide +kernel
theorem dX5_stepRight_42 : decode cX5_stepRight 42 = .ok (.ireturn, 1) := by decide +kernel
theorem dX5_stepDown_0 : decode cX5_stepDown 0 = .ok (.aload_n 0, 1) := by decide +kernel
theorem dX5_stepDown_1 : decode cX5_stepDown 1 = .ok (.iload_n 1, 1) := by decide +kernel
theorem dX5_stepDown_2 : decode cX5_stepDown 2 = .ok (.iload_n 2, 1) := by decide +kernel
theorem dX5_stepDown_3 : decode cX5_stepDown 3 = .ok (.invokevirtual 37, 3) := by decide +kernel
theorem dX5_stepDown_6 : decode cX5_stepDown 6 = .ok (.ifCond .eq 35, 3) := by decide +kernel
theorem dX5_stepDown_9 : decode cX5_stepDown 9 = .ok (.aload_n 0, 1) := by decide +kernel
theorem dX5_stepDown_10 : decode cX5_stepDown 10 = .ok (.iload_n 1, 1) := by decide +kernel
theorem dX5_stepDown_11 : decode cX5_stepDown 11 = .ok (.iload_n 2, 1) := by decide +kernel
theorem dX5_stepDown_12 : decode cX5_stepDown 12 = .ok (.iconst 1, 1) := by decide +kernel
theorem dX5_stepDown_13 : decode cX5_stepDown 13 = .ok (.iadd, 1) := by decide +kernel
theorem dX5_stepDown_14 : decode cX5_stepDown 14 = .ok (.invokevirtual 37, 3) := by decide +kernel
theorem dX5_stepDown_17 : decode cX5_stepDown 17 = .ok (.ifCond .eq 24, 3) := by decide +kernel
theorem dX5_stepDown_20 : decode cX5_stepDown 20 = .ok (.aload_n 0, 1) := by decide +kernel
theorem dX5_stepDown_21 : decode cX5_stepDown 21 = .ok (.iload_n 1, 1) := by decide +kernel
theorem dX5_stepDown_22 : decode cX5_stepDown 22 = .ok (.iload_n 2, 1) := by decide +kernel
theorem dX5_stepDown_23 : decode cX5_stepDown 23 = .ok (.invokevirtual 41, 3) := by decide +kernel
theorem dX5_stepDown_26 : decode cX5_stepDown 26 = .ok (.aload_n 0, 1) := by decide +kernel
theorem dX5_stepDown_27 : decode cX5_stepDown 27 = .ok (.iload_n 1, 1) := by decide +kernel
theorem dX5_stepDown_28 : decode cX5_stepDown 28 = .ok (.iload_n 2, 1) := by decide +kernel
theorem dX5_stepDown_29 : decode cX5_stepDown 29 = .ok (.iconst 1, 1) := by decide +kernel
theorem dX5_stepDown_30 : decode cX5_stepDown 30 = .ok (.iadd, 1) := by decide +kernel
theorem dX5_stepDown_31 : decode cX5_stepDown 31 = .ok (.invokevirtual 41, 3) := by decide +kernel
theorem dX5_stepDown_34 : decode cX5_stepDown 34 = .ok (.isub, 1) := by decide +kernel
theorem dX5_stepDown_35 : decode cX5_stepDown 35 = .ok (.invokestatic 44, 3) := by decide +kernel
theorem dX5_stepDown_38 : decode cX5_stepDown 38 = .ok (.goto 4, 3) := by decide +kernel
theorem dX5_stepDown_41 : decode cX5_stepDown 41 = .ok (.iconst (-1), 1) := by decide +kernel
theorem dX5_stepDown_42 : decode cX5_stepDown 42 = .ok (.ireturn, 1) := by decide +kernel
theorem dX5_least_0 : decode cX5_least 0 = .ok (.sipush 255, 3) := by decide +kernel
theorem dX5_least_3 : decode cX5_least 3 = .ok (.istore_n 1, 1) := by decide +kernel
theorem dX5_least_4 : decode cX5_least 4 = .ok (.iconst 0, 1) := by decide +kernel
theorem dX5_least_5 : decode cX5_least 5 = .ok (.istore_n 2, 1) := by decide +kernel
theorem dX5_least_6 : decode cX5_least 6 = .ok (.iload_n 2, 1) := by decide +kernel
theorem dX5_least_7 : decode cX5_least 7 = .ok (.aload_n 0, 1) := by decide +kernel
theorem dX5_least_8 : decode cX5_least 8 = .ok (.invokevirtual 48, 3) := by decide +kernel
theorem dX5_least_11 : decode cX5_least 11 = .ok (.if_icmp .ge 20, 3) := by decide +kernel
theorem dX5_least_14 : decode cX5_least 14 = .ok (.iload_n 1, 1) := by decide +kernel
theorem dX5_least_15 : decode cX5_least 15 = .ok (.aload_n 0, 1) := by decide +kernel
theorem dX5_least_16 : decode cX5_least 16 = .ok (.getfield 9, 3) := by decide +kernel
theorem dX5_least_19 : decode cX5_least 19 = .ok (.iload_n 2, 1) := by decide +kernel
theorem dX5_least_20 : decode cX5_least 20 = .ok (.iaload, 1) := by decide +kernel
theorem dX5_least_21 : decode cX5_least 21 = .ok (.invokestatic 22, 3) := by decide +kernel
theorem dX5_least_24 : decode cX5_least 24 = .ok (.istore_n 1, 1) := by decide +kernel
theorem dX5_least_25 : decode cX5_least 25 = .ok (.iinc 2 1, 3) := by decide +kernel
theorem dX5_least_28 : decode cX5_least 28 = .ok (.goto (-22), 3) := by decide +kernel
theorem dX5_least_31 : decode cX5_least 31 = .ok (.iload_n 1, 1) := by decide +kernel
theorem dX5_least_32 : decode cX5_least 32 = .ok (.ireturn, 1) := by decide +kernel
theorem dX5_greatest_0 : decode cX5_greatest 0 = .ok (.iconst 0, 1) := by decide +kernel
theorem dX5_greatest_1 : decode cX5_greatest 1 = .ok (.istore_n 1, 1) := by decide +kernel
theorem dX5_greatest_2 : decode cX5_greatest 2 = .ok (.iconst 0, 1) := by decide +kernel
theorem dX5_greatest_3 : decode cX5_greatest 3 = .ok (.istore_n 2, 1) := by decide +kernel
theorem dX5_greatest_4 : decode cX5_greatest 4 = .ok (.iload_n 2, 1) := by decide +kernel
theorem dX5_greatest_5 : decode cX5_greatest 5 = .ok (.aload_n 0, 1) := by decide +kernel
theorem dX5_greatest_6 : decode cX5_greatest 6 = .ok (.invokevirtual 48, 3) := by decide +kernel
theorem dX5_greatest_9 : decode cX5_greatest 9 = .ok (.if_icmp .ge 20, 3) := by decide +kernel
theorem dX5_greatest_12 : decode cX5_greatest 12 = .ok (.iload_n 1, 1) := by decide +kernel
theorem dX5_greatest_13 : decode cX5_greatest 13 = .ok (.aload_n 0, 1) := by decide +kernel
theorem dX5_greatest_14 : decode cX5_greatest 14 = .ok (.getfield 9, 3) := by decide +kernel
theorem dX5_greatest_17 : decode cX5_greatest 17 = .ok (.iload_n 2, 1) := by decide +kernel
theorem dX5_greatest_18 : decode cX5_greatest 18 = .ok (.iaload, 1) := by decide +kernel
theorem dX5_greatest_19 : decode cX5_greatest 19 = .ok (.invokestatic 28, 3) := by decide +kernel
theorem dX5_greatest_22 : decode cX5_greatest 22 = .ok (.istore_n 1, 1) := by decide +kernel
theorem dX5_greatest_23 : decode cX5_greatest 23 = .ok (.iinc 2 1, 3) := by decide +kernel
theorem dX5_greatest_26 : decode cX5_greatest 26 = .ok (.goto (-22), 3) := by decide +kernel
theorem dX5_greatest_29 : decode cX5_greatest 29 = .ok (.iload_n 1, 1) := by decide +kernel
theorem dX5_greatest_30 : decode cX5_greatest 30 = .ok (.ireturn, 1) := by decide +kernel
theorem dX5_together_0 : decode cX5_together 0 = .ok (.iconst 0, 1) := by decide +kernel
theorem dX5_together_1 : decode cX5_together 1 = .ok (.istore_n 1, 1) := by decide +kernel
theorem dX5_together_2 : decode cX5_together 2 = .ok (.iconst 0, 1) := by decide +kernel
theorem dX5_together_3 : decode cX5_together 3 = .ok (.istore_n 2, 1) := by decide +kernel
theorem dX5_together_4 : decode cX5_together 4 = .ok (.iload_n 2, 1) := by decide +kernel
theorem dX5_together_5 : decode cX5_together 5 = .ok (.aload_n 0, 1) := by decide +kernel
theorem dX5_together_6 : decode cX5_together 6 = .ok (.invokevirtual 48, 3) := by decide +kernel
theorem dX5_together_9 : decode cX5_together 9 = .ok (.if_icmp .ge 18, 3) := by decide +kernel
theorem dX5_together_12 : decode cX5_together 12 = .ok (.iload_n 1, 1) := by decide +kernel
theorem dX5_together_13 : decode cX5_together 13 = .ok (.aload_n 0, 1) := by decide +kernel
theorem dX5_together_14 : decode cX5_together 14 = .ok (.getfield 9, 3) := by decide +kernel
theorem dX5_together_17 : decode cX5_together 17 = .ok (.iload_n 2, 1) := by decide +kernel
theorem dX5_together_18 : decode cX5_together 18 = .ok (.iaload, 1) := by decide +kernel
theorem dX5_together_19 : decode cX5_together 19 = .ok (.iadd, 1) := by decide +kernel
theorem dX5_together_20 : decode cX5_together 20 = .ok (.istore_n 1, 1) := by decide +kernel
theorem dX5_together_21 : decode cX5_together 21 = .ok (.iinc 2 1, 3) := by decide +kernel
theorem dX5_together_24 : decode cX5_together 24 = .ok (.goto (-20), 3) := by decide +kernel
theorem dX5_together_27 : decode cX5_together 27 = .ok (.iload_n 1, 1) := by decide +kernel
theorem dX5_together_28 : decode cX5_together 28 = .ok (.ireturn, 1) := by decide +kernel
theorem dX7_clear_0 : decode cX7_clear 0 = .ok (.aload_n 0, 1) := by decide +kernel
theorem dX7_clear_1 : decode cX7_clear 1 = .ok (.getfield 9, 3) := by decide +kernel
theorem dX7_clear_4 : decode cX7_clear 4 = .ok (.iconst 0, 1) := by decide +kernel
theorem dX7_clear_5 : decode cX7_clear 5 = .ok (.invokestatic 15, 3) := by decide +kernel
theorem dX7_clear_8 : decode cX7_clear 8 = .ok (.aload_n 0, 1) := by decide +kernel
theorem dX7_clear_9 : decode cX7_clear 9 = .ok (.iconst 0, 1) := by decide +kernel
theorem dX7_clear_10 : decode cX7_clear 10 = .ok (.putfield 21, 3) := by decide +kernel
theorem dX7_clear_13 : decode cX7_clear 13 = .ok (.aload_n 0, 1) := by decide +kernel
theorem dX7_clear_14 : decode cX7_clear 14 = .ok (.iconst 0, 1) := by decide +kernel
theorem dX7_clear_15 : decode cX7_clear 15 = .ok (.putfield 25, 3) := by decide +kernel
theorem dX7_clear_18 : decode cX7_clear 18 = .ok (.return_, 1) := by decide +kernel
theorem dX7_add_0 : decode cX7_add 0 = .ok (.iload_n 1, 1) := by decide +kernel
theorem dX7_add_1 : decode cX7_add 1 = .ok (.invokestatic 28, 3) := by decide +kernel
theorem dX7_add_4 : decode cX7_add 4 = .ok (.ifCond .eq 33, 3) := by decide +kernel
theorem dX7_add_7 : decode cX7_add 7 = .ok (.aload_n 0, 1) := by decide +kernel
theorem dX7_add_8 : decode cX7_add 8 = .ok (.getfield 9, 3) := by decide +kernel
theorem dX7_add_11 : decode cX7_add 11 = .ok (.iload_n 1, 1) := by decide +kernel
theorem dX7_add_12 : decode cX7_add 12 = .ok (.dup2, 1) := by decide +kernel
theorem dX7_add_13 : decode cX7_add 13 = .ok (.iaload, 1) := by decide +kernel
theorem dX7_add_14 : decode cX7_add 14 = .ok (.iconst 1, 1) := by decide +kernel
theorem dX7_add_15 : decode cX7_add 15 = .ok (.iadd, 1) := by decide +kernel
theorem dX7_add_16 : decode cX7_add 16 = .ok (.iastore, 1) := by decide +kernel
theorem dX7_add_17 : decode cX7_add 17 = .ok (.aload_n 0, 1) := by decide +kernel
theorem dX7_add_18 : decode cX7_add 18 = .ok (.dup, 1) := by decide +kernel
theorem dX7_add_19 : decode cX7_add 19 = .ok (.getfield 21, 3) := by decide +kernel
theorem dX7_add_22 : decode cX7_add 22 = .ok (.iconst 1, 1) := by decide +kernel
theorem dX7_add_23 : decode cX7_add 23 = .ok (.iadd, 1) := by decide +kernel
theorem dX7_add_24 : decode cX7_add 24 = .ok (.putfield 21, 3) := by decide +kernel
theorem dX7_add_27 : decode cX7_add 27 = .ok (.aload_n 0, 1) := by decide +kernel
theorem dX7_add_28 : decode cX7_add 28 = .ok (.dup, 1) := by decide +kernel
theorem dX7_add_29 : decode cX7_add 29 = .ok (.getfield 25, 3) := by decide +kernel
theorem dX7_add_32 : decode cX7_add 32 = .ok (.iload_n 1, 1) := by decide +kernel
theorem dX7_add_33 : decode cX7_add 33 = .ok (.iadd, 1) := by decide +kernel
theorem dX7_add_34 : decode cX7_add 34 = .ok (.putfield 25, 3) := by decide +kernel
theorem dX7_add_37 : decode cX7_add 37 = .ok (.return_, 1) := by decide +kernel
theorem dX7_unlike_0 : decode cX7_unlike 0 = .ok (.iconst 0, 1) := by decide +kernel
theorem dX7_unlike_1 : decode cX7_unlike 1 = .ok (.istore_n 1, 1) := by decide +kernel
theorem dX7_unlike_2 : decode cX7_unlike 2 = .ok (.iconst 0, 1) := by decide +kernel
theorem dX7_unlike_3 : decode cX7_unlike 3 = .ok (.istore_n 2, 1) := by decide +kernel
theorem dX7_unlike_4 : decode cX7_unlike 4 = .ok (.iload_n 2, 1) := by decide +kernel
theorem dX7_unlike_5 : decode cX7_unlike 5 = .ok (.sipush 256, 3) := by decide +kernel
theorem dX7_unlike_8 : decode cX7_unlike 8 = .ok (.if_icmp .ge 26, 3) := by decide +kernel
theorem dX7_unlike_11 : decode cX7_unlike 11 = .ok (.iload_n 1, 1) := by decide +kernel
theorem dX7_unlike_12 : decode cX7_unlike 12 = .ok (.aload_n 0, 1) := by decide +kernel
theorem dX7_unlike_13 : decode cX7_unlike 13 = .ok (.getfield 9, 3) := by decide +kernel
theorem dX7_unlike_16 : decode cX7_unlike 16 = .ok (.iload_n 2, 1) := by decide +kernel
theorem dX7_unlike_17 : decode cX7_unlike 17 = .ok (.iaload, 1) := by decide +kernel
theorem dX7_unlike_18 : decode cX7_unlike 18 = .ok (.ifCond .le 7, 3) := by decide +kernel
theorem dX7_unlike_21 : decode cX7_unlike 21 = .ok (.iconst 1, 1) := by decide +kernel
theorem dX7_unlike_22 : decode cX7_unlike 22 = .ok (.goto 4, 3) := by decide +kernel
theorem dX7_unlike_25 : decode cX7_unlike 25 = .ok (.iconst 0, 1) := by decide +kernel
theorem dX7_unlike_26 : decode cX7_unlike 26 = .ok (.iadd, 1) := by decide +kernel
theorem dX7_unlike_27 : decode cX7_unlike 27 = .ok (.istore_n 1, 1) := by decide +kernel
theorem dX7_unlike_28 : decode cX7_unlike 28 = .ok (.iinc 2 1, 3) := by decide +kernel
theorem dX7_unlike_31 : decode cX7_unlike 31 = .ok (.goto (-27), 3) := by decide +kernel
theorem dX7_unlike_34 : decode cX7_unlike 34 = .ok (.iload_n 1, 1) := by decide +kernel
theorem dX7_unlike_35 : decode cX7_unlike 35 = .ok (.ireturn, 1) := by decide +kernel
theorem dX7_mean_0 : decode cX7_mean 0 = .ok (.aload_n 0, 1) := by decide +kernel
theorem dX7_mean_1 : decode cX7_mean 1 = .ok (.getfield 25, 3) := by decide +kernel
theorem dX7_mean_4 : decode cX7_mean 4 = .ok (.i2l, 1) := by decide +kernel
theorem dX7_mean_5 : decode cX7_mean 5 = .ok (.aload_n 0, 1) := by decide +kernel
theorem dX7_mean_6 : decode cX7_mean 6 = .ok (.getfield 21, 3) := by decide +kernel
theorem dX7_mean_9 : decode cX7_mean 9 = .ok (.i2l, 1) := by decide +kernel
theorem dX7_mean_10 : decode cX7_mean 10 = .ok (.invokestatic 32, 3) := by decide +kernel
theorem dX7_mean_13 : decode cX7_mean 13 = .ok (.ireturn, 1) := by decide +kernel
theorem dX7_middle_0 : decode cX7_middle 0 = .ok (.aload_n 0, 1) := by decide +kernel
theorem dX7_middle_1 : decode cX7_middle 1 = .ok (.aload_n 0, 1) := by decide +kernel
theorem dX7_middle_2 : decode cX7_middle 2 = .ok (.getfield 21, 3) := by decide +kernel
theorem dX7_middle_5 : decode cX7_middle 5 = .ok (.iconst 1, 1) := by decide +kernel
theorem dX7_middle_6 : decode cX7_middle 6 = .ok (.isub, 1) := by decide +kernel
theorem dX7_middle_7 : decode cX7_middle 7 = .ok (.iconst 2, 1) := by decide +kernel
theorem dX7_middle_8 : decode cX7_middle 8 = .ok (.idiv, 1) := by decide +kernel
theorem dX7_middle_9 : decode cX7_middle 9 = .ok (.invokevirtual 36, 3) := by decide +kernel
theorem dX7_middle_12 : decode cX7_middle 12 = .ok (.ireturn, 1) := by decide +kernel
theorem dX7_ofRank_0 : decode cX7_ofRank 0 = .ok (.iload_n 1, 1) := by decide +kernel
theorem dX7_ofRank_1 : decode cX7_ofRank 1 = .ok (.istore_n 2, 1) := by decide +kernel
theorem dX7_ofRank_2 : decode cX7_ofRank 2 = .ok (.iconst 0, 1) := by decide +kernel
theorem dX7_ofRank_3 : decode cX7_ofRank 3 = .ok (.istore_n 3, 1) := by decide +kernel
theorem dX7_ofRank_4 : decode cX7_ofRank 4 = .ok (.iload_n 3, 1) := by decide +kernel
theorem dX7_ofRank_5 : decode cX7_ofRank 5 = .ok (.sipush 256, 3) := by decide +kernel
theorem dX7_ofRank_8 : decode cX7_ofRank 8 = .ok (.if_icmp .ge 30, 3) := by decide +kernel
theorem dX7_ofRank_11 : decode cX7_ofRank 11 = .ok (.iload_n 2, 1) := by decide +kernel
theorem dX7_ofRank_12 : decode cX7_ofRank 12 = .ok (.aload_n 0, 1) := by decide +kernel
theorem dX7_ofRank_13 : decode cX7_ofRank 13 = .ok (.getfield 9, 3) := by decide +kernel
theorem dX7_ofRank_16 : decode cX7_ofRank 16 = .ok (.iload_n 3, 1) := by decide +kernel
theorem dX7_ofRank_17 : decode cX7_ofRank 17 = .ok (.iaload, 1) := by decide +kernel
theorem dX7_ofRank_18 : decode cX7_ofRank 18 = .ok (.if_icmp .ge 5, 3) := by decide +kernel
theorem dX7_ofRank_21 : decode cX7_ofRank 21 = .ok (.iload_n 3, 1) := by decide +kernel
theorem dX7_ofRank_22 : decode cX7_ofRank 22 = .ok (.ireturn, 1) := by decide +kernel
theorem dX7_ofRank_23 : decode cX7_ofRank 23 = .ok (.iload_n 2, 1) := by decide +kernel
theorem dX7_ofRank_24 : decode cX7_ofRank 24 = .ok (.aload_n 0, 1) := by decide +kernel
theorem dX7_ofRank_25 : decode cX7_ofRank 25 = .ok (.getfield 9, 3) := by decide +kernel
theorem dX7_ofRank_28 : decode cX7_ofRank 28 = .ok (.iload_n 3, 1) := by decide +kernel
theorem dX7_ofRank_29 : decode cX7_ofRank 29 = .ok (.iaload, 1) := by decide +kernel
theorem dX7_ofRank_30 : decode cX7_ofRank 30 = .ok (.isub, 1) := by decide +kernel
theorem dX7_ofRank_31 : decode cX7_ofRank 31 = .ok (.istore_n 2, 1) := by decide +kernel
theorem dX7_ofRank_32 : decode cX7_ofRank 32 = .ok (.iinc 3 1, 3) := by decide +kernel
theorem dX7_ofRank_35 : decode cX7_ofRank 35 = .ok (.goto (-31), 3) := by decide +kernel
theorem dX7_ofRank_38 : decode cX7_ofRank 38 = .ok (.iconst (-1), 1) := by decide +kernel
theorem dX7_ofRank_39 : decode cX7_ofRank 39 = .ok (.ireturn, 1) := by decide +kernel
theorem dX8_append_0 : decode cX8_append 0 = .ok (.bipush 24, 2) := by decide +kernel
theorem dX8_append_2 : decode cX8_append 2 = .ok (.istore_n 2, 1) := by decide +kernel
theorem dX8_append_3 : decode cX8_append 3 = .ok (.iload_n 2, 1) := by decide +kernel
theorem dX8_append_4 : decode cX8_append 4 = .ok (.ifCond .lt 45, 3) := by decide +kernel
theorem dX8_append_7 : decode cX8_append 7 = .ok (.aload_n 0, 1) := by decide +kernel
theorem dX8_append_8 : decode cX8_append 8 = .ok (.getfield 15, 3) := by decide +kernel
theorem dX8_append_11 : decode cX8_append 11 = .ok (.sipush 700, 3) := by decide +kernel
theorem dX8_append_14 : decode cX8_append 14 = .ok (.if_icmp .ge 29, 3) := by decide +kernel
theorem dX8_append_17 : decode cX8_append 17 = .ok (.aload_n 0, 1) := by decide +kernel
theorem dX8_append_18 : decode cX8_append 18 = .ok (.getfield 9, 3) := by decide +kernel
theorem dX8_append_21 : decode cX8_append 21 = .ok (.aload_n 0, 1) := by decide +kernel
theorem dX8_append_22 : decode cX8_append 22 = .ok (.getfield 15, 3) := by decide +kernel
theorem dX8_append_25 : decode cX8_append 25 = .ok (.iload_n 1, 1) := by decide +kernel
theorem dX8_append_26 : decode cX8_append 26 = .ok (.iload_n 2, 1) := by decide +kernel
theorem dX8_append_27 : decode cX8_append 27 = .ok (.iushr, 1) := by decide +kernel
theorem dX8_append_28 : decode cX8_append 28 = .ok (.sipush 255, 3) := by decide +kernel
theorem dX8_append_31 : decode cX8_append 31 = .ok (.iand, 1) := by decide +kernel
theorem dX8_append_32 : decode cX8_append 32 = .ok (.iastore, 1) := by decide +kernel
theorem dX8_append_33 : decode cX8_append 33 = .ok (.aload_n 0, 1) := by decide +kernel
theorem dX8_append_34 : decode cX8_append 34 = .ok (.dup, 1) := by decide +kernel
theorem dX8_append_35 : decode cX8_append 35 = .ok (.getfield 15, 3) := by decide +kernel
theorem dX8_append_38 : decode cX8_append 38 = .ok (.iconst 1, 1) := by decide +kernel
theorem dX8_append_39 : decode cX8_append 39 = .ok (.iadd, 1) := by decide +kernel
theorem dX8_append_40 : decode cX8_append 40 = .ok (.putfield 15, 3) := by decide +kernel
theorem dX8_append_43 : decode cX8_append 43 = .ok (.iinc 2 (-8), 3) := by decide +kernel
theorem dX8_append_46 : decode cX8_append 46 = .ok (.goto (-43), 3) := by decide +kernel
theorem dX8_append_49 : decode cX8_append 49 = .ok (.return_, 1) := by decide +kernel
theorem dX8_beginText_0 : decode cX8_beginText 0 = .ok (.aload_n 0, 1) := by decide +kernel
theorem dX8_beginText_1 : decode cX8_beginText 1 = .ok (.iconst 0, 1) := by decide +kernel
theorem dX8_beginText_2 : decode cX8_beginText 2 = .ok (.aload_n 0, 1) := by decide +kernel
theorem dX8_beginText_3 : decode cX8_beginText 3 = .ok (.getfield 15, 3) := by decide +kernel
theorem dX8_beginText_6 : decode cX8_beginText 6 = .ok (.iload_n 1, 1) := by decide +kernel
theorem dX8_beginText_7 : decode cX8_beginText 7 = .ok (.invokestatic 19, 3) := by decide +kernel
theorem dX8_beginText_10 : decode cX8_beginText 10 = .ok (.invokestatic 25, 3) := by decide +kernel
theorem dX8_beginText_13 : decode cX8_beginText 13 = .ok (.putfield 28, 3) := by decide +kernel
theorem dX8_beginText_16 : decode cX8_beginText 16 = .ok (.aload_n 0, 1) := by decide +kernel
theorem dX8_beginText_17 : decode cX8_beginText 17 = .ok (.iconst 0, 1) := by decide +kernel
theorem dX8_beginText_18 : decode cX8_beginText 18 = .ok (.putfield 31, 3) := by decide +kernel
theorem dX8_beginText_21 : decode cX8_beginText 21 = .ok (.return_, 1) := by decide +kernel
theorem dX8_nextToken_0 : decode cX8_nextToken 0 = .ok (.aload_n 0, 1) := by decide +kernel
theorem dX8_nextToken_1 : decode cX8_nextToken 1 = .ok (.getfield 31, 3) := by decide +kernel
theorem dX8_nextToken_4 : decode cX8_nextToken 4 = .ok (.aload_n 0, 1) := by decide +kernel
theorem dX8_nextToken_5 : decode cX8_nextToken 5 = .ok (.getfield 28, 3) := by decide +kernel
theorem dX8_nextToken_8 : decode cX8_nextToken 8 = .ok (.if_icmp .ge 30, 3) := by decide +kernel
theorem dX8_nextToken_11 : decode cX8_nextToken 11 = .ok (.aload_n 0, 1) := by decide +kernel
theorem dX8_nextToken_12 : decode cX8_nextToken 12 = .ok (.getfield 9, 3) := by decide +kernel
theorem dX8_nextToken_15 : decode cX8_nextToken 15 = .ok (.aload_n 0, 1) := by decide +kernel
theorem dX8_nextToken_16 : decode cX8_nextToken 16 = .ok (.getfield 31, 3) := by decide +kernel
theorem dX8_nextToken_19 : decode cX8_nextToken 19 = .ok (.iaload, 1) := by decide +kernel
theorem dX8_nextToken_20 : decode cX8_nextToken 20 = .ok (.bipush 32, 2) := by decide +kernel
theorem dX8_nextToken_22 : decode cX8_nextToken 22 = .ok (.if_icmp .ne 16, 3) := by decide +kernel
theorem dX8_nextToken_25 : decode cX8_nextToken 25 = .ok (.aload_n 0, 1) := by decide +kernel
theorem dX8_nextToken_26 : decode cX8_nextToken 26 = .ok (.dup, 1) := by decide +kernel
theorem dX8_nextToken_27 : decode cX8_nextToken 27 = .ok (.getfield 31, 3) := by decide +kernel
theorem dX8_nextToken_30 : decode cX8_nextToken 30 = .ok (.iconst 1, 1) := by decide +kernel
theorem dX8_nextToken_31 : decode cX8_nextToken 31 = .ok (.iadd, 1) := by decide +kernel
theorem dX8_nextToken_32 : decode cX8_nextToken 32 = .ok (.putfield 31, 3) := by decide +kernel
theorem dX8_nextToken_35 : decode cX8_nextToken 35 = .ok (.goto (-35), 3) := by decide +kernel
theorem dX8_nextToken_38 : decode cX8_nextToken 38 = .ok (.aload_n 0, 1) := by decide +kernel
theorem dX8_nextToken_39 : decode cX8_nextToken 39 = .ok (.aload_n 0, 1) := by decide +kernel
theorem dX8_nextToken_40 : decode cX8_nextToken 40 = .ok (.getfield 31, 3) := by decide +kernel
theorem dX8_nextToken_43 : decode cX8_nextToken 43 = .ok (.putfield 34, 3) := by decide +kernel
theorem dX8_nextToken_46 : decode cX8_nextToken 46 = .ok (.aload_n 0, 1) := by decide +kernel
theorem dX8_nextToken_47 : decode cX8_nextToken 47 = .ok (.getfield 31, 3) := by decide +kernel
theorem dX8_nextToken_50 : decode cX8_nextToken 50 = .ok (.aload_n 0, 1) := by decide +kernel
theorem dX8_nextToken_51 : decode cX8_nextToken 51 = .ok (.getfield 28, 3) := by decide +kernel
theorem dX8_nextToken_54 : decode cX8_nextToken 54 = .ok (.if_icmp .ge 31, 3) := by decide +kernel
theorem dX8_nextToken_57 : decode cX8_nextToken 57 = .ok (.aload_n 0, 1) := by decide +kernel
theorem dX8_nextToken_58 : decode cX8_nextToken 58 = .ok (.getfield 9, 3) := by decide +kernel
theorem dX8_nextToken_61 : decode cX8_nextToken 61 = .ok (.aload_n 0, 1) := by decide +kernel
theorem dX8_nextToken_62 : decode cX8_nextToken 62 = .ok (.getfield 31, 3) := by decide +kernel
theorem dX8_nextToken_65 : decode cX8_nextToken 65 = .ok (.iaload, 1) := by decide +kernel
theorem dX8_nextToken_66 : decode cX8_nextToken 66 = .ok (.invokestatic 37, 3) := by decide +kernel
theorem dX8_nextToken_69 : decode cX8_nextToken 69 = .ok (.ifCond .eq 16, 3) := by decide +kernel
theorem dX8_nextToken_72 : decode cX8_nextToken 72 = .ok (.aload_n 0, 1) := by decide +kernel
theorem dX8_nextToken_73 : decode cX8_nextToken 73 = .ok (.dup, 1) := by decide +kernel
theorem dX8_nextToken_74 : decode cX8_nextToken 74 = .ok (.getfield 31, 3) := by decide +kernel
theorem dX8_nextToken_77 : decode cX8_nextToken 77 = .ok (.iconst 1, 1) := by decide +kernel
theorem dX8_nextToken_78 : decode cX8_nextToken 78 = .ok (.iadd, 1) := by decide +kernel
theorem dX8_nextToken_79 : decode cX8_nextToken 79 = .ok (.putfield 31, 3) := by decide +kernel
theorem dX8_nextToken_82 : decode cX8_nextToken 82 = .ok (.goto (-36), 3) := by decide +kernel
theorem dX8_nextToken_85 : decode cX8_nextToken 85 = .ok (.aload_n 0, 1) := by decide +kernel
theorem dX8_nextToken_86 : decode cX8_nextToken 86 = .ok (.aload_n 0, 1) := by decide +kernel
theorem dX8_nextToken_87 : decode cX8_nextToken 87 = .ok (.getfield 31, 3) := by decide +kernel
theorem dX8_nextToken_90 : decode cX8_nextToken 90 = .ok (.aload_n 0, 1) := by decide +kernel
theorem dX8_nextToken_91 : decode cX8_nextToken 91 = .ok (.getfield 34, 3) := by decide +kernel
theorem dX8_nextToken_94 : decode cX8_nextToken 94 = .ok (.isub, 1) := by decide +kernel
theorem dX8_nextToken_95 : decode cX8_nextToken 95 = .ok (.putfield 41, 3) := by decide +kernel
theorem dX8_nextToken_98 : decode cX8_nextToken 98 = .ok (.aload_n 0, 1) := by decide +kernel
theorem dX8_nextToken_99 : decode cX8_nextToken 99 = .ok (.getfield 41, 3) := by decide +kernel
theorem dX8_nextToken_102 : decode cX8_nextToken 102 = .ok (.ifCond .le 24, 3) := by decide +kernel
theorem dX8_nextToken_105 : decode cX8_nextToken 105 = .ok (.aload_n 0, 1) := by decide +kernel
theorem dX8_nextToken_106 : decode cX8_nextToken 106 = .ok (.aload_n 0, 1) := by decide +kernel
theorem dX8_nextToken_107 : decode cX8_nextToken 107 = .ok (.getfield 41, 3) := by decide +kernel
theorem dX8_nextToken_110 : decode cX8_nextToken 110 = .ok (.bipush 16, 2) := by decide +kernel
theorem dX8_nextToken_112 : decode cX8_nextToken 112 = .ok (.if_icmp .gt 7, 3) := by decide +kernel
theorem dX8_nextToken_115 : decode cX8_nextToken 115 = .ok (.iconst 1, 1) := by decide +kernel
theorem dX8_nextToken_116 : decode cX8_nextToken 116 = .ok (.goto 4, 3) := by decide +kernel
theorem dX8_nextToken_119 : decode cX8_nextToken 119 = .ok (.iconst 4, 1) := by decide +kernel
theorem dX8_nextToken_120 : decode cX8_nextToken 120 = .ok (.putfield 44, 3) := by decide +kernel
theorem dX8_nextToken_123 : decode cX8_nextToken 123 = .ok (.goto 48, 3) := by decide +kernel
theorem dX8_nextToken_126 : decode cX8_nextToken 126 = .ok (.aload_n 0, 1) := by decide +kernel
theorem dX8_nextToken_127 : decode cX8_nextToken 127 = .ok (.getfield 31, 3) := by decide +kernel
theorem dX8_nextToken_130 : decode cX8_nextToken 130 = .ok (.aload_n 0, 1) := by decide +kernel
theorem dX8_nextToken_131 : decode cX8_nextToken 131 = .ok (.getfield 28, 3) := by decide +kernel
theorem dX8_nextToken_134 : decode cX8_nextToken 134 = .ok (.if_icmp .lt 11, 3) := by decide +kernel
theorem dX8_nextToken_137 : decode cX8_nextToken 137 = .ok (.aload_n 0, 1) := by decide +kernel
theorem dX8_nextToken_138 : decode cX8_nextToken 138 = .ok (.iconst 0, 1) := by decide +kernel
theorem dX8_nextToken_139 : decode cX8_nextToken 139 = .ok (.putfield 44, 3) := by decide +kernel
theorem dX8_nextToken_142 : decode cX8_nextToken 142 = .ok (.goto 29, 3) := by decide +kernel
theorem dX8_nextToken_145 : decode cX8_nextToken 145 = .ok (.aload_n 0, 1) := by decide +kernel
theorem dX8_nextToken_146 : decode cX8_nextToken 146 = .ok (.aload_n 0, 1) := by decide +kernel
theorem dX8_nextToken_147 : decode cX8_nextToken 147 = .ok (.getfield 9, 3) := by decide +kernel
theorem dX8_nextToken_150 : decode cX8_nextToken 150 = .ok (.aload_n 0, 1) := by decide +kernel
theorem dX8_nextToken_151 : decode cX8_nextToken 151 = .ok (.getfield 31, 3) := by decide +kernel
theorem dX8_nextToken_154 : decode cX8_nextToken 154 = .ok (.iaload, 1) := by decide +kernel
theorem dX8_nextToken_155 : decode cX8_nextToken 155 = .ok (.invokestatic 47, 3) := by decide +kernel
theorem dX8_nextToken_158 : decode cX8_nextToken 158 = .ok (.putfield 44, 3) := by decide +kernel
theorem dX8_nextToken_161 : decode cX8_nextToken 161 = .ok (.aload_n 0, 1) := by decide +kernel
theorem dX8_nextToken_162 : decode cX8_nextToken 162 = .ok (.dup, 1) := by decide +kernel
theorem dX8_nextToken_163 : decode cX8_nextToken 163 = .ok (.getfield 31, 3) := by decide +kernel
theorem dX8_nextToken_166 : decode cX8_nextToken 166 = .ok (.iconst 1, 1) := by decide +kernel
theorem dX8_nextToken_167 : decode cX8_nextToken 167 = .ok (.iadd, 1) := by decide +kernel
theorem dX8_nextToken_168 : decode cX8_nextToken 168 = .ok (.putfield 31, 3) := by decide +kernel
theorem dX8_nextToken_171 : decode cX8_nextToken 171 = .ok (.return_, 1) := by decide +kernel
theorem dX8_wordLetter_0 : decode cX8_wordLetter 0 = .ok (.iload_n 1, 1) := by decide +kernel
theorem dX8_wordLetter_1 : decode cX8_wordLetter 1 = .ok (.ifCond .lt 28, 3) := by decide +kernel
theorem dX8_wordLetter_4 : decode cX8_wordLetter 4 = .ok (.iload_n 1, 1) := by decide +kernel
theorem dX8_wordLetter_5 : decode cX8_wordLetter 5 = .ok (.aload_n 0, 1) := by decide +kernel
theorem dX8_wordLetter_6 : decode cX8_wordLetter 6 = .ok (.getfield 41, 3) := by decide +kernel
theorem dX8_wordLetter_9 : decode cX8_wordLetter 9 = .ok (.if_icmp .ge 20, 3) := by decide +kernel
theorem dX8_wordLetter_12 : decode cX8_wordLetter 12 = .ok (.aload_n 0, 1) := by decide +kernel
theorem dX8_wordLetter_13 : decode cX8_wordLetter 13 = .ok (.getfield 9, 3) := by decide +kernel
theorem dX8_wordLetter_16 : decode cX8_wordLetter 16 = .ok (.aload_n 0, 1) := by decide +kernel
theorem dX8_wordLetter_17 : decode cX8_wordLetter 17 = .ok (.getfield 34, 3) := by decide +kernel
theorem dX8_wordLetter_20 : decode cX8_wordLetter 20 = .ok (.iload_n 1, 1) := by decide +kernel
theorem dX8_wordLetter_21 : decode cX8_wordLetter 21 = .ok (.iadd, 1) := by decide +kernel
theorem dX8_wordLetter_22 : decode cX8_wordLetter 22 = .ok (.iaload, 1) := by decide +kernel
theorem dX8_wordLetter_23 : decode cX8_wordLetter 23 = .ok (.bipush 97, 2) := by decide +kernel
theorem dX8_wordLetter_25 : decode cX8_wordLetter 25 = .ok (.isub, 1) := by decide +kernel
theorem dX8_wordLetter_26 : decode cX8_wordLetter 26 = .ok (.goto 4, 3) := by decide +kernel
theorem dX8_wordLetter_29 : decode cX8_wordLetter 29 = .ok (.iconst (-1), 1) := by decide +kernel
theorem dX8_wordLetter_30 : decode cX8_wordLetter 30 = .ok (.ireturn, 1) := by decide +kernel
theorem dX8_isPic_0 : decode cX8_isPic 0 = .ok (.aload_n 0, 1) := by decide +kernel
theorem dX8_isPic_1 : decode cX8_isPic 1 = .ok (.getfield 44, 3) := by decide +kernel
theorem dX8_isPic_4 : decode cX8_isPic 4 = .ok (.iconst 1, 1) := by decide +kernel
theorem dX8_isPic_5 : decode cX8_isPic 5 = .ok (.if_icmp .ne 44, 3) := by decide +kernel
theorem dX8_isPic_8 : decode cX8_isPic 8 = .ok (.aload_n 0, 1) := by decide +kernel
theorem dX8_isPic_9 : decode cX8_isPic 9 = .ok (.getfield 41, 3) := by decide +kernel
theorem dX8_isPic_12 : decode cX8_isPic 12 = .ok (.iconst 3, 1) := by decide +kernel
theorem dX8_isPic_13 : decode cX8_isPic 13 = .ok (.if_icmp .ne 36, 3) := by decide +kernel
theorem dX8_isPic_16 : decode cX8_isPic 16 = .ok (.aload_n 0, 1) := by decide +kernel
theorem dX8_isPic_17 : decode cX8_isPic 17 = .ok (.iconst 0, 1) := by decide +kernel
theorem dX8_isPic_18 : decode cX8_isPic 18 = .ok (.invokevirtual 51, 3) := by decide +kernel
theorem dX8_isPic_21 : decode cX8_isPic 21 = .ok (.bipush 15, 2) := by decide +kernel
theorem dX8_isPic_23 : decode cX8_isPic 23 = .ok (.if_icmp .ne 26, 3) := by decide +kernel
theorem dX8_isPic_26 : decode cX8_isPic 26 = .ok (.aload_n 0, 1) := by decide +kernel
theorem dX8_isPic_27 : decode cX8_isPic 27 = .ok (.iconst 1, 1) := by decide +kernel
theorem dX8_isPic_28 : decode cX8_isPic 28 = .ok (.invokevirtual 51, 3) := by decide +kernel
theorem dX8_isPic_31 : decode cX8_isPic 31 = .ok (.bipush 8, 2) := by decide +kernel
theorem dX8_isPic_33 : decode cX8_isPic 33 = .ok (.if_icmp .ne 16, 3) := by decide +kernel
theorem dX8_isPic_36 : decode cX8_isPic 36 = .ok (.aload_n 0, 1) := by decide +kernel
theorem dX8_isPic_37 : decode cX8_isPic 37 = .ok (.iconst 2, 1) := by decide +kernel
theorem dX8_isPic_38 : decode cX8_isPic 38 = .ok (.invokevirtual 51, 3) := by decide +kernel
theorem dX8_isPic_41 : decode cX8_isPic 41 = .ok (.iconst 2, 1) := by decide +kernel
theorem dX8_isPic_42 : decode cX8_isPic 42 = .ok (.if_icmp .ne 7, 3) := by decide +kernel
theorem dX8_isPic_45 : decode cX8_isPic 45 = .ok (.iconst 1, 1) := by decide +kernel
theorem dX8_isPic_46 : decode cX8_isPic 46 = .ok (.goto 4, 3) := by decide +kernel
theorem dX8_isPic_49 : decode cX8_isPic 49 = .ok (.iconst 0, 1) := by decide +kernel
theorem dX8_isPic_50 : decode cX8_isPic 50 = .ok (.ireturn, 1) := by decide +kernel
theorem dX8_isLetter_0 : decode cX8_isLetter 0 = .ok (.iload_n 0, 1) := by decide +kernel
theorem dX8_isLetter_1 : decode cX8_isLetter 1 = .ok (.bipush 97, 2) := by decide +kernel
theorem dX8_isLetter_3 : decode cX8_isLetter 3 = .ok (.bipush 122, 2) := by decide +kernel
theorem dX8_isLetter_5 : decode cX8_isLetter 5 = .ok (.invokestatic 54, 3) := by decide +kernel
theorem dX8_isLetter_8 : decode cX8_isLetter 8 = .ok (.ireturn, 1) := by decide +kernel
theorem dX8_markOf_0 : decode cX8_markOf 0 = .ok (.iload_n 0, 1) := by decide +kernel
theorem dX8_markOf_1 : decode cX8_markOf 1 = .ok (.bipush 47, 2) := by decide +kernel
theorem dX8_markOf_3 : decode cX8_markOf 3 = .ok (.if_icmp .ne 7, 3) := by decide +kernel
theorem dX8_markOf_6 : decode cX8_markOf 6 = .ok (.iconst 2, 1) := by decide +kernel
theorem dX8_markOf_7 : decode cX8_markOf 7 = .ok (.goto 14, 3) := by decide +kernel
theorem dX8_markOf_10 : decode cX8_markOf 10 = .ok (.iload_n 0, 1) := by decide +kernel
theorem dX8_markOf_11 : decode cX8_markOf 11 = .ok (.bipush 59, 2) := by decide +kernel
theorem dX8_markOf_13 : decode cX8_markOf 13 = .ok (.if_icmp .ne 7, 3) := by decide +kernel
theorem dX8_markOf_16 : decode cX8_markOf 16 = .ok (.iconst 3, 1) := by decide +kernel
theorem dX8_markOf_17 : decode cX8_markOf 17 = .ok (.goto 4, 3) := by decide +kernel
theorem dX8_markOf_20 : decode cX8_markOf 20 = .ok (.iconst 4, 1) := by decide +kernel
theorem dX8_markOf_21 : decode cX8_markOf 21 = .ok (.ireturn, 1) := by decide +kernel
theorem dX9_faultOf_0 : decode cX9_faultOf 0 = .ok (.aload_n 0, 1) := by decide +kernel
theorem dX9_faultOf_1 : decode cX9_faultOf 1 = .ok (.getfield 20, 3) := by decide +kernel
theorem dX9_faultOf_4 : decode cX9_faultOf 4 = .ok (.iconst 0, 1) := by decide +kernel
theorem dX9_faultOf_5 : decode cX9_faultOf 5 = .ok (.putfield 25, 3) := by decide +kernel
theorem dX9_faultOf_8 : decode cX9_faultOf 8 = .ok (.aload_n 0, 1) := by decide +kernel
theorem dX9_faultOf_9 : decode cX9_faultOf 9 = .ok (.iconst 0, 1) := by decide +kernel
theorem dX9_faultOf_10 : decode cX9_faultOf 10 = .ok (.putfield 29, 3) := by decide +kernel
theorem dX9_faultOf_13 : decode cX9_faultOf 13 = .ok (.aload_n 1, 1) := by decide +kernel
theorem dX9_faultOf_14 : decode cX9_faultOf 14 = .ok (.iload_n 2, 1) := by decide +kernel
theorem dX9_faultOf_15 : decode cX9_faultOf 15 = .ok (.invokevirtual 32, 3) := by decide +kernel
theorem dX9_faultOf_18 : decode cX9_faultOf 18 = .ok (.iconst 0, 1) := by decide +kernel
theorem dX9_faultOf_19 : decode cX9_faultOf 19 = .ok (.istore_n 3, 1) := by decide +kernel
theorem dX9_faultOf_20 : decode cX9_faultOf 20 = .ok (.iconst 0, 1) := by decide +kernel
theorem dX9_faultOf_21 : decode cX9_faultOf 21 = .ok (.istore 4, 2) := by decide +kernel
theorem dX9_faultOf_23 : decode cX9_faultOf 23 = .ok (.iload 4, 2) := by decide +kernel
theorem dX9_faultOf_25 : decode cX9_faultOf 25 = .ok (.sipush 700, 3) := by decide +kernel
theorem dX9_faultOf_28 : decode cX9_faultOf 28 = .ok (.if_icmp .gt 31, 3) := by decide +kernel
theorem dX9_faultOf_31 : decode cX9_faultOf 31 = .ok (.iload_n 3, 1) := by decide +kernel
theorem dX9_faultOf_32 : decode cX9_faultOf 32 = .ok (.ifCond .ne 27, 3) := by decide +kernel
theorem dX9_faultOf_35 : decode cX9_faultOf 35 = .ok (.aload_n 0, 1) := by decide +kernel
theorem dX9_faultOf_36 : decode cX9_faultOf 36 = .ok (.getfield 29, 3) := by decide +kernel
theorem dX9_faultOf_39 : decode cX9_faultOf 39 = .ok (.iconst 5, 1) := by decide +kernel
theorem dX9_faultOf_40 : decode cX9_faultOf 40 = .ok (.if_icmp .eq 19, 3) := by decide +kernel
theorem dX9_faultOf_43 : decode cX9_faultOf 43 = .ok (.aload_n 1, 1) := by decide +kernel
theorem dX9_faultOf_44 : decode cX9_faultOf 44 = .ok (.invokevirtual 38, 3) := by decide +kernel
theorem dX9_faultOf_47 : decode cX9_faultOf 47 = .ok (.aload_n 0, 1) := by decide +kernel
theorem dX9_faultOf_48 : decode cX9_faultOf 48 = .ok (.aload_n 1, 1) := by decide +kernel
theorem dX9_faultOf_49 : decode cX9_faultOf 49 = .ok (.invokevirtual 41, 3) := by decide +kernel
theorem dX9_faultOf_52 : decode cX9_faultOf 52 = .ok (.istore_n 3, 1) := by decide +kernel
theorem dX9_faultOf_53 : decode cX9_faultOf 53 = .ok (.iinc 4 1, 3) := by decide +kernel
theorem dX9_faultOf_56 : decode cX9_faultOf 56 = .ok (.goto (-33), 3) := by decide +kernel
theorem dX9_faultOf_59 : decode cX9_faultOf 59 = .ok (.iload_n 3, 1) := by decide +kernel
theorem dX9_faultOf_60 : decode cX9_faultOf 60 = .ok (.ireturn, 1) := by decide +kernel
theorem dX9_take_0 : decode cX9_take 0 = .ok (.aload_n 0, 1) := by decide +kernel
theorem dX9_take_1 : decode cX9_take 1 = .ok (.getfield 29, 3) := by decide +kernel
theorem dX9_take_4 : decode cX9_take 4 = .ok (.tableswitch 54 0 4 #[36, 42, 54, 54, 48], 36) := by decide +kernel
theorem dX9_take_40 : decode cX9_take 40 = .ok (.aload_n 0, 1) := by decide +kernel
theorem dX9_take_41 : decode cX9_take 41 = .ok (.aload_n 1, 1) := by decide +kernel
theorem dX9_take_42 : decode cX9_take 42 = .ok (.invokevirtual 45, 3) := by decide +kernel
theorem dX9_take_45 : decode cX9_take 45 = .ok (.ireturn, 1) := by decide +kernel
theorem dX9_take_46 : decode cX9_take 46 = .ok (.aload_n 0, 1) := by decide +kernel
theorem dX9_take_47 : decode cX9_take 47 = .ok (.aload_n 1, 1) := by decide +kernel
theorem dX9_take_48 : decode cX9_take 48 = .ok (.invokevirtual 48, 3) := by decide +kernel
theorem dX9_take_51 : decode cX9_take 51 = .ok (.ireturn, 1) := by decide +kernel
theorem dX9_take_52 : decode cX9_take 52 = .ok (.aload_n 0, 1) := by decide +kernel
theorem dX9_take_53 : decode cX9_take 53 = .ok (.aload_n 1, 1) := by decide +kernel
theorem dX9_take_54 : decode cX9_take 54 = .ok (.invokevirtual 51, 3) := by decide +kernel
theorem dX9_take_57 : decode cX9_take 57 = .ok (.ireturn, 1) := by decide +kernel
theorem dX9_take_58 : decode cX9_take 58 = .ok (.aload_n 0, 1) := by decide +kernel
theorem dX9_take_59 : decode cX9_take 59 = .ok (.aload_n 1, 1) := by decide +kernel
theorem dX9_take_60 : decode cX9_take 60 = .ok (.invokevirtual 54, 3) := by decide +kernel
theorem dX9_take_63 : decode cX9_take 63 = .ok (.ireturn, 1) := by decide +kernel
theorem dX9_takePic_0 : decode cX9_takePic 0 = .ok (.aload_n 1, 1) := by decide +kernel
theorem dX9_takePic_1 : decode cX9_takePic 1 = .ok (.invokevirtual 57, 3) := by decide +kernel
theorem dX9_takePic_4 : decode cX9_takePic 4 = .ok (.ifCond .ne 5, 3) := by decide +kernel
theorem dX9_takePic_7 : decode cX9_takePic 7 = .ok (.iconst 1, 1) := by decide +kernel
theorem dX9_takePic_8 : decode cX9_takePic 8 = .ok (.ireturn, 1) := by decide +kernel
theorem dX9_takePic_9 : decode cX9_takePic 9 = .ok (.aload_n 0, 1) := by decide +kernel
theorem dX9_takePic_10 : decode cX9_takePic 10 = .ok (.iconst 1, 1) := by decide +kernel
theorem dX9_takePic_11 : decode cX9_takePic 11 = .ok (.putfield 29, 3) := by decide +kernel
theorem dX9_takePic_14 : decode cX9_takePic 14 = .ok (.aload_n 0, 1) := by decide +kernel
theorem dX9_takePic_15 : decode cX9_takePic 15 = .ok (.getfield 20, 3) := by decide +kernel
theorem dX9_takePic_18 : decode cX9_takePic 18 = .ok (.getfield 25, 3) := by decide +kernel
theorem dX9_takePic_21 : decode cX9_takePic 21 = .ok (.iconst 4, 1) := by decide +kernel
theorem dX9_takePic_22 : decode cX9_takePic 22 = .ok (.if_icmp .ge 7, 3) := by decide +kernel
theorem dX9_takePic_25 : decode cX9_takePic 25 = .ok (.iconst 0, 1) := by decide +kernel
theorem dX9_takePic_26 : decode cX9_takePic 26 = .ok (.goto 4, 3) := by decide +kernel
theorem dX9_takePic_29 : decode cX9_takePic 29 = .ok (.iconst 4, 1) := by decide +kernel
theorem dX9_takePic_30 : decode cX9_takePic 30 = .ok (.ireturn, 1) := by decide +kernel
theorem dX9_takeName_0 : decode cX9_takeName 0 = .ok (.aload_n 1, 1) := by decide +kernel
theorem dX9_takeName_1 : decode cX9_takeName 1 = .ok (.getfield 61, 3) := by decide +kernel
theorem dX9_takeName_4 : decode cX9_takeName 4 = .ok (.iconst 1, 1) := by decide +kernel
theorem dX9_takeName_5 : decode cX9_takeName 5 = .ok (.if_icmp .eq 5, 3) := by decide +kernel
theorem dX9_takeName_8 : decode cX9_takeName 8 = .ok (.iconst 1, 1) := by decide +kernel
theorem dX9_takeName_9 : decode cX9_takeName 9 = .ok (.ireturn, 1) := by decide +kernel
theorem dX9_takeName_10 : decode cX9_takeName 10 = .ok (.aload_n 0, 1) := by decide +kernel
theorem dX9_takeName_11 : decode cX9_takeName 11 = .ok (.getfield 20, 3) := by decide +kernel
theorem dX9_takeName_14 : decode cX9_takeName 14 = .ok (.aload_n 1, 1) := by decide +kernel
theorem dX9_takeName_15 : decode cX9_takeName 15 = .ok (.invokevirtual 64, 3) := by decide +kernel
theorem dX9_takeName_18 : decode cX9_takeName 18 = .ok (.ifCond .eq 5, 3) := by decide +kernel
theorem dX9_takeName_21 : decode cX9_takeName 21 = .ok (.iconst 3, 1) := by decide +kernel
theorem dX9_takeName_22 : decode cX9_takeName 22 = .ok (.ireturn, 1) := by decide +kernel
theorem dX9_takeName_23 : decode cX9_takeName 23 = .ok (.aload_n 0, 1) := by decide +kernel
theorem dX9_takeName_24 : decode cX9_takeName 24 = .ok (.getfield 20, 3) := by decide +kernel
theorem dX9_takeName_27 : decode cX9_takeName 27 = .ok (.aload_n 1, 1) := by decide +kernel
theorem dX9_takeName_28 : decode cX9_takeName 28 = .ok (.invokevirtual 68, 3) := by decide +kernel
theorem dX9_takeName_31 : decode cX9_takeName 31 = .ok (.aload_n 0, 1) := by decide +kernel
theorem dX9_takeName_32 : decode cX9_takeName 32 = .ok (.iconst 2, 1) := by decide +kernel
theorem dX9_takeName_33 : decode cX9_takeName 33 = .ok (.putfield 29, 3) := by decide +kernel
theorem dX9_takeName_36 : decode cX9_takeName 36 = .ok (.iconst 0, 1) := by decide +kernel
theorem dX9_takeName_37 : decode cX9_takeName 37 = .ok (.ireturn, 1) := by decide +kernel
theorem dX9_takeRow_0 : decode cX9_takeRow 0 = .ok (.aload_n 0, 1) := by decide +kernel
theorem dX9_takeRow_1 : decode cX9_takeRow 1 = .ok (.getfield 20, 3) := by decide +kernel
theorem dX9_takeRow_4 : decode cX9_takeRow 4 = .ok (.getfield 25, 3) := by decide +kernel
theorem dX9_takeRow_7 : decode cX9_takeRow 7 = .ok (.iconst 1, 1) := by decide +kernel
theorem dX9_takeRow_8 : decode cX9_takeRow 8 = .ok (.isub, 1) := by decide +kernel
theorem dX9_takeRow_9 : decode cX9_takeRow 9 = .ok (.istore_n 2, 1) := by decide +kernel
theorem dX9_takeRow_10 : decode cX9_takeRow 10 = .ok (.aload_n 1, 1) := by decide +kernel
theorem dX9_takeRow_11 : decode cX9_takeRow 11 = .ok (.getfield 61, 3) := by decide +kernel
theorem dX9_takeRow_14 : decode cX9_takeRow 14 = .ok (.iconst 1, 1) := by decide +kernel
theorem dX9_takeRow_15 : decode cX9_takeRow 15 = .ok (.if_icmp .ne 12, 3) := by decide +kernel
theorem dX9_takeRow_18 : decode cX9_takeRow 18 = .ok (.iload_n 2, 1) := by decide +kernel
theorem dX9_takeRow_19 : decode cX9_takeRow 19 = .ok (.ifCond .lt 8, 3) := by decide +kernel
theorem dX9_takeRow_22 : decode cX9_takeRow 22 = .ok (.iload_n 2, 1) := by decide +kernel
theorem dX9_takeRow_23 : decode cX9_takeRow 23 = .ok (.iconst 4, 1) := by decide +kernel
theorem dX9_takeRow_24 : decode cX9_takeRow 24 = .ok (.if_icmp .lt 5, 3) := by decide +kernel
theorem dX9_takeRow_27 : decode cX9_takeRow 27 = .ok (.iconst 1, 1) := by decide +kernel
theorem dX9_takeRow_28 : decode cX9_takeRow 28 = .ok (.ireturn, 1) := by decide +kernel
theorem dX9_takeRow_29 : decode cX9_takeRow 29 = .ok (.aload_n 0, 1) := by decide +kernel
theorem dX9_takeRow_30 : decode cX9_takeRow 30 = .ok (.getfield 29, 3) := by decide +kernel
theorem dX9_takeRow_33 : decode cX9_takeRow 33 = .ok (.iconst 2, 1) := by decide +kernel
theorem dX9_takeRow_34 : decode cX9_takeRow 34 = .ok (.if_icmp .ne 17, 3) := by decide +kernel
theorem dX9_takeRow_37 : decode cX9_takeRow 37 = .ok (.aload_n 0, 1) := by decide +kernel
theorem dX9_takeRow_38 : decode cX9_takeRow 38 = .ok (.getfield 11, 3) := by decide +kernel
theorem dX9_takeRow_41 : decode cX9_takeRow 41 = .ok (.iload_n 2, 1) := by decide +kernel
theorem dX9_takeRow_42 : decode cX9_takeRow 42 = .ok (.aaload, 1) := by decide +kernel
theorem dX9_takeRow_43 : decode cX9_takeRow 43 = .ok (.aload_n 1, 1) := by decide +kernel
theorem dX9_takeRow_44 : decode cX9_takeRow 44 = .ok (.getfield 72, 3) := by decide +kernel
theorem dX9_takeRow_47 : decode cX9_takeRow 47 = .ok (.iconst 0, 1) := by decide +kernel
theorem dX9_takeRow_48 : decode cX9_takeRow 48 = .ok (.invokevirtual 75, 3) := by decide +kernel
theorem dX9_takeRow_51 : decode cX9_takeRow 51 = .ok (.aload_n 0, 1) := by decide +kernel
theorem dX9_takeRow_52 : decode cX9_takeRow 52 = .ok (.iconst 4, 1) := by decide +kernel
theorem dX9_takeRow_53 : decode cX9_takeRow 53 = .ok (.putfield 29, 3) := by decide +kernel
theorem dX9_takeRow_56 : decode cX9_takeRow 56 = .ok (.aload_n 0, 1) := by decide +kernel
theorem dX9_takeRow_57 : decode cX9_takeRow 57 = .ok (.getfield 11, 3) := by decide +kernel
theorem dX9_takeRow_60 : decode cX9_takeRow 60 = .ok (.iload_n 2, 1) := by decide +kernel
theorem dX9_takeRow_61 : decode cX9_takeRow 61 = .ok (.aaload, 1) := by decide +kernel
theorem dX9_takeRow_62 : decode cX9_takeRow 62 = .ok (.aload_n 1, 1) := by decide +kernel
theorem dX9_takeRow_63 : decode cX9_takeRow 63 = .ok (.invokestatic 79, 3) := by decide +kernel
theorem dX9_takeRow_66 : decode cX9_takeRow 66 = .ok (.ireturn, 1) := by decide +kernel
theorem dX9_addRow_0 : decode cX9_addRow 0 = .ok (.aload_n 1, 1) := by decide +kernel
theorem dX9_addRow_1 : decode cX9_addRow 1 = .ok (.getfield 72, 3) := by decide +kernel
theorem dX9_addRow_4 : decode cX9_addRow 4 = .ok (.aload_n 0, 1) := by decide +kernel
theorem dX9_addRow_5 : decode cX9_addRow 5 = .ok (.getfield 83, 3) := by decide +kernel
theorem dX9_addRow_8 : decode cX9_addRow 8 = .ok (.if_icmp .ne 10, 3) := by decide +kernel
theorem dX9_addRow_11 : decode cX9_addRow 11 = .ok (.aload_n 1, 1) := by decide +kernel
theorem dX9_addRow_12 : decode cX9_addRow 12 = .ok (.invokestatic 86, 3) := by decide +kernel
theorem dX9_addRow_15 : decode cX9_addRow 15 = .ok (.ifCond .ne 5, 3) := by decide +kernel
theorem dX9_addRow_18 : decode cX9_addRow 18 = .ok (.iconst 2, 1) := by decide +kernel
theorem dX9_addRow_19 : decode cX9_addRow 19 = .ok (.ireturn, 1) := by decide +kernel
theorem dX9_addRow_20 : decode cX9_addRow 20 = .ok (.aload_n 0, 1) := by decide +kernel
theorem dX9_addRow_21 : decode cX9_addRow 21 = .ok (.getfield 89, 3) := by decide +kernel
theorem dX9_addRow_24 : decode cX9_addRow 24 = .ok (.bipush 12, 2) := by decide +kernel
theorem dX9_addRow_26 : decode cX9_addRow 26 = .ok (.if_icmp .lt 5, 3) := by decide +kernel
theorem dX9_addRow_29 : decode cX9_addRow 29 = .ok (.iconst 4, 1) := by decide +kernel
theorem dX9_addRow_30 : decode cX9_addRow 30 = .ok (.ireturn, 1) := by decide +kernel
theorem dX9_addRow_31 : decode cX9_addRow 31 = .ok (.aload_n 0, 1) := by decide +kernel
theorem dX9_addRow_32 : decode cX9_addRow 32 = .ok (.aload_n 0, 1) := by decide +kernel
theorem dX9_addRow_33 : decode cX9_addRow 33 = .ok (.getfield 83, 3) := by decide +kernel
theorem dX9_addRow_36 : decode cX9_addRow 36 = .ok (.aload_n 0, 1) := by decide +kernel
theorem dX9_addRow_37 : decode cX9_addRow 37 = .ok (.getfield 89, 3) := by decide +kernel
theorem dX9_addRow_40 : decode cX9_addRow 40 = .ok (.iconst 1, 1) := by decide +kernel
theorem dX9_addRow_41 : decode cX9_addRow 41 = .ok (.iadd, 1) := by decide +kernel
theorem dX9_addRow_42 : decode cX9_addRow 42 = .ok (.invokevirtual 75, 3) := by decide +kernel
theorem dX9_addRow_45 : decode cX9_addRow 45 = .ok (.iconst 0, 1) := by decide +kernel
theorem dX9_addRow_46 : decode cX9_addRow 46 = .ok (.istore_n 2, 1) := by decide +kernel
theorem dX9_addRow_47 : decode cX9_addRow 47 = .ok (.iload_n 2, 1) := by decide +kernel
theorem dX9_addRow_48 : decode cX9_addRow 48 = .ok (.aload_n 0, 1) := by decide +kernel
theorem dX9_addRow_49 : decode cX9_addRow 49 = .ok (.getfield 83, 3) := by decide +kernel
theorem dX9_addRow_52 : decode cX9_addRow 52 = .ok (.if_icmp .ge 28, 3) := by decide +kernel
theorem dX9_addRow_55 : decode cX9_addRow 55 = .ok (.aload_n 0, 1) := by decide +kernel
theorem dX9_addRow_56 : decode cX9_addRow 56 = .ok (.iload_n 2, 1) := by decide +kernel
theorem dX9_addRow_57 : decode cX9_addRow 57 = .ok (.aload_n 0, 1) := by decide +kernel
theorem dX9_addRow_58 : decode cX9_addRow 58 = .ok (.getfield 89, 3) := by decide +kernel
theorem dX9_addRow_61 : decode cX9_addRow 61 = .ok (.iconst 1, 1) := by decide +kernel
theorem dX9_addRow_62 : decode cX9_addRow 62 = .ok (.isub, 1) := by decide +kernel
theorem dX9_addRow_63 : decode cX9_addRow 63 = .ok (.bipush 17, 2) := by decide +kernel
theorem dX9_addRow_65 : decode cX9_addRow 65 = .ok (.aload_n 1, 1) := by decide +kernel
theorem dX9_addRow_66 : decode cX9_addRow 66 = .ok (.iload_n 2, 1) := by decide +kernel
theorem dX9_addRow_67 : decode cX9_addRow 67 = .ok (.invokevirtual 92, 3) := by decide +kernel
theorem dX9_addRow_70 : decode cX9_addRow 70 = .ok (.imul, 1) := by decide +kernel
theorem dX9_addRow_71 : decode cX9_addRow 71 = .ok (.invokevirtual 96, 3) := by decide +kernel
theorem dX9_addRow_74 : decode cX9_addRow 74 = .ok (.iinc 2 1, 3) := by decide +kernel
theorem dX9_addRow_77 : decode cX9_addRow 77 = .ok (.goto (-30), 3) := by decide +kernel
theorem dX9_addRow_80 : decode cX9_addRow 80 = .ok (.iconst 0, 1) := by decide +kernel
theorem dX9_addRow_81 : decode cX9_addRow 81 = .ok (.ireturn, 1) := by decide +kernel
theorem dX9_isRow_0 : decode cX9_isRow 0 = .ok (.iconst 0, 1) := by decide +kernel
theorem dX9_isRow_1 : decode cX9_isRow 1 = .ok (.istore_n 1, 1) := by decide +kernel
theorem dX9_isRow_2 : decode cX9_isRow 2 = .ok (.iload_n 1, 1) := by decide +kernel
theorem dX9_isRow_3 : decode cX9_isRow 3 = .ok (.aload_n 0, 1) := by decide +kernel
theorem dX9_isRow_4 : decode cX9_isRow 4 = .ok (.getfield 72, 3) := by decide +kernel
theorem dX9_isRow_7 : decode cX9_isRow 7 = .ok (.if_icmp .ge 21, 3) := by decide +kernel
theorem dX9_isRow_10 : decode cX9_isRow 10 = .ok (.aload_n 0, 1) := by decide +kernel
theorem dX9_isRow_11 : decode cX9_isRow 11 = .ok (.iload_n 1, 1) := by decide +kernel
theorem dX9_isRow_12 : decode cX9_isRow 12 = .ok (.invokevirtual 92, 3) := by decide +kernel
theorem dX9_isRow_15 : decode cX9_isRow 15 = .ok (.bipush 16, 2) := by decide +kernel
theorem dX9_isRow_17 : decode cX9_isRow 17 = .ok (.if_icmp .lt 5, 3) := by decide +kernel
theorem dX9_isRow_20 : decode cX9_isRow 20 = .ok (.iconst 0, 1) := by decide +kernel
theorem dX9_isRow_21 : decode cX9_isRow 21 = .ok (.ireturn, 1) := by decide +kernel
theorem dX9_isRow_22 : decode cX9_isRow 22 = .ok (.iinc 1 1, 3) := by decide +kernel
theorem dX9_isRow_25 : decode cX9_isRow 25 = .ok (.goto (-23), 3) := by decide +kernel
theorem dX9_isRow_28 : decode cX9_isRow 28 = .ok (.iconst 1, 1) := by decide +kernel
theorem dX9_isRow_29 : decode cX9_isRow 29 = .ok (.ireturn, 1) := by decide +kernel
theorem dX9_takeMark_0 : decode cX9_takeMark 0 = .ok (.aload_n 1, 1) := by decide +kernel
theorem dX9_takeMark_1 : decode cX9_takeMark 1 = .ok (.getfield 61, 3) := by decide +kernel
theorem dX9_takeMark_4 : decode cX9_takeMark 4 = .ok (.tableswitch 53 0 3 #[46, 53, 32, 39], 32) := by decide +kernel
theorem dX9_takeMark_36 : decode cX9_takeMark 36 = .ok (.aload_n 0, 1) := by decide +kernel
theorem dX9_takeMark_37 : decode cX9_takeMark 37 = .ok (.iconst 3, 1) := by decide +kernel
theorem dX9_takeMark_38 : decode cX9_takeMark 38 = .ok (.putfield 29, 3) := by decide +kernel
theorem dX9_takeMark_41 : decode cX9_takeMark 41 = .ok (.iconst 0, 1) := by decide +kernel
theorem dX9_takeMark_42 : decode cX9_takeMark 42 = .ok (.ireturn, 1) := by decide +kernel
theorem dX9_takeMark_43 : decode cX9_takeMark 43 = .ok (.aload_n 0, 1) := by decide +kernel
theorem dX9_takeMark_44 : decode cX9_takeMark 44 = .ok (.iconst 0, 1) := by decide +kernel
theorem dX9_takeMark_45 : decode cX9_takeMark 45 = .ok (.putfield 29, 3) := by decide +kernel
theorem dX9_takeMark_48 : decode cX9_takeMark 48 = .ok (.iconst 0, 1) := by decide +kernel
theorem dX9_takeMark_49 : decode cX9_takeMark 49 = .ok (.ireturn, 1) := by decide +kernel
theorem dX9_takeMark_50 : decode cX9_takeMark 50 = .ok (.aload_n 0, 1) := by decide +kernel
theorem dX9_takeMark_51 : decode cX9_takeMark 51 = .ok (.iconst 5, 1) := by decide +kernel
theorem dX9_takeMark_52 : decode cX9_takeMark 52 = .ok (.putfield 29, 3) := by decide +kernel
theorem dX9_takeMark_55 : decode cX9_takeMark 55 = .ok (.iconst 0, 1) := by decide +kernel
theorem dX9_takeMark_56 : decode cX9_takeMark 56 = .ok (.ireturn, 1) := by decide +kernel
theorem dX9_takeMark_57 : decode cX9_takeMark 57 = .ok (.iconst 1, 1) := by decide +kernel
theorem dX9_takeMark_58 : decode cX9_takeMark 58 = .ok (.ireturn, 1) := by decide +kernel
