theorem dX11_thrown_0 : decode cX11_thrown 0 = .ok (.aload_n 0, 1) := by decide +kernel
theorem dX11_thrown_1 : decode cX11_thrown 1 = .ok (.getfield 85, 3) := by decide +kernel
theorem dX11_thrown_4 : decode cX11_thrown 4 = .ok (.ireturn, 1) := by decide +kernel
theorem dX11_refused_0 : decode cX11_refused 0 = .ok (.aload_n 0, 1) := by decide +kernel
theorem dX11_refused_1 : decode cX11_refused 1 = .ok (.iload_n 1, 1) := by decide +kernel
theorem dX11_refused_2 : decode cX11_refused 2 = .ok (.putfield 88, 3) := by decide +kernel
theorem dX11_refused_5 : decode cX11_refused 5 = .ok (.aload_n 0, 1) := by decide +kernel
theorem dX11_refused_6 : decode cX11_refused 6 = .ok (.iconst (-1), 1) := by decide +kernel
theorem dX11_refused_7 : decode cX11_refused 7 = .ok (.putfield 9, 3) := by decide +kernel
theorem dX11_refused_10 : decode cX11_refused 10 = .ok (.iconst (-1), 1) := by decide +kernel
theorem dX11_refused_11 : decode cX11_refused 11 = .ok (.ireturn, 1) := by decide +kernel
theorem dX11_good_0 : decode cX11_good 0 = .ok (.aload_n 0, 1) := by decide +kernel
theorem dX11_good_1 : decode cX11_good 1 = .ok (.iconst 0, 1) := by decide +kernel
theorem dX11_good_2 : decode cX11_good 2 = .ok (.putfield 88, 3) := by decide +kernel
theorem dX11_good_5 : decode cX11_good 5 = .ok (.aload_n 0, 1) := by decide +kernel
theorem dX11_good_6 : decode cX11_good 6 = .ok (.iconst (-1), 1) := by decide +kernel
theorem dX11_good_7 : decode cX11_good 7 = .ok (.putfield 9, 3) := by decide +kernel
theorem dX11_good_10 : decode cX11_good 10 = .ok (.iload_n 1, 1) := by decide +kernel
theorem dX11_good_11 : decode cX11_good 11 = .ok (.ireturn, 1) := by decide +kernel
theorem dX11_says_0 : decode cX11_says 0 = .ok (.aload_n 0, 1) := by decide +kernel
theorem dX11_says_1 : decode cX11_says 1 = .ok (.iconst 0, 1) := by decide +kernel
theorem dX11_says_2 : decode cX11_says 2 = .ok (.putfield 88, 3) := by decide +kernel
theorem dX11_says_5 : decode cX11_says 5 = .ok (.aload_n 0, 1) := by decide +kernel
theorem dX11_says_6 : decode cX11_says 6 = .ok (.iconst (-1), 1) := by decide +kernel
theorem dX11_says_7 : decode cX11_says 7 = .ok (.putfield 9, 3) := by decide +kernel
theorem dX11_says_10 : decode cX11_says 10 = .ok (.lload_n 1, 1) := by decide +kernel
theorem dX11_says_11 : decode cX11_says 11 = .ok (.lreturn, 1) := by decide +kernel
theorem dX11_granted_0 : decode cX11_granted 0 = .ok (.aload_n 0, 1) := by decide +kernel
theorem dX11_granted_1 : decode cX11_granted 1 = .ok (.iload_n 1, 1) := by decide +kernel
theorem dX11_granted_2 : decode cX11_granted 2 = .ok (.putfield 88, 3) := by decide +kernel
theorem dX11_granted_5 : decode cX11_granted 5 = .ok (.aload_n 0, 1) := by decide +kernel
theorem dX11_granted_6 : decode cX11_granted 6 = .ok (.iconst (-1), 1) := by decide +kernel
theorem dX11_granted_7 : decode cX11_granted 7 = .ok (.putfield 9, 3) := by decide +kernel
theorem dX11_granted_10 : decode cX11_granted 10 = .ok (.iload_n 1, 1) := by decide +kernel
theorem dX11_granted_11 : decode cX11_granted 11 = .ok (.ifCond .ne 7, 3) := by decide +kernel
theorem dX11_granted_14 : decode cX11_granted 14 = .ok (.iconst 1, 1) := by decide +kernel
theorem dX11_granted_15 : decode cX11_granted 15 = .ok (.goto 4, 3) := by decide +kernel
theorem dX11_granted_18 : decode cX11_granted 18 = .ok (.iconst 0, 1) := by decide +kernel
theorem dX11_granted_19 : decode cX11_granted 19 = .ok (.ireturn, 1) := by decide +kernel
theorem dX11_in_0 : decode cX11_in 0 = .ok (.iload_n 0, 1) := by decide +kernel
theorem dX11_in_1 : decode cX11_in 1 = .ok (.iload_n 1, 1) := by decide +kernel
theorem dX11_in_2 : decode cX11_in 2 = .ok (.if_icmp .lt 12, 3) := by decide +kernel
theorem dX11_in_5 : decode cX11_in 5 = .ok (.iload_n 0, 1) := by decide +kernel
theorem dX11_in_6 : decode cX11_in 6 = .ok (.iload_n 2, 1) := by decide +kernel
theorem dX11_in_7 : decode cX11_in 7 = .ok (.if_icmp .gt 7, 3) := by decide +kernel
theorem dX11_in_10 : decode cX11_in 10 = .ok (.iconst 1, 1) := by decide +kernel
theorem dX11_in_11 : decode cX11_in 11 = .ok (.goto 4, 3) := by decide +kernel
theorem dX11_in_14 : decode cX11_in 14 = .ok (.iconst 0, 1) := by decide +kernel
theorem dX11_in_15 : decode cX11_in 15 = .ok (.ireturn, 1) := by decide +kernel
theorem dX11_feed_0 : decode cX11_feed 0 = .ok (.aload_n 0, 1) := by decide +kernel
theorem dX11_feed_1 : decode cX11_feed 1 = .ok (.iconst 0, 1) := by decide +kernel
theorem dX11_feed_2 : decode cX11_feed 2 = .ok (.putfield 85, 3) := by decide +kernel
theorem dX11_feed_5 : decode cX11_feed 5 = .ok (.aload_n 0, 1) := by decide +kernel
theorem dX11_feed_6 : decode cX11_feed 6 = .ok (.getfield 91, 3) := by decide +kernel
theorem dX11_feed_9 : decode cX11_feed 9 = .ok (.bipush 20, 2) := by decide +kernel
theorem dX11_feed_11 : decode cX11_feed 11 = .ok (.iadd, 1) := by decide +kernel
theorem dX11_feed_12 : decode cX11_feed 12 = .ok (.sipush 700, 3) := by decide +kernel
theorem dX11_feed_15 : decode cX11_feed 15 = .ok (.if_icmp .le 5, 3) := by decide +kernel
theorem dX11_feed_18 : decode cX11_feed 18 = .ok (.iconst (-1), 1) := by decide +kernel
theorem dX11_feed_19 : decode cX11_feed 19 = .ok (.ireturn, 1) := by decide +kernel
theorem dX11_feed_20 : decode cX11_feed 20 = .ok (.iconst 0, 1) := by decide +kernel
theorem dX11_feed_21 : decode cX11_feed 21 = .ok (.istore 6, 2) := by decide +kernel
theorem dX11_feed_23 : decode cX11_feed 23 = .ok (.iload 6, 2) := by decide +kernel
theorem dX11_feed_25 : decode cX11_feed 25 = .ok (.bipush 20, 2) := by decide +kernel
theorem dX11_feed_27 : decode cX11_feed 27 = .ok (.if_icmp .ge 86, 3) := by decide +kernel
theorem dX11_feed_30 : decode cX11_feed 30 = .ok (.iload 6, 2) := by decide +kernel
theorem dX11_feed_32 : decode cX11_feed 32 = .ok (.iconst 4, 1) := by decide +kernel
theorem dX11_feed_33 : decode cX11_feed 33 = .ok (.if_icmp .ge 7, 3) := by decide +kernel
theorem dX11_feed_36 : decode cX11_feed 36 = .ok (.iload_n 1, 1) := by decide +kernel
theorem dX11_feed_37 : decode cX11_feed 37 = .ok (.goto 39, 3) := by decide +kernel
theorem dX11_feed_40 : decode cX11_feed 40 = .ok (.iload 6, 2) := by decide +kernel
theorem dX11_feed_42 : decode cX11_feed 42 = .ok (.bipush 8, 2) := by decide +kernel
theorem dX11_feed_44 : decode cX11_feed 44 = .ok (.if_icmp .ge 7, 3) := by decide +kernel
theorem dX11_feed_47 : decode cX11_feed 47 = .ok (.iload_n 2, 1) := by decide +kernel
theorem dX11_feed_48 : decode cX11_feed 48 = .ok (.goto 28, 3) := by decide +kernel
theorem dX11_feed_51 : decode cX11_feed 51 = .ok (.iload 6, 2) := by decide +kernel
theorem dX11_feed_53 : decode cX11_feed 53 = .ok (.bipush 12, 2) := by decide +kernel
theorem dX11_feed_55 : decode cX11_feed 55 = .ok (.if_icmp .ge 7, 3) := by decide +kernel
theorem dX11_feed_58 : decode cX11_feed 58 = .ok (.iload_n 3, 1) := by decide +kernel
theorem dX11_feed_59 : decode cX11_feed 59 = .ok (.goto 17, 3) := by decide +kernel
theorem dX11_feed_62 : decode cX11_feed 62 = .ok (.iload 6, 2) := by decide +kernel
theorem dX11_feed_64 : decode cX11_feed 64 = .ok (.bipush 16, 2) := by decide +kernel
theorem dX11_feed_66 : decode cX11_feed 66 = .ok (.if_icmp .ge 8, 3) := by decide +kernel
theorem dX11_feed_69 : decode cX11_feed 69 = .ok (.iload 4, 2) := by decide +kernel
theorem dX11_feed_71 : decode cX11_feed 71 = .ok (.goto 5, 3) := by decide +kernel
theorem dX11_feed_74 : decode cX11_feed 74 = .ok (.iload 5, 2) := by decide +kernel
theorem dX11_feed_76 : decode cX11_feed 76 = .ok (.istore 7, 2) := by decide +kernel
theorem dX11_feed_78 : decode cX11_feed 78 = .ok (.aload_n 0, 1) := by decide +kernel
theorem dX11_feed_79 : decode cX11_feed 79 = .ok (.getfield 13, 3) := by decide +kernel
theorem dX11_feed_82 : decode cX11_feed 82 = .ok (.aload_n 0, 1) := by decide +kernel
theorem dX11_feed_83 : decode cX11_feed 83 = .ok (.getfield 91, 3) := by decide +kernel
theorem dX11_feed_86 : decode cX11_feed 86 = .ok (.iload 6, 2) := by decide +kernel
theorem dX11_feed_88 : decode cX11_feed 88 = .ok (.iadd, 1) := by decide +kernel
theorem dX11_feed_89 : decode cX11_feed 89 = .ok (.iload 7, 2) := by decide +kernel
theorem dX11_feed_91 : decode cX11_feed 91 = .ok (.bipush 24, 2) := by decide +kernel
theorem dX11_feed_93 : decode cX11_feed 93 = .ok (.bipush 8, 2) := by decide +kernel
theorem dX11_feed_95 : decode cX11_feed 95 = .ok (.iload 6, 2) := by decide +kernel
theorem dX11_feed_97 : decode cX11_feed 97 = .ok (.iconst 4, 1) := by decide +kernel
theorem dX11_feed_98 : decode cX11_feed 98 = .ok (.irem, 1) := by decide +kernel
theorem dX11_feed_99 : decode cX11_feed 99 = .ok (.imul, 1) := by decide +kernel
theorem dX11_feed_100 : decode cX11_feed 100 = .ok (.isub, 1) := by decide +kernel
theorem dX11_feed_101 : decode cX11_feed 101 = .ok (.ishr, 1) := by decide +kernel
theorem dX11_feed_102 : decode cX11_feed 102 = .ok (.sipush 255, 3) := by decide +kernel
theorem dX11_feed_105 : decode cX11_feed 105 = .ok (.iand, 1) := by decide +kernel
theorem dX11_feed_106 : decode cX11_feed 106 = .ok (.iastore, 1) := by decide +kernel
theorem dX11_feed_107 : decode cX11_feed 107 = .ok (.iinc 6 1, 3) := by decide +kernel
theorem dX11_feed_110 : decode cX11_feed 110 = .ok (.goto (-87), 3) := by decide +kernel
theorem dX11_feed_113 : decode cX11_feed 113 = .ok (.aload_n 0, 1) := by decide +kernel
theorem dX11_feed_114 : decode cX11_feed 114 = .ok (.dup, 1) := by decide +kernel
theorem dX11_feed_115 : decode cX11_feed 115 = .ok (.getfield 91, 3) := by decide +kernel
theorem dX11_feed_118 : decode cX11_feed 118 = .ok (.bipush 20, 2) := by decide +kernel
theorem dX11_feed_120 : decode cX11_feed 120 = .ok (.iadd, 1) := by decide +kernel
theorem dX11_feed_121 : decode cX11_feed 121 = .ok (.putfield 91, 3) := by decide +kernel
theorem dX11_feed_124 : decode cX11_feed 124 = .ok (.aload_n 0, 1) := by decide +kernel
theorem dX11_feed_125 : decode cX11_feed 125 = .ok (.getfield 91, 3) := by decide +kernel
theorem dX11_feed_128 : decode cX11_feed 128 = .ok (.ireturn, 1) := by decide +kernel
theorem dX11_flaw_0 : decode cX11_flaw 0 = .ok (.aload_n 0, 1) := by decide +kernel
theorem dX11_flaw_1 : decode cX11_flaw 1 = .ok (.getfield 94, 3) := by decide +kernel
theorem dX11_flaw_4 : decode cX11_flaw 4 = .ok (.ifCond .le 4, 3) := by decide +kernel
theorem dX11_flaw_7 : decode cX11_flaw 7 = .ok (.return_, 1) := by decide +kernel
theorem dX11_flaw_8 : decode cX11_flaw 8 = .ok (.aload_n 0, 1) := by decide +kernel
theorem dX11_flaw_9 : decode cX11_flaw 9 = .ok (.iload_n 1, 1) := by decide +kernel
theorem dX11_flaw_10 : decode cX11_flaw 10 = .ok (.putfield 94, 3) := by decide +kernel
theorem dX11_flaw_13 : decode cX11_flaw 13 = .ok (.aload_n 0, 1) := by decide +kernel
theorem dX11_flaw_14 : decode cX11_flaw 14 = .ok (.aload_n 0, 1) := by decide +kernel
theorem dX11_flaw_15 : decode cX11_flaw 15 = .ok (.getfield 97, 3) := by decide +kernel
theorem dX11_flaw_18 : decode cX11_flaw 18 = .ok (.putfield 100, 3) := by decide +kernel
theorem dX11_flaw_21 : decode cX11_flaw 21 = .ok (.return_, 1) := by decide +kernel
theorem dX11_isLetterAt_0 : decode cX11_isLetterAt 0 = .ok (.iload_n 1, 1) := by decide +kernel
theorem dX11_isLetterAt_1 : decode cX11_isLetterAt 1 = .ok (.aload_n 0, 1) := by decide +kernel
theorem dX11_isLetterAt_2 : decode cX11_isLetterAt 2 = .ok (.getfield 103, 3) := by decide +kernel
theorem dX11_isLetterAt_5 : decode cX11_isLetterAt 5 = .ok (.if_icmp .ge 23, 3) := by decide +kernel
theorem dX11_isLetterAt_8 : decode cX11_isLetterAt 8 = .ok (.aload_n 0, 1) := by decide +kernel
theorem dX11_isLetterAt_9 : decode cX11_isLetterAt 9 = .ok (.getfield 13, 3) := by decide +kernel
theorem dX11_isLetterAt_12 : decode cX11_isLetterAt 12 = .ok (.iload_n 1, 1) := by decide +kernel
theorem dX11_isLetterAt_13 : decode cX11_isLetterAt 13 = .ok (.iaload, 1) := by decide +kernel
theorem dX11_isLetterAt_14 : decode cX11_isLetterAt 14 = .ok (.bipush 97, 2) := by decide +kernel
theorem dX11_isLetterAt_16 : decode cX11_isLetterAt 16 = .ok (.bipush 122, 2) := by decide +kernel
theorem dX11_isLetterAt_18 : decode cX11_isLetterAt 18 = .ok (.invokestatic 106, 3) := by decide +kernel
theorem dX11_isLetterAt_21 : decode cX11_isLetterAt 21 = .ok (.ifCond .eq 7, 3) := by decide +kernel
theorem dX11_isLetterAt_24 : decode cX11_isLetterAt 24 = .ok (.iconst 1, 1) := by decide +kernel
theorem dX11_isLetterAt_25 : decode cX11_isLetterAt 25 = .ok (.goto 4, 3) := by decide +kernel
theorem dX11_isLetterAt_28 : decode cX11_isLetterAt 28 = .ok (.iconst 0, 1) := by decide +kernel
theorem dX11_isLetterAt_29 : decode cX11_isLetterAt 29 = .ok (.ireturn, 1) := by decide +kernel
theorem dX11_goOn_0 : decode cX11_goOn 0 = .ok (.aload_n 0, 1) := by decide +kernel
theorem dX11_goOn_1 : decode cX11_goOn 1 = .ok (.getfield 94, 3) := by decide +kernel
theorem dX11_goOn_4 : decode cX11_goOn 4 = .ok (.ifCond .le 4, 3) := by decide +kernel
theorem dX11_goOn_7 : decode cX11_goOn 7 = .ok (.return_, 1) := by decide +kernel
theorem dX11_goOn_8 : decode cX11_goOn 8 = .ok (.aload_n 0, 1) := by decide +kernel
theorem dX11_goOn_9 : decode cX11_goOn 9 = .ok (.getfield 110, 3) := by decide +kernel
theorem dX11_goOn_12 : decode cX11_goOn 12 = .ok (.aload_n 0, 1) := by decide +kernel
theorem dX11_goOn_13 : decode cX11_goOn 13 = .ok (.getfield 103, 3) := by decide +kernel
theorem dX11_goOn_16 : decode cX11_goOn 16 = .ok (.if_icmp .ge 30, 3) := by decide +kernel
theorem dX11_goOn_19 : decode cX11_goOn 19 = .ok (.aload_n 0, 1) := by decide +kernel
theorem dX11_goOn_20 : decode cX11_goOn 20 = .ok (.getfield 13, 3) := by decide +kernel
theorem dX11_goOn_23 : decode cX11_goOn 23 = .ok (.aload_n 0, 1) := by decide +kernel
theorem dX11_goOn_24 : decode cX11_goOn 24 = .ok (.getfield 110, 3) := by decide +kernel
theorem dX11_goOn_27 : decode cX11_goOn 27 = .ok (.iaload, 1) := by decide +kernel
theorem dX11_goOn_28 : decode cX11_goOn 28 = .ok (.bipush 32, 2) := by decide +kernel
theorem dX11_goOn_30 : decode cX11_goOn 30 = .ok (.if_icmp .ne 16, 3) := by decide +kernel
theorem dX11_goOn_33 : decode cX11_goOn 33 = .ok (.aload_n 0, 1) := by decide +kernel
theorem dX11_goOn_34 : decode cX11_goOn 34 = .ok (.dup, 1) := by decide +kernel
theorem dX11_goOn_35 : decode cX11_goOn 35 = .ok (.getfield 110, 3) := by decide +kernel
theorem dX11_goOn_38 : decode cX11_goOn 38 = .ok (.iconst 1, 1) := by decide +kernel
theorem dX11_goOn_39 : decode cX11_goOn 39 = .ok (.iadd, 1) := by decide +kernel
theorem dX11_goOn_40 : decode cX11_goOn 40 = .ok (.putfield 110, 3) := by decide +kernel
theorem dX11_goOn_43 : decode cX11_goOn 43 = .ok (.goto (-35), 3) := by decide +kernel
theorem dX11_goOn_46 : decode cX11_goOn 46 = .ok (.aload_n 0, 1) := by decide +kernel
theorem dX11_goOn_47 : decode cX11_goOn 47 = .ok (.aload_n 0, 1) := by decide +kernel
theorem dX11_goOn_48 : decode cX11_goOn 48 = .ok (.getfield 110, 3) := by decide +kernel
theorem dX11_goOn_51 : decode cX11_goOn 51 = .ok (.putfield 97, 3) := by decide +kernel
theorem dX11_goOn_54 : decode cX11_goOn 54 = .ok (.aload_n 0, 1) := by decide +kernel
theorem dX11_goOn_55 : decode cX11_goOn 55 = .ok (.getfield 110, 3) := by decide +kernel
theorem dX11_goOn_58 : decode cX11_goOn 58 = .ok (.aload_n 0, 1) := by decide +kernel
theorem dX11_goOn_59 : decode cX11_goOn 59 = .ok (.getfield 103, 3) := by decide +kernel
theorem dX11_goOn_62 : decode cX11_goOn 62 = .ok (.if_icmp .ne 11, 3) := by decide +kernel
theorem dX11_goOn_65 : decode cX11_goOn 65 = .ok (.aload_n 0, 1) := by decide +kernel
theorem dX11_goOn_66 : decode cX11_goOn 66 = .ok (.iconst 1, 1) := by decide +kernel
theorem dX11_goOn_67 : decode cX11_goOn 67 = .ok (.putfield 113, 3) := by decide +kernel
theorem dX11_goOn_70 : decode cX11_goOn 70 = .ok (.goto 114, 3) := by decide +kernel
theorem dX11_goOn_73 : decode cX11_goOn 73 = .ok (.aload_n 0, 1) := by decide +kernel
theorem dX11_goOn_74 : decode cX11_goOn 74 = .ok (.aload_n 0, 1) := by decide +kernel
theorem dX11_goOn_75 : decode cX11_goOn 75 = .ok (.getfield 110, 3) := by decide +kernel
theorem dX11_goOn_78 : decode cX11_goOn 78 = .ok (.invokevirtual 116, 3) := by decide +kernel
theorem dX11_goOn_81 : decode cX11_goOn 81 = .ok (.ifCond .eq 53, 3) := by decide +kernel
theorem dX11_goOn_84 : decode cX11_goOn 84 = .ok (.aload_n 0, 1) := by decide +kernel
theorem dX11_goOn_85 : decode cX11_goOn 85 = .ok (.aload_n 0, 1) := by decide +kernel
theorem dX11_goOn_86 : decode cX11_goOn 86 = .ok (.getfield 110, 3) := by decide +kernel
theorem dX11_goOn_89 : decode cX11_goOn 89 = .ok (.invokevirtual 116, 3) := by decide +kernel
theorem dX11_goOn_92 : decode cX11_goOn 92 = .ok (.ifCond .eq 16, 3) := by decide +kernel
theorem dX11_goOn_95 : decode cX11_goOn 95 = .ok (.aload_n 0, 1) := by decide +kernel
theorem dX11_goOn_96 : decode cX11_goOn 96 = .ok (.dup, 1) := by decide +kernel
theorem dX11_goOn_97 : decode cX11_goOn 97 = .ok (.getfield 110, 3) := by decide +kernel
theorem dX11_goOn_100 : decode cX11_goOn 100 = .ok (.iconst 1, 1) := by decide +kernel
theorem dX11_goOn_101 : decode cX11_goOn 101 = .ok (.iadd, 1) := by decide +kernel
theorem dX11_goOn_102 : decode cX11_goOn 102 = .ok (.putfield 110, 3) := by decide +kernel
theorem dX11_goOn_105 : decode cX11_goOn 105 = .ok (.goto (-21), 3) := by decide +kernel
theorem dX11_goOn_108 : decode cX11_goOn 108 = .ok (.aload_n 0, 1) := by decide +kernel
theorem dX11_goOn_109 : decode cX11_goOn 109 = .ok (.aload_n 0, 1) := by decide +kernel
theorem dX11_goOn_110 : decode cX11_goOn 110 = .ok (.getfield 110, 3) := by decide +kernel
theorem dX11_goOn_113 : decode cX11_goOn 113 = .ok (.aload_n 0, 1) := by decide +kernel
theorem dX11_goOn_114 : decode cX11_goOn 114 = .ok (.getfield 97, 3) := by decide +kernel
theorem dX11_goOn_117 : decode cX11_goOn 117 = .ok (.isub, 1) := by decide +kernel
theorem dX11_goOn_118 : decode cX11_goOn 118 = .ok (.bipush 16, 2) := by decide +kernel
theorem dX11_goOn_120 : decode cX11_goOn 120 = .ok (.if_icmp .le 7, 3) := by decide +kernel
theorem dX11_goOn_123 : decode cX11_goOn 123 = .ok (.iconst 0, 1) := by decide +kernel
theorem dX11_goOn_124 : decode cX11_goOn 124 = .ok (.goto 4, 3) := by decide +kernel
theorem dX11_goOn_127 : decode cX11_goOn 127 = .ok (.iconst 2, 1) := by decide +kernel
theorem dX11_goOn_128 : decode cX11_goOn 128 = .ok (.putfield 113, 3) := by decide +kernel
theorem dX11_goOn_131 : decode cX11_goOn 131 = .ok (.goto 53, 3) := by decide +kernel
theorem dX11_goOn_134 : decode cX11_goOn 134 = .ok (.aload_n 0, 1) := by decide +kernel
theorem dX11_goOn_135 : decode cX11_goOn 135 = .ok (.aload_n 0, 1) := by decide +kernel
theorem dX11_goOn_136 : decode cX11_goOn 136 = .ok (.getfield 13, 3) := by decide +kernel
theorem dX11_goOn_139 : decode cX11_goOn 139 = .ok (.aload_n 0, 1) := by decide +kernel
theorem dX11_goOn_140 : decode cX11_goOn 140 = .ok (.getfield 110, 3) := by decide +kernel
theorem dX11_goOn_143 : decode cX11_goOn 143 = .ok (.iaload, 1) := by decide +kernel
theorem dX11_goOn_144 : decode cX11_goOn 144 = .ok (.putfield 120, 3) := by decide +kernel
theorem dX11_goOn_147 : decode cX11_goOn 147 = .ok (.aload_n 0, 1) := by decide +kernel
theorem dX11_goOn_148 : decode cX11_goOn 148 = .ok (.aload_n 0, 1) := by decide +kernel
theorem dX11_goOn_149 : decode cX11_goOn 149 = .ok (.getfield 120, 3) := by decide +kernel
theorem dX11_goOn_152 : decode cX11_goOn 152 = .ok (.bipush 59, 2) := by decide +kernel
theorem dX11_goOn_154 : decode cX11_goOn 154 = .ok (.if_icmp .eq 12, 3) := by decide +kernel
theorem dX11_goOn_157 : decode cX11_goOn 157 = .ok (.aload_n 0, 1) := by decide +kernel
theorem dX11_goOn_158 : decode cX11_goOn 158 = .ok (.getfield 120, 3) := by decide +kernel
theorem dX11_goOn_161 : decode cX11_goOn 161 = .ok (.bipush 47, 2) := by decide +kernel
theorem dX11_goOn_163 : decode cX11_goOn 163 = .ok (.if_icmp .ne 7, 3) := by decide +kernel
theorem dX11_goOn_166 : decode cX11_goOn 166 = .ok (.iconst 3, 1) := by decide +kernel
theorem dX11_goOn_167 : decode cX11_goOn 167 = .ok (.goto 4, 3) := by decide +kernel
theorem dX11_goOn_170 : decode cX11_goOn 170 = .ok (.iconst 0, 1) := by decide +kernel
theorem dX11_goOn_171 : decode cX11_goOn 171 = .ok (.putfield 113, 3) := by decide +kernel
theorem dX11_goOn_174 : decode cX11_goOn 174 = .ok (.aload_n 0, 1) := by decide +kernel
theorem dX11_goOn_175 : decode cX11_goOn 175 = .ok (.dup, 1) := by decide +kernel
theorem dX11_goOn_176 : decode cX11_goOn 176 = .ok (.getfield 110, 3) := by decide +kernel
theorem dX11_goOn_179 : decode cX11_goOn 179 = .ok (.iconst 1, 1) := by decide +kernel
theorem dX11_goOn_180 : decode cX11_goOn 180 = .ok (.iadd, 1) := by decide +kernel
theorem dX11_goOn_181 : decode cX11_goOn 181 = .ok (.putfield 110, 3) := by decide +kernel
theorem dX11_goOn_184 : decode cX11_goOn 184 = .ok (.return_, 1) := by decide +kernel
theorem dX11_isSign_0 : decode cX11_isSign 0 = .ok (.aload_n 0, 1) := by decide +kernel
theorem dX11_isSign_1 : decode cX11_isSign 1 = .ok (.getfield 94, 3) := by decide +kernel
theorem dX11_isSign_4 : decode cX11_isSign 4 = .ok (.ifCond .ne 23, 3) := by decide +kernel
theorem dX11_isSign_7 : decode cX11_isSign 7 = .ok (.aload_n 0, 1) := by decide +kernel
theorem dX11_isSign_8 : decode cX11_isSign 8 = .ok (.getfield 113, 3) := by decide +kernel
theorem dX11_isSign_11 : decode cX11_isSign 11 = .ok (.iconst 3, 1) := by decide +kernel
theorem dX11_isSign_12 : decode cX11_isSign 12 = .ok (.if_icmp .ne 15, 3) := by decide +kernel
theorem dX11_isSign_15 : decode cX11_isSign 15 = .ok (.aload_n 0, 1) := by decide +kernel
theorem dX11_isSign_16 : decode cX11_isSign 16 = .ok (.getfield 120, 3) := by decide +kernel
theorem dX11_isSign_19 : decode cX11_isSign 19 = .ok (.iload_n 1, 1) := by decide +kernel
theorem dX11_isSign_20 : decode cX11_isSign 20 = .ok (.if_icmp .ne 7, 3) := by decide +kernel
theorem dX11_isSign_23 : decode cX11_isSign 23 = .ok (.iconst 1, 1) := by decide +kernel
theorem dX11_isSign_24 : decode cX11_isSign 24 = .ok (.goto 4, 3) := by decide +kernel
theorem dX11_isSign_27 : decode cX11_isSign 27 = .ok (.iconst 0, 1) := by decide +kernel
theorem dX11_isSign_28 : decode cX11_isSign 28 = .ok (.ireturn, 1) := by decide +kernel
theorem dX11_isPic_0 : decode cX11_isPic 0 = .ok (.aload_n 0, 1) := by decide +kernel
theorem dX11_isPic_1 : decode cX11_isPic 1 = .ok (.getfield 113, 3) := by decide +kernel
theorem dX11_isPic_4 : decode cX11_isPic 4 = .ok (.iconst 2, 1) := by decide +kernel
theorem dX11_isPic_5 : decode cX11_isPic 5 = .ok (.if_icmp .ne 66, 3) := by decide +kernel
theorem dX11_isPic_8 : decode cX11_isPic 8 = .ok (.aload_n 0, 1) := by decide +kernel
theorem dX11_isPic_9 : decode cX11_isPic 9 = .ok (.getfield 110, 3) := by decide +kernel
theorem dX11_isPic_12 : decode cX11_isPic 12 = .ok (.aload_n 0, 1) := by decide +kernel
theorem dX11_isPic_13 : decode cX11_isPic 13 = .ok (.getfield 97, 3) := by decide +kernel
theorem dX11_isPic_16 : decode cX11_isPic 16 = .ok (.isub, 1) := by decide +kernel
theorem dX11_isPic_17 : decode cX11_isPic 17 = .ok (.iconst 3, 1) := by decide +kernel
theorem dX11_isPic_18 : decode cX11_isPic 18 = .ok (.if_icmp .ne 53, 3) := by decide +kernel
theorem dX11_isPic_21 : decode cX11_isPic 21 = .ok (.aload_n 0, 1) := by decide +kernel
theorem dX11_isPic_22 : decode cX11_isPic 22 = .ok (.getfield 13, 3) := by decide +kernel
theorem dX11_isPic_25 : decode cX11_isPic 25 = .ok (.aload_n 0, 1) := by decide +kernel
theorem dX11_isPic_26 : decode cX11_isPic 26 = .ok (.getfield 97, 3) := by decide +kernel
theorem dX11_isPic_29 : decode cX11_isPic 29 = .ok (.iaload, 1) := by decide +kernel
theorem dX11_isPic_30 : decode cX11_isPic 30 = .ok (.bipush 112, 2) := by decide +kernel
theorem dX11_isPic_32 : decode cX11_isPic 32 = .ok (.if_icmp .ne 39, 3) := by decide +kernel
theorem dX11_isPic_35 : decode cX11_isPic 35 = .ok (.aload_n 0, 1) := by decide +kernel
theorem dX11_isPic_36 : decode cX11_isPic 36 = .ok (.getfield 13, 3) := by decide +kernel
theorem dX11_isPic_39 : decode cX11_isPic 39 = .ok (.aload_n 0, 1) := by decide +kernel
theorem dX11_isPic_40 : decode cX11_isPic 40 = .ok (.getfield 97, 3) := by decide +kernel
theorem dX11_isPic_43 : decode cX11_isPic 43 = .ok (.iconst 1, 1) := by decide +kernel
theorem dX11_isPic_44 : decode cX11_isPic 44 = .ok (.iadd, 1) := by decide +kernel
theorem dX11_isPic_45 : decode cX11_isPic 45 = .ok (.iaload, 1) := by decide +kernel
theorem dX11_isPic_46 : decode cX11_isPic 46 = .ok (.bipush 105, 2) := by decide +kernel
theorem dX11_isPic_48 : decode cX11_isPic 48 = .ok (.if_icmp .ne 23, 3) := by decide +kernel
theorem dX11_isPic_51 : decode cX11_isPic 51 = .ok (.aload_n 0, 1) := by decide +kernel
theorem dX11_isPic_52 : decode cX11_isPic 52 = .ok (.getfield 13, 3) := by decide +kernel
theorem dX11_isPic_55 : decode cX11_isPic 55 = .ok (.aload_n 0, 1) := by decide +kernel
theorem dX11_isPic_56 : decode cX11_isPic 56 = .ok (.getfield 97, 3) := by decide +kernel
theorem dX11_isPic_59 : decode cX11_isPic 59 = .ok (.iconst 2, 1) := by decide +kernel
theorem dX11_isPic_60 : decode cX11_isPic 60 = .ok (.iadd, 1) := by decide +kernel
theorem dX11_isPic_61 : decode cX11_isPic 61 = .ok (.iaload, 1) := by decide +kernel
theorem dX11_isPic_62 : decode cX11_isPic 62 = .ok (.bipush 99, 2) := by decide +kernel
theorem dX11_isPic_64 : decode cX11_isPic 64 = .ok (.if_icmp .ne 7, 3) := by decide +kernel
theorem dX11_isPic_67 : decode cX11_isPic 67 = .ok (.iconst 1, 1) := by decide +kernel
theorem dX11_isPic_68 : decode cX11_isPic 68 = .ok (.goto 4, 3) := by decide +kernel
theorem dX11_isPic_71 : decode cX11_isPic 71 = .ok (.iconst 0, 1) := by decide +kernel
theorem dX11_isPic_72 : decode cX11_isPic 72 = .ok (.ireturn, 1) := by decide +kernel
theorem dX11_isLike_0 : decode cX11_isLike 0 = .ok (.aload_n 0, 1) := by decide +kernel
theorem dX11_isLike_1 : decode cX11_isLike 1 = .ok (.getfield 20, 3) := by decide +kernel
theorem dX11_isLike_4 : decode cX11_isLike 4 = .ok (.iload_n 1, 1) := by decide +kernel
theorem dX11_isLike_5 : decode cX11_isLike 5 = .ok (.iaload, 1) := by decide +kernel
theorem dX11_isLike_6 : decode cX11_isLike 6 = .ok (.aload_n 0, 1) := by decide +kernel
theorem dX11_isLike_7 : decode cX11_isLike 7 = .ok (.getfield 110, 3) := by decide +kernel
theorem dX11_isLike_10 : decode cX11_isLike 10 = .ok (.aload_n 0, 1) := by decide +kernel
theorem dX11_isLike_11 : decode cX11_isLike 11 = .ok (.getfield 97, 3) := by decide +kernel
theorem dX11_isLike_14 : decode cX11_isLike 14 = .ok (.isub, 1) := by decide +kernel
theorem dX11_isLike_15 : decode cX11_isLike 15 = .ok (.if_icmp .ne 7, 3) := by decide +kernel
theorem dX11_isLike_18 : decode cX11_isLike 18 = .ok (.iconst 1, 1) := by decide +kernel
theorem dX11_isLike_19 : decode cX11_isLike 19 = .ok (.goto 4, 3) := by decide +kernel
theorem dX11_isLike_22 : decode cX11_isLike 22 = .ok (.iconst 0, 1) := by decide +kernel
theorem dX11_isLike_23 : decode cX11_isLike 23 = .ok (.istore_n 2, 1) := by decide +kernel
theorem dX11_isLike_24 : decode cX11_isLike 24 = .ok (.iconst 0, 1) := by decide +kernel
theorem dX11_isLike_25 : decode cX11_isLike 25 = .ok (.istore_n 3, 1) := by decide +kernel
theorem dX11_isLike_26 : decode cX11_isLike 26 = .ok (.iload_n 2, 1) := by decide +kernel
theorem dX11_isLike_27 : decode cX11_isLike 27 = .ok (.ifCond .eq 52, 3) := by decide +kernel
theorem dX11_isLike_30 : decode cX11_isLike 30 = .ok (.iload_n 3, 1) := by decide +kernel
theorem dX11_isLike_31 : decode cX11_isLike 31 = .ok (.aload_n 0, 1) := by decide +kernel
theorem dX11_isLike_32 : decode cX11_isLike 32 = .ok (.getfield 20, 3) := by decide +kernel
theorem dX11_isLike_35 : decode cX11_isLike 35 = .ok (.iload_n 1, 1) := by decide +kernel
theorem dX11_isLike_36 : decode cX11_isLike 36 = .ok (.iaload, 1) := by decide +kernel
theorem dX11_isLike_37 : decode cX11_isLike 37 = .ok (.if_icmp .ge 42, 3) := by decide +kernel
theorem dX11_isLike_40 : decode cX11_isLike 40 = .ok (.aload_n 0, 1) := by decide +kernel
theorem dX11_isLike_41 : decode cX11_isLike 41 = .ok (.getfield 13, 3) := by decide +kernel
theorem dX11_isLike_44 : decode cX11_isLike 44 = .ok (.aload_n 0, 1) := by decide +kernel
theorem dX11_isLike_45 : decode cX11_isLike 45 = .ok (.getfield 17, 3) := by decide +kernel
theorem dX11_isLike_48 : decode cX11_isLike 48 = .ok (.iload_n 1, 1) := by decide +kernel
theorem dX11_isLike_49 : decode cX11_isLike 49 = .ok (.iaload, 1) := by decide +kernel
theorem dX11_isLike_50 : decode cX11_isLike 50 = .ok (.iload_n 3, 1) := by decide +kernel
theorem dX11_isLike_51 : decode cX11_isLike 51 = .ok (.iadd, 1) := by decide +kernel
theorem dX11_isLike_52 : decode cX11_isLike 52 = .ok (.iaload, 1) := by decide +kernel
theorem dX11_isLike_53 : decode cX11_isLike 53 = .ok (.aload_n 0, 1) := by decide +kernel
theorem dX11_isLike_54 : decode cX11_isLike 54 = .ok (.getfield 13, 3) := by decide +kernel
theorem dX11_isLike_57 : decode cX11_isLike 57 = .ok (.aload_n 0, 1) := by decide +kernel
theorem dX11_isLike_58 : decode cX11_isLike 58 = .ok (.getfield 97, 3) := by decide +kernel
theorem dX11_isLike_61 : decode cX11_isLike 61 = .ok (.iload_n 3, 1) := by decide +kernel
theorem dX11_isLike_62 : decode cX11_isLike 62 = .ok (.iadd, 1) := by decide +kernel
theorem dX11_isLike_63 : decode cX11_isLike 63 = .ok (.iaload, 1) := by decide +kernel
theorem dX11_isLike_64 : decode cX11_isLike 64 = .ok (.if_icmp .ne 7, 3) := by decide +kernel
theorem dX11_isLike_67 : decode cX11_isLike 67 = .ok (.iconst 1, 1) := by decide +kernel
theorem dX11_isLike_68 : decode cX11_isLike 68 = .ok (.goto 4, 3) := by decide +kernel
theorem dX11_isLike_71 : decode cX11_isLike 71 = .ok (.iconst 0, 1) := by decide +kernel
theorem dX11_isLike_72 : decode cX11_isLike 72 = .ok (.istore_n 2, 1) := by decide +kernel
theorem dX11_isLike_73 : decode cX11_isLike 73 = .ok (.iinc 3 1, 3) := by decide +kernel
theorem dX11_isLike_76 : decode cX11_isLike 76 = .ok (.goto (-50), 3) := by decide +kernel
theorem dX11_isLike_79 : decode cX11_isLike 79 = .ok (.iload_n 2, 1) := by decide +kernel
theorem dX11_isLike_80 : decode cX11_isLike 80 = .ok (.ireturn, 1) := by decide +kernel
theorem dX11_readRow_0 : decode cX11_readRow 0 = .ok (.aload_n 0, 1) := by decide +kernel
theorem dX11_readRow_1 : decode cX11_readRow 1 = .ok (.getfield 113, 3) := by decide +kernel
theorem dX11_readRow_4 : decode cX11_readRow 4 = .ok (.iconst 2, 1) := by decide +kernel
theorem dX11_readRow_5 : decode cX11_readRow 5 = .ok (.if_icmp .eq 8, 3) := by decide +kernel
theorem dX11_readRow_8 : decode cX11_readRow 8 = .ok (.aload_n 0, 1) := by decide +kernel
theorem dX11_readRow_9 : decode cX11_readRow 9 = .ok (.iconst 1, 1) := by decide +kernel
theorem dX11_readRow_10 : decode cX11_readRow 10 = .ok (.invokevirtual 123, 3) := by decide +kernel
theorem dX11_readRow_13 : decode cX11_readRow 13 = .ok (.aload_n 0, 1) := by decide +kernel
theorem dX11_readRow_14 : decode cX11_readRow 14 = .ok (.getfield 94, 3) := by decide +kernel
theorem dX11_readRow_17 : decode cX11_readRow 17 = .ok (.ifCond .le 4, 3) := by decide +kernel
theorem dX11_readRow_20 : decode cX11_readRow 20 = .ok (.return_, 1) := by decide +kernel
theorem dX11_readRow_21 : decode cX11_readRow 21 = .ok (.aload_n 0, 1) := by decide +kernel
theorem dX11_readRow_22 : decode cX11_readRow 22 = .ok (.getfield 110, 3) := by decide +kernel
theorem dX11_readRow_25 : decode cX11_readRow 25 = .ok (.aload_n 0, 1) := by decide +kernel
theorem dX11_readRow_26 : decode cX11_readRow 26 = .ok (.getfield 97, 3) := by decide +kernel
theorem dX11_readRow_29 : decode cX11_readRow 29 = .ok (.isub, 1) := by decide +kernel
theorem dX11_readRow_30 : decode cX11_readRow 30 = .ok (.istore_n 3, 1) := by decide +kernel
theorem dX11_readRow_31 : decode cX11_readRow 31 = .ok (.iload_n 2, 1) := by decide +kernel
theorem dX11_readRow_32 : decode cX11_readRow 32 = .ok (.ifCond .eq 13, 3) := by decide +kernel
theorem dX11_readRow_35 : decode cX11_readRow 35 = .ok (.iload_n 3, 1) := by decide +kernel
theorem dX11_readRow_36 : decode cX11_readRow 36 = .ok (.aload_n 0, 1) := by decide +kernel
theorem dX11_readRow_37 : decode cX11_readRow 37 = .ok (.getfield 23, 3) := by decide +kernel
theorem dX11_readRow_40 : decode cX11_readRow 40 = .ok (.iload_n 1, 1) := by decide +kernel
theorem dX11_readRow_41 : decode cX11_readRow 41 = .ok (.iaload, 1) := by decide +kernel
theorem dX11_readRow_42 : decode cX11_readRow 42 = .ok (.if_icmp .ne 7, 3) := by decide +kernel
theorem dX11_readRow_45 : decode cX11_readRow 45 = .ok (.iconst 1, 1) := by decide +kernel
theorem dX11_readRow_46 : decode cX11_readRow 46 = .ok (.goto 4, 3) := by decide +kernel
theorem dX11_readRow_49 : decode cX11_readRow 49 = .ok (.iconst 0, 1) := by decide +kernel
theorem dX11_readRow_50 : decode cX11_readRow 50 = .ok (.istore 4, 2) := by decide +kernel
theorem dX11_readRow_52 : decode cX11_readRow 52 = .ok (.aload_n 0, 1) := by decide +kernel
theorem dX11_readRow_53 : decode cX11_readRow 53 = .ok (.getfield 97, 3) := by decide +kernel
theorem dX11_readRow_56 : decode cX11_readRow 56 = .ok (.istore 5, 2) := by decide +kernel
theorem dX11_readRow_58 : decode cX11_readRow 58 = .ok (.iload 5, 2) := by decide +kernel
theorem dX11_readRow_60 : decode cX11_readRow 60 = .ok (.aload_n 0, 1) := by decide +kernel
theorem dX11_readRow_61 : decode cX11_readRow 61 = .ok (.getfield 110, 3) := by decide +kernel
theorem dX11_readRow_64 : decode cX11_readRow 64 = .ok (.if_icmp .ge 33, 3) := by decide +kernel
theorem dX11_readRow_67 : decode cX11_readRow 67 = .ok (.iload 4, 2) := by decide +kernel
theorem dX11_readRow_69 : decode cX11_readRow 69 = .ok (.ifCond .eq 19, 3) := by decide +kernel
theorem dX11_readRow_72 : decode cX11_readRow 72 = .ok (.aload_n 0, 1) := by decide +kernel
theorem dX11_readRow_73 : decode cX11_readRow 73 = .ok (.getfield 13, 3) := by decide +kernel
theorem dX11_readRow_76 : decode cX11_readRow 76 = .ok (.iload 5, 2) := by decide +kernel
theorem dX11_readRow_78 : decode cX11_readRow 78 = .ok (.iaload, 1) := by decide +kernel
theorem dX11_readRow_79 : decode cX11_readRow 79 = .ok (.bipush 112, 2) := by decide +kernel
theorem dX11_readRow_81 : decode cX11_readRow 81 = .ok (.if_icmp .gt 7, 3) := by decide +kernel
theorem dX11_readRow_84 : decode cX11_readRow 84 = .ok (.iconst 1, 1) := by decide +kernel
theorem dX11_readRow_85 : decode cX11_readRow 85 = .ok (.goto 4, 3) := by decide +kernel
theorem dX11_readRow_88 : decode cX11_readRow 88 = .ok (.iconst 0, 1) := by decide +kernel
theorem dX11_readRow_89 : decode cX11_readRow 89 = .ok (.istore 4, 2) := by decide +kernel
theorem dX11_readRow_91 : decode cX11_readRow 91 = .ok (.iinc 5 1, 3) := by decide +kernel
theorem dX11_readRow_94 : decode cX11_readRow 94 = .ok (.goto (-36), 3) := by decide +kernel
theorem dX11_readRow_97 : decode cX11_readRow 97 = .ok (.iload 4, 2) := by decide +kernel
theorem dX11_readRow_99 : decode cX11_readRow 99 = .ok (.ifCond .ne 8, 3) := by decide +kernel
theorem dX11_readRow_102 : decode cX11_readRow 102 = .ok (.aload_n 0, 1) := by decide +kernel
theorem dX11_readRow_103 : decode cX11_readRow 103 = .ok (.iconst 2, 1) := by decide +kernel
theorem dX11_readRow_104 : decode cX11_readRow 104 = .ok (.invokevirtual 123, 3) := by decide +kernel
theorem dX11_readRow_107 : decode cX11_readRow 107 = .ok (.iload_n 2, 1) := by decide +kernel
theorem dX11_readRow_108 : decode cX11_readRow 108 = .ok (.bipush 12, 2) := by decide +kernel
theorem dX11_readRow_110 : decode cX11_readRow 110 = .ok (.if_icmp .ne 8, 3) := by decide +kernel
theorem dX11_readRow_113 : decode cX11_readRow 113 = .ok (.aload_n 0, 1) := by decide +kernel
theorem dX11_readRow_114 : decode cX11_readRow 114 = .ok (.iconst 4, 1) := by decide +kernel
theorem dX11_readRow_115 : decode cX11_readRow 115 = .ok (.invokevirtual 123, 3) := by decide +kernel
theorem dX11_readRow_118 : decode cX11_readRow 118 = .ok (.aload_n 0, 1) := by decide +kernel
theorem dX11_readRow_119 : decode cX11_readRow 119 = .ok (.getfield 94, 3) := by decide +kernel
theorem dX11_readRow_122 : decode cX11_readRow 122 = .ok (.ifCond .le 4, 3) := by decide +kernel
theorem dX11_readRow_125 : decode cX11_readRow 125 = .ok (.return_, 1) := by decide +kernel
theorem dX11_readRow_126 : decode cX11_readRow 126 = .ok (.aload_n 0, 1) := by decide +kernel
theorem dX11_readRow_127 : decode cX11_readRow 127 = .ok (.getfield 23, 3) := by decide +kernel
theorem dX11_readRow_130 : decode cX11_readRow 130 = .ok (.iload_n 1, 1) := by decide +kernel
theorem dX11_readRow_131 : decode cX11_readRow 131 = .ok (.iload_n 3, 1) := by decide +kernel
theorem dX11_readRow_132 : decode cX11_readRow 132 = .ok (.iastore, 1) := by decide +kernel
theorem dX11_readRow_133 : decode cX11_readRow 133 = .ok (.iconst 0, 1) := by decide +kernel
theorem dX11_readRow_134 : decode cX11_readRow 134 = .ok (.istore 5, 2) := by decide +kernel
theorem dX11_readRow_136 : decode cX11_readRow 136 = .ok (.iload 5, 2) := by decide +kernel
theorem dX11_readRow_138 : decode cX11_readRow 138 = .ok (.iload_n 3, 1) := by decide +kernel
theorem dX11_readRow_139 : decode cX11_readRow 139 = .ok (.if_icmp .ge 45, 3) := by decide +kernel
theorem dX11_readRow_142 : decode cX11_readRow 142 = .ok (.aload_n 0, 1) := by decide +kernel
theorem dX11_readRow_143 : decode cX11_readRow 143 = .ok (.getfield 29, 3) := by decide +kernel
theorem dX11_readRow_146 : decode cX11_readRow 146 = .ok (.sipush 192, 3) := by decide +kernel
theorem dX11_readRow_149 : decode cX11_readRow 149 = .ok (.iload_n 1, 1) := by decide +kernel
theorem dX11_readRow_150 : decode cX11_readRow 150 = .ok (.imul, 1) := by decide +kernel
theorem dX11_readRow_151 : decode cX11_readRow 151 = .ok (.bipush 16, 2) := by decide +kernel
theorem dX11_readRow_153 : decode cX11_readRow 153 = .ok (.iload_n 2, 1) := by decide +kernel
theorem dX11_readRow_154 : decode cX11_readRow 154 = .ok (.imul, 1) := by decide +kernel
theorem dX11_readRow_155 : decode cX11_readRow 155 = .ok (.iadd, 1) := by decide +kernel
theorem dX11_readRow_156 : decode cX11_readRow 156 = .ok (.iload 5, 2) := by decide +kernel
theorem dX11_readRow_158 : decode cX11_readRow 158 = .ok (.iadd, 1) := by decide +kernel
theorem dX11_readRow_159 : decode cX11_readRow 159 = .ok (.bipush 17, 2) := by decide +kernel
theorem dX11_readRow_161 : decode cX11_readRow 161 = .ok (.aload_n 0, 1) := by decide +kernel
theorem dX11_readRow_162 : decode cX11_readRow 162 = .ok (.getfield 13, 3) := by decide +kernel
theorem dX11_readRow_165 : decode cX11_readRow 165 = .ok (.aload_n 0, 1) := by decide +kernel
theorem dX11_readRow_166 : decode cX11_readRow 166 = .ok (.getfield 97, 3) := by decide +kernel
theorem dX11_readRow_169 : decode cX11_readRow 169 = .ok (.iload 5, 2) := by decide +kernel
theorem dX11_readRow_171 : decode cX11_readRow 171 = .ok (.iadd, 1) := by decide +kernel
theorem dX11_readRow_172 : decode cX11_readRow 172 = .ok (.iaload, 1) := by decide +kernel
theorem dX11_readRow_173 : decode cX11_readRow 173 = .ok (.bipush 97, 2) := by decide +kernel
theorem dX11_readRow_175 : decode cX11_readRow 175 = .ok (.isub, 1) := by decide +kernel
theorem dX11_readRow_176 : decode cX11_readRow 176 = .ok (.imul, 1) := by decide +kernel
theorem dX11_readRow_177 : decode cX11_readRow 177 = .ok (.iastore, 1) := by decide +kernel
theorem dX11_readRow_178 : decode cX11_readRow 178 = .ok (.iinc 5 1, 3) := by decide +kernel
theorem dX11_readRow_181 : decode cX11_readRow 181 = .ok (.goto (-45), 3) := by decide +kernel
theorem dX11_readRow_184 : decode cX11_readRow 184 = .ok (.aload_n 0, 1) := by decide +kernel
theorem dX11_readRow_185 : decode cX11_readRow 185 = .ok (.getfield 26, 3) := by decide +kernel
theorem dX11_readRow_188 : decode cX11_readRow 188 = .ok (.iload_n 1, 1) := by decide +kernel
theorem dX11_readRow_189 : decode cX11_readRow 189 = .ok (.iload_n 2, 1) := by decide +kernel
theorem dX11_readRow_190 : decode cX11_readRow 190 = .ok (.iconst 1, 1) := by decide +kernel
theorem dX11_readRow_191 : decode cX11_readRow 191 = .ok (.iadd, 1) := by decide +kernel
theorem dX11_readRow_192 : decode cX11_readRow 192 = .ok (.iastore, 1) := by decide +kernel
theorem dX11_readRow_193 : decode cX11_readRow 193 = .ok (.aload_n 0, 1) := by decide +kernel
theorem dX11_readRow_194 : decode cX11_readRow 194 = .ok (.invokevirtual 127, 3) := by decide +kernel
theorem dX11_readRow_197 : decode cX11_readRow 197 = .ok (.return_, 1) := by decide +kernel
theorem dX11_readPicture_0 : decode cX11_readPicture 0 = .ok (.aload_n 0, 1) := by decide +kernel
theorem dX11_readPicture_1 : decode cX11_readPicture 1 = .ok (.getfield 130, 3) := by decide +kernel
theorem dX11_readPicture_4 : decode cX11_readPicture 4 = .ok (.istore_n 1, 1) := by decide +kernel
theorem dX11_readPicture_5 : decode cX11_readPicture 5 = .ok (.aload_n 0, 1) := by decide +kernel
theorem dX11_readPicture_6 : decode cX11_readPicture 6 = .ok (.invokevirtual 133, 3) := by decide +kernel
theorem dX11_readPicture_9 : decode cX11_readPicture 9 = .ok (.ifCond .ne 11, 3) := by decide +kernel
theorem dX11_readPicture_12 : decode cX11_readPicture 12 = .ok (.aload_n 0, 1) := by decide +kernel
theorem dX11_readPicture_13 : decode cX11_readPicture 13 = .ok (.iconst 1, 1) := by decide +kernel
theorem dX11_readPicture_14 : decode cX11_readPicture 14 = .ok (.invokevirtual 123, 3) := by decide +kernel
theorem dX11_readPicture_17 : decode cX11_readPicture 17 = .ok (.goto 13, 3) := by decide +kernel
theorem dX11_readPicture_20 : decode cX11_readPicture 20 = .ok (.iload_n 1, 1) := by decide +kernel
theorem dX11_readPicture_21 : decode cX11_readPicture 21 = .ok (.iconst 4, 1) := by decide +kernel
theorem dX11_readPicture_22 : decode cX11_readPicture 22 = .ok (.if_icmp .ne 8, 3) := by decide +kernel
theorem dX11_readPicture_25 : decode cX11_readPicture 25 = .ok (.aload_n 0, 1) := by decide +kernel
theorem dX11_readPicture_26 : decode cX11_readPicture 26 = .ok (.iconst 4, 1) := by decide +kernel
theorem dX11_readPicture_27 : decode cX11_readPicture 27 = .ok (.invokevirtual 123, 3) := by decide +kernel
theorem dX11_readPicture_30 : decode cX11_readPicture 30 = .ok (.aload_n 0, 1) := by decide +kernel
theorem dX11_readPicture_31 : decode cX11_readPicture 31 = .ok (.invokevirtual 127, 3) := by decide +kernel
theorem dX11_readPicture_34 : decode cX11_readPicture 34 = .ok (.aload_n 0, 1) := by decide +kernel
theorem dX11_readPicture_35 : decode cX11_readPicture 35 = .ok (.getfield 94, 3) := by decide +kernel
theorem dX11_readPicture_38 : decode cX11_readPicture 38 = .ok (.ifCond .ne 16, 3) := by decide +kernel
theorem dX11_readPicture_41 : decode cX11_readPicture 41 = .ok (.aload_n 0, 1) := by decide +kernel
theorem dX11_readPicture_42 : decode cX11_readPicture 42 = .ok (.getfield 113, 3) := by decide +kernel
theorem dX11_readPicture_45 : decode cX11_readPicture 45 = .ok (.iconst 2, 1) := by decide +kernel
theorem dX11_readPicture_46 : decode cX11_readPicture 46 = .ok (.if_icmp .eq 8, 3) := by decide +kernel
theorem dX11_readPicture_49 : decode cX11_readPicture 49 = .ok (.aload_n 0, 1) := by decide +kernel
theorem dX11_readPicture_50 : decode cX11_readPicture 50 = .ok (.iconst 1, 1) := by decide +kernel
theorem dX11_readPicture_51 : decode cX11_readPicture 51 = .ok (.invokevirtual 123, 3) := by decide +kernel
theorem dX11_readPicture_54 : decode cX11_readPicture 54 = .ok (.iconst 0, 1) := by decide +kernel
theorem dX11_readPicture_55 : decode cX11_readPicture 55 = .ok (.istore_n 2, 1) := by decide +kernel
theorem dX11_readPicture_56 : decode cX11_readPicture 56 = .ok (.aload_n 0, 1) := by decide +kernel
theorem dX11_readPicture_57 : decode cX11_readPicture 57 = .ok (.getfield 94, 3) := by decide +kernel
theorem dX11_readPicture_60 : decode cX11_readPicture 60 = .ok (.ifCond .ne 27, 3) := by decide +kernel
theorem dX11_readPicture_63 : decode cX11_readPicture 63 = .ok (.iload_n 2, 1) := by decide +kernel
theorem dX11_readPicture_64 : decode cX11_readPicture 64 = .ok (.iload_n 1, 1) := by decide +kernel
theorem dX11_readPicture_65 : decode cX11_readPicture 65 = .ok (.if_icmp .ge 22, 3) := by decide +kernel
theorem dX11_readPicture_68 : decode cX11_readPicture 68 = .ok (.aload_n 0, 1) := by decide +kernel
theorem dX11_readPicture_69 : decode cX11_readPicture 69 = .ok (.iload_n 2, 1) := by decide +kernel
theorem dX11_readPicture_70 : decode cX11_readPicture 70 = .ok (.invokevirtual 137, 3) := by decide +kernel
theorem dX11_readPicture_73 : decode cX11_readPicture 73 = .ok (.ifCond .eq 8, 3) := by decide +kernel
theorem dX11_readPicture_76 : decode cX11_readPicture 76 = .ok (.aload_n 0, 1) := by decide +kernel
theorem dX11_readPicture_77 : decode cX11_readPicture 77 = .ok (.iconst 3, 1) := by decide +kernel
theorem dX11_readPicture_78 : decode cX11_readPicture 78 = .ok (.invokevirtual 123, 3) := by decide +kernel
theorem dX11_readPicture_81 : decode cX11_readPicture 81 = .ok (.iinc 2 1, 3) := by decide +kernel
theorem dX11_readPicture_84 : decode cX11_readPicture 84 = .ok (.goto (-28), 3) := by decide +kernel
theorem dX11_readPicture_87 : decode cX11_readPicture 87 = .ok (.aload_n 0, 1) := by decide +kernel
theorem dX11_readPicture_88 : decode cX11_readPicture 88 = .ok (.getfield 94, 3) := by decide +kernel
theorem dX11_readPicture_91 : decode cX11_readPicture 91 = .ok (.ifCond .le 4, 3) := by decide +kernel
theorem dX11_readPicture_94 : decode cX11_readPicture 94 = .ok (.return_, 1) := by decide +kernel
theorem dX11_readPicture_95 : decode cX11_readPicture 95 = .ok (.aload_n 0, 1) := by decide +kernel
theorem dX11_readPicture_96 : decode cX11_readPicture 96 = .ok (.getfield 17, 3) := by decide +kernel
theorem dX11_readPicture_99 : decode cX11_readPicture 99 = .ok (.iload_n 1, 1) := by decide +kernel
theorem dX11_readPicture_100 : decode cX11_readPicture 100 = .ok (.aload_n 0, 1) := by decide +kernel
theorem dX11_readPicture_101 : decode cX11_readPicture 101 = .ok (.getfield 97, 3) := by decide +kernel
theorem dX11_readPicture_104 : decode cX11_readPicture 104 = .ok (.iastore, 1) := by decide +kernel
theorem dX11_readPicture_105 : decode cX11_readPicture 105 = .ok (.aload_n 0, 1) := by decide +kernel
theorem dX11_readPicture_106 : decode cX11_readPicture 106 = .ok (.getfield 20, 3) := by decide +kernel
theorem dX11_readPicture_109 : decode cX11_readPicture 109 = .ok (.iload_n 1, 1) := by decide +kernel
theorem dX11_readPicture_110 : decode cX11_readPicture 110 = .ok (.aload_n 0, 1) := by decide +kernel
theorem dX11_readPicture_111 : decode cX11_readPicture 111 = .ok (.getfield 110, 3) := by decide +kernel
theorem dX11_readPicture_114 : decode cX11_readPicture 114 = .ok (.aload_n 0, 1) := by decide +kernel
theorem dX11_readPicture_115 : decode cX11_readPicture 115 = .ok (.getfield 97, 3) := by decide +kernel
theorem dX11_readPicture_118 : decode cX11_readPicture 118 = .ok (.isub, 1) := by decide +kernel
theorem dX11_readPicture_119 : decode cX11_readPicture 119 = .ok (.iastore, 1) := by decide +kernel
theorem dX11_readPicture_120 : decode cX11_readPicture 120 = .ok (.aload_n 0, 1) := by decide +kernel
theorem dX11_readPicture_121 : decode cX11_readPicture 121 = .ok (.invokevirtual 127, 3) := by decide +kernel
theorem dX11_readPicture_124 : decode cX11_readPicture 124 = .ok (.aload_n 0, 1) := by decide +kernel
theorem dX11_readPicture_125 : decode cX11_readPicture 125 = .ok (.iload_n 1, 1) := by decide +kernel
theorem dX11_readPicture_126 : decode cX11_readPicture 126 = .ok (.iconst 0, 1) := by decide +kernel
theorem dX11_readPicture_127 : decode cX11_readPicture 127 = .ok (.invokevirtual 140, 3) := by decide +kernel
theorem dX11_readPicture_130 : decode cX11_readPicture 130 = .ok (.aload_n 0, 1) := by decide +kernel
theorem dX11_readPicture_131 : decode cX11_readPicture 131 = .ok (.bipush 47, 2) := by decide +kernel
theorem dX11_readPicture_133 : decode cX11_readPicture 133 = .ok (.invokevirtual 144, 3) := by decide +kernel
theorem dX11_readPicture_136 : decode cX11_readPicture 136 = .ok (.ifCond .eq 21, 3) := by decide +kernel
theorem dX11_readPicture_139 : decode cX11_readPicture 139 = .ok (.aload_n 0, 1) := by decide +kernel
theorem dX11_readPicture_140 : decode cX11_readPicture 140 = .ok (.invokevirtual 127, 3) := by decide +kernel
theorem dX11_readPicture_143 : decode cX11_readPicture 143 = .ok (.aload_n 0, 1) := by decide +kernel
theorem dX11_readPicture_144 : decode cX11_readPicture 144 = .ok (.iload_n 1, 1) := by decide +kernel
theorem dX11_readPicture_145 : decode cX11_readPicture 145 = .ok (.aload_n 0, 1) := by decide +kernel
theorem dX11_readPicture_146 : decode cX11_readPicture 146 = .ok (.getfield 26, 3) := by decide +kernel
theorem dX11_readPicture_149 : decode cX11_readPicture 149 = .ok (.iload_n 1, 1) := by decide +kernel
theorem dX11_readPicture_150 : decode cX11_readPicture 150 = .ok (.iaload, 1) := by decide +kernel
theorem dX11_readPicture_151 : decode cX11_readPicture 151 = .ok (.invokevirtual 140, 3) := by decide +kernel
theorem dX11_readPicture_154 : decode cX11_readPicture 154 = .ok (.goto (-24), 3) := by decide +kernel
theorem dX11_readPicture_157 : decode cX11_readPicture 157 = .ok (.aload_n 0, 1) := by decide +kernel
theorem dX11_readPicture_158 : decode cX11_readPicture 158 = .ok (.getfield 94, 3) := by decide +kernel
theorem dX11_readPicture_161 : decode cX11_readPicture 161 = .ok (.ifCond .ne 13, 3) := by decide +kernel
theorem dX11_readPicture_164 : decode cX11_readPicture 164 = .ok (.aload_n 0, 1) := by decide +kernel
theorem dX11_readPicture_165 : decode cX11_readPicture 165 = .ok (.dup, 1) := by decide +kernel
theorem dX11_readPicture_166 : decode cX11_readPicture 166 = .ok (.getfield 130, 3) := by decide +kernel
theorem dX11_readPicture_169 : decode cX11_readPicture 169 = .ok (.iconst 1, 1) := by decide +kernel
theorem dX11_readPicture_170 : decode cX11_readPicture 170 = .ok (.iadd, 1) := by decide +kernel
theorem dX11_readPicture_171 : decode cX11_readPicture 171 = .ok (.putfield 130, 3) := by decide +kernel
theorem dX11_readPicture_174 : decode cX11_readPicture 174 = .ok (.return_, 1) := by decide +kernel
theorem dX11_text_0 : decode cX11_text 0 = .ok (.aload_n 0, 1) := by decide +kernel
theorem dX11_text_1 : decode cX11_text 1 = .ok (.iconst 0, 1) := by decide +kernel
theorem dX11_text_2 : decode cX11_text 2 = .ok (.putfield 85, 3) := by decide +kernel
theorem dX11_text_5 : decode cX11_text 5 = .ok (.iload_n 1, 1) := by decide +kernel
theorem dX11_text_6 : decode cX11_text 6 = .ok (.iconst 0, 1) := by decide +kernel
theorem dX11_text_7 : decode cX11_text 7 = .ok (.aload_n 0, 1) := by decide +kernel
theorem dX11_text_8 : decode cX11_text 8 = .ok (.getfield 91, 3) := by decide +kernel
theorem dX11_text_11 : decode cX11_text 11 = .ok (.invokestatic 106, 3) := by decide +kernel
theorem dX11_text_14 : decode cX11_text 14 = .ok (.ifCond .ne 9, 3) := by decide +kernel
theorem dX11_text_17 : decode cX11_text 17 = .ok (.aload_n 0, 1) := by decide +kernel
theorem dX11_text_18 : decode cX11_text 18 = .ok (.iconst 2, 1) := by decide +kernel
theorem dX11_text_19 : decode cX11_text 19 = .ok (.invokevirtual 147, 3) := by decide +kernel
theorem dX11_text_22 : decode cX11_text 22 = .ok (.ireturn, 1) := by decide +kernel
theorem dX11_text_23 : decode cX11_text 23 = .ok (.aload_n 0, 1) := by decide +kernel
theorem dX11_text_24 : decode cX11_text 24 = .ok (.iload_n 1, 1) := by decide +kernel
theorem dX11_text_25 : decode cX11_text 25 = .ok (.putfield 103, 3) := by decide +kernel
theorem dX11_text_28 : decode cX11_text 28 = .ok (.aload_n 0, 1) := by decide +kernel
theorem dX11_text_29 : decode cX11_text 29 = .ok (.iconst 0, 1) := by decide +kernel
theorem dX11_text_30 : decode cX11_text 30 = .ok (.putfield 91, 3) := by decide +kernel
theorem dX11_text_33 : decode cX11_text 33 = .ok (.aload_n 0, 1) := by decide +kernel
theorem dX11_text_34 : decode cX11_text 34 = .ok (.iconst 0, 1) := by decide +kernel
theorem dX11_text_35 : decode cX11_text 35 = .ok (.putfield 110, 3) := by decide +kernel
theorem dX11_text_38 : decode cX11_text 38 = .ok (.aload_n 0, 1) := by decide +kernel
theorem dX11_text_39 : decode cX11_text 39 = .ok (.iconst 0, 1) := by decide +kernel
theorem dX11_text_40 : decode cX11_text 40 = .ok (.putfield 94, 3) := by decide +kernel
theorem dX11_text_43 : decode cX11_text 43 = .ok (.aload_n 0, 1) := by decide +kernel
theorem dX11_text_44 : decode cX11_text 44 = .ok (.iconst 0, 1) := by decide +kernel
theorem dX11_text_45 : decode cX11_text 45 = .ok (.putfield 130, 3) := by decide +kernel
theorem dX11_text_48 : decode cX11_text 48 = .ok (.aload_n 0, 1) := by decide +kernel
theorem dX11_text_49 : decode cX11_text 49 = .ok (.invokevirtual 127, 3) := by decide +kernel
theorem dX11_text_52 : decode cX11_text 52 = .ok (.aload_n 0, 1) := by decide +kernel
theorem dX11_text_53 : decode cX11_text 53 = .ok (.invokevirtual 151, 3) := by decide +kernel
theorem dX11_text_56 : decode cX11_text 56 = .ok (.aload_n 0, 1) := by decide +kernel
theorem dX11_text_57 : decode cX11_text 57 = .ok (.bipush 59, 2) := by decide +kernel
theorem dX11_text_59 : decode cX11_text 59 = .ok (.invokevirtual 144, 3) := by decide +kernel
theorem dX11_text_62 : decode cX11_text 62 = .ok (.ifCond .eq 14, 3) := by decide +kernel
theorem dX11_text_65 : decode cX11_text 65 = .ok (.aload_n 0, 1) := by decide +kernel
theorem dX11_text_66 : decode cX11_text 66 = .ok (.invokevirtual 127, 3) := by decide +kernel
theorem dX11_text_69 : decode cX11_text 69 = .ok (.aload_n 0, 1) := by decide +kernel
theorem dX11_text_70 : decode cX11_text 70 = .ok (.invokevirtual 151, 3) := by decide +kernel
theorem dX11_text_73 : decode cX11_text 73 = .ok (.goto (-17), 3) := by decide +kernel
theorem dX11_text_76 : decode cX11_text 76 = .ok (.aload_n 0, 1) := by decide +kernel
theorem dX11_text_77 : decode cX11_text 77 = .ok (.getfield 94, 3) := by decide +kernel
theorem dX11_text_80 : decode cX11_text 80 = .ok (.ifCond .ne 16, 3) := by decide +kernel
theorem dX11_text_83 : decode cX11_text 83 = .ok (.aload_n 0, 1) := by decide +kernel
theorem dX11_text_84 : decode cX11_text 84 = .ok (.getfield 113, 3) := by decide +kernel
theorem dX11_text_87 : decode cX11_text 87 = .ok (.iconst 1, 1) := by decide +kernel
theorem dX11_text_88 : decode cX11_text 88 = .ok (.if_icmp .eq 8, 3) := by decide +kernel
theorem dX11_text_91 : decode cX11_text 91 = .ok (.aload_n 0, 1) := by decide +kernel
theorem dX11_text_92 : decode cX11_text 92 = .ok (.iconst 1, 1) := by decide +kernel
theorem dX11_text_93 : decode cX11_text 93 = .ok (.invokevirtual 123, 3) := by decide +kernel
theorem dX11_text_96 : decode cX11_text 96 = .ok (.aload_n 0, 1) := by decide +kernel
theorem dX11_text_97 : decode cX11_text 97 = .ok (.getfield 94, 3) := by decide +kernel
theorem dX11_text_100 : decode cX11_text 100 = .ok (.ifCond .le 18, 3) := by decide +kernel
theorem dX11_text_103 : decode cX11_text 103 = .ok (.aload_n 0, 1) := by decide +kernel
theorem dX11_text_104 : decode cX11_text 104 = .ok (.iconst 4, 1) := by decide +kernel
theorem dX11_text_105 : decode cX11_text 105 = .ok (.putfield 88, 3) := by decide +kernel
theorem dX11_text_108 : decode cX11_text 108 = .ok (.aload_n 0, 1) := by decide +kernel
theorem dX11_text_109 : decode cX11_text 109 = .ok (.aload_n 0, 1) := by decide +kernel
theorem dX11_text_110 : decode cX11_text 110 = .ok (.getfield 100, 3) := by decide +kernel
theorem dX11_text_113 : decode cX11_text 113 = .ok (.putfield 9, 3) := by decide +kernel
theorem dX11_text_116 : decode cX11_text 116 = .ok (.iconst (-1), 1) := by decide +kernel
theorem dX11_text_117 : decode cX11_text 117 = .ok (.ireturn, 1) := by decide +kernel
theorem dX11_text_118 : decode cX11_text 118 = .ok (.aload_n 0, 1) := by decide +kernel
theorem dX11_text_119 : decode cX11_text 119 = .ok (.invokevirtual 154, 3) := by decide +kernel
theorem dX11_text_122 : decode cX11_text 122 = .ok (.aload_n 0, 1) := by decide +kernel
theorem dX11_text_123 : decode cX11_text 123 = .ok (.aload_n 0, 1) := by decide +kernel
theorem dX11_text_124 : decode cX11_text 124 = .ok (.getfield 130, 3) := by decide +kernel
theorem dX11_text_127 : decode cX11_text 127 = .ok (.invokevirtual 157, 3) := by decide +kernel
theorem dX11_text_130 : decode cX11_text 130 = .ok (.ireturn, 1) := by decide +kernel
theorem dX11_holds_0 : decode cX11_holds 0 = .ok (.aload_n 0, 1) := by decide +kernel
theorem dX11_holds_1 : decode cX11_holds 1 = .ok (.aload_n 0, 1) := by decide +kernel
theorem dX11_holds_2 : decode cX11_holds 2 = .ok (.getfield 130, 3) := by decide +kernel
theorem dX11_holds_5 : decode cX11_holds 5 = .ok (.putfield 160, 3) := by decide +kernel
theorem dX11_holds_8 : decode cX11_holds 8 = .ok (.iconst 0, 1) := by decide +kernel
theorem dX11_holds_9 : decode cX11_holds 9 = .ok (.istore_n 1, 1) := by decide +kernel
theorem dX11_holds_10 : decode cX11_holds 10 = .ok (.iload_n 1, 1) := by decide +kernel
theorem dX11_holds_11 : decode cX11_holds 11 = .ok (.bipush 6, 2) := by decide +kernel
theorem dX11_holds_13 : decode cX11_holds 13 = .ok (.if_icmp .ge 20, 3) := by decide +kernel
theorem dX11_holds_16 : decode cX11_holds 16 = .ok (.aload_n 0, 1) := by decide +kernel
theorem dX11_holds_17 : decode cX11_holds 17 = .ok (.getfield 38, 3) := by decide +kernel
theorem dX11_holds_20 : decode cX11_holds 20 = .ok (.sipush 194, 3) := by decide +kernel
theorem dX11_holds_23 : decode cX11_holds 23 = .ok (.iload_n 1, 1) := by decide +kernel
theorem dX11_holds_24 : decode cX11_holds 24 = .ok (.imul, 1) := by decide +kernel
theorem dX11_holds_25 : decode cX11_holds 25 = .ok (.iconst 0, 1) := by decide +kernel
theorem dX11_holds_26 : decode cX11_holds 26 = .ok (.iastore, 1) := by decide +kernel
theorem dX11_holds_27 : decode cX11_holds 27 = .ok (.iinc 1 1, 3) := by decide +kernel
theorem dX11_holds_30 : decode cX11_holds 30 = .ok (.goto (-20), 3) := by decide +kernel
theorem dX11_holds_33 : decode cX11_holds 33 = .ok (.iconst 0, 1) := by decide +kernel
theorem dX11_holds_34 : decode cX11_holds 34 = .ok (.istore_n 1, 1) := by decide +kernel
theorem dX11_holds_35 : decode cX11_holds 35 = .ok (.iload_n 1, 1) := by decide +kernel
theorem dX11_holds_36 : decode cX11_holds 36 = .ok (.aload_n 0, 1) := by decide +kernel
theorem dX11_holds_37 : decode cX11_holds 37 = .ok (.getfield 130, 3) := by decide +kernel
theorem dX11_holds_40 : decode cX11_holds 40 = .ok (.if_icmp .ge 138, 3) := by decide +kernel
theorem dX11_holds_43 : decode cX11_holds 43 = .ok (.aload_n 0, 1) := by decide +kernel
theorem dX11_holds_44 : decode cX11_holds 44 = .ok (.getfield 38, 3) := by decide +kernel
theorem dX11_holds_47 : decode cX11_holds 47 = .ok (.sipush 194, 3) := by decide +kernel
theorem dX11_holds_50 : decode cX11_holds 50 = .ok (.iload_n 1, 1) := by decide +kernel
theorem dX11_holds_51 : decode cX11_holds 51 = .ok (.imul, 1) := by decide +kernel
theorem dX11_holds_52 : decode cX11_holds 52 = .ok (.aload_n 0, 1) := by decide +kernel
theorem dX11_holds_53 : decode cX11_holds 53 = .ok (.getfield 23, 3) := by decide +kernel
theorem dX11_holds_56 : decode cX11_holds 56 = .ok (.iload_n 1, 1) := by decide +kernel
theorem dX11_holds_57 : decode cX11_holds 57 = .ok (.iaload, 1) := by decide +kernel
theorem dX11_holds_58 : decode cX11_holds 58 = .ok (.iastore, 1) := by decide +kernel
theorem dX11_holds_59 : decode cX11_holds 59 = .ok (.aload_n 0, 1) := by decide +kernel
theorem dX11_holds_60 : decode cX11_holds 60 = .ok (.getfield 38, 3) := by decide +kernel
theorem dX11_holds_63 : decode cX11_holds 63 = .ok (.sipush 194, 3) := by decide +kernel
theorem dX11_holds_66 : decode cX11_holds 66 = .ok (.iload_n 1, 1) := by decide +kernel
theorem dX11_holds_67 : decode cX11_holds 67 = .ok (.imul, 1) := by decide +kernel
theorem dX11_holds_68 : decode cX11_holds 68 = .ok (.iconst 1, 1) := by decide +kernel
theorem dX11_holds_69 : decode cX11_holds 69 = .ok (.iadd, 1) := by decide +kernel
theorem dX11_holds_70 : decode cX11_holds 70 = .ok (.aload_n 0, 1) := by decide +kernel
theorem dX11_holds_71 : decode cX11_holds 71 = .ok (.getfield 26, 3) := by decide +kernel
theorem dX11_holds_74 : decode cX11_holds 74 = .ok (.iload_n 1, 1) := by decide +kernel
theorem dX11_holds_75 : decode cX11_holds 75 = .ok (.iaload, 1) := by decide +kernel
theorem dX11_holds_76 : decode cX11_holds 76 = .ok (.iastore, 1) := by decide +kernel
theorem dX11_holds_77 : decode cX11_holds 77 = .ok (.iconst 0, 1) := by decide +kernel
theorem dX11_holds_78 : decode cX11_holds 78 = .ok (.istore_n 2, 1) := by decide +kernel
theorem dX11_holds_79 : decode cX11_holds 79 = .ok (.iload_n 2, 1) := by decide +kernel
theorem dX11_holds_80 : decode cX11_holds 80 = .ok (.sipush 192, 3) := by decide +kernel
theorem dX11_holds_83 : decode cX11_holds 83 = .ok (.if_icmp .ge 35, 3) := by decide +kernel
theorem dX11_holds_86 : decode cX11_holds 86 = .ok (.aload_n 0, 1) := by decide +kernel
theorem dX11_holds_87 : decode cX11_holds 87 = .ok (.getfield 38, 3) := by decide +kernel
theorem dX11_holds_90 : decode cX11_holds 90 = .ok (.sipush 194, 3) := by decide +kernel
theorem dX11_holds_93 : decode cX11_holds 93 = .ok (.iload_n 1, 1) := by decide +kernel
theorem dX11_holds_94 : decode cX11_holds 94 = .ok (.imul, 1) := by decide +kernel
theorem dX11_holds_95 : decode cX11_holds 95 = .ok (.iconst 2, 1) := by decide +kernel
theorem dX11_holds_96 : decode cX11_holds 96 = .ok (.iadd, 1) := by decide +kernel
theorem dX11_holds_97 : decode cX11_holds 97 = .ok (.iload_n 2, 1) := by decide +kernel
theorem dX11_holds_98 : decode cX11_holds 98 = .ok (.iadd, 1) := by decide +kernel
theorem dX11_holds_99 : decode cX11_holds 99 = .ok (.aload_n 0, 1) := by decide +kernel
theorem dX11_holds_100 : decode cX11_holds 100 = .ok (.getfield 29, 3) := by decide +kernel
theorem dX11_holds_103 : decode cX11_holds 103 = .ok (.sipush 192, 3) := by decide +kernel
theorem dX11_holds_106 : decode cX11_holds 106 = .ok (.iload_n 1, 1) := by decide +kernel
theorem dX11_holds_107 : decode cX11_holds 107 = .ok (.imul, 1) := by decide +kernel
theorem dX11_holds_108 : decode cX11_holds 108 = .ok (.iload_n 2, 1) := by decide +kernel
theorem dX11_holds_109 : decode cX11_holds 109 = .ok (.iadd, 1) := by decide +kernel
theorem dX11_holds_110 : decode cX11_holds 110 = .ok (.iaload, 1) := by decide +kernel
theorem dX11_holds_111 : decode cX11_holds 111 = .ok (.iastore, 1) := by decide +kernel
theorem dX11_holds_112 : decode cX11_holds 112 = .ok (.iinc 2 1, 3) := by decide +kernel
theorem dX11_holds_115 : decode cX11_holds 115 = .ok (.goto (-36), 3) := by decide +kernel
theorem dX11_holds_118 : decode cX11_holds 118 = .ok (.aload_n 0, 1) := by decide +kernel
theorem dX11_holds_119 : decode cX11_holds 119 = .ok (.getfield 35, 3) := by decide +kernel
theorem dX11_holds_122 : decode cX11_holds 122 = .ok (.iload_n 1, 1) := by decide +kernel
theorem dX11_holds_123 : decode cX11_holds 123 = .ok (.aload_n 0, 1) := by decide +kernel
theorem dX11_holds_124 : decode cX11_holds 124 = .ok (.getfield 20, 3) := by decide +kernel
theorem dX11_holds_127 : decode cX11_holds 127 = .ok (.iload_n 1, 1) := by decide +kernel
theorem dX11_holds_128 : decode cX11_holds 128 = .ok (.iaload, 1) := by decide +kernel
theorem dX11_holds_129 : decode cX11_holds 129 = .ok (.iastore, 1) := by decide +kernel
theorem dX11_holds_130 : decode cX11_holds 130 = .ok (.iconst 0, 1) := by decide +kernel
theorem dX11_holds_131 : decode cX11_holds 131 = .ok (.istore_n 2, 1) := by decide +kernel
theorem dX11_holds_132 : decode cX11_holds 132 = .ok (.iload_n 2, 1) := by decide +kernel
theorem dX11_holds_133 : decode cX11_holds 133 = .ok (.aload_n 0, 1) := by decide +kernel
theorem dX11_holds_134 : decode cX11_holds 134 = .ok (.getfield 20, 3) := by decide +kernel
theorem dX11_holds_137 : decode cX11_holds 137 = .ok (.iload_n 1, 1) := by decide +kernel
theorem dX11_holds_138 : decode cX11_holds 138 = .ok (.iaload, 1) := by decide +kernel
theorem dX11_holds_139 : decode cX11_holds 139 = .ok (.if_icmp .ge 33, 3) := by decide +kernel
theorem dX11_holds_142 : decode cX11_holds 142 = .ok (.aload_n 0, 1) := by decide +kernel
theorem dX11_holds_143 : decode cX11_holds 143 = .ok (.getfield 32, 3) := by decide +kernel
theorem dX11_holds_146 : decode cX11_holds 146 = .ok (.bipush 16, 2) := by decide +kernel
theorem dX11_holds_148 : decode cX11_holds 148 = .ok (.iload_n 1, 1) := by decide +kernel
theorem dX11_holds_149 : decode cX11_holds 149 = .ok (.imul, 1) := by decide +kernel
theorem dX11_holds_150 : decode cX11_holds 150 = .ok (.iload_n 2, 1) := by decide +kernel
theorem dX11_holds_151 : decode cX11_holds 151 = .ok (.iadd, 1) := by decide +kernel
theorem dX11_holds_152 : decode cX11_holds 152 = .ok (.aload_n 0, 1) := by decide +kernel
theorem dX11_holds_153 : decode cX11_holds 153 = .ok (.getfield 13, 3) := by decide +kernel
theorem dX11_holds_156 : decode cX11_holds 156 = .ok (.aload_n 0, 1) := by decide +kernel
theorem dX11_holds_157 : decode cX11_holds 157 = .ok (.getfield 17, 3) := by decide +kernel
theorem dX11_holds_160 : decode cX11_holds 160 = .ok (.iload_n 1, 1) := by decide +kernel
theorem dX11_holds_161 : decode cX11_holds 161 = .ok (.iaload, 1) := by decide +kernel
theorem dX11_holds_162 : decode cX11_holds 162 = .ok (.iload_n 2, 1) := by decide +kernel
theorem dX11_holds_163 : decode cX11_holds 163 = .ok (.iadd, 1) := by decide +kernel
theorem dX11_holds_164 : decode cX11_holds 164 = .ok (.iaload, 1) := by decide +kernel
theorem dX11_holds_165 : decode cX11_holds 165 = .ok (.iastore, 1) := by decide +kernel
theorem dX11_holds_166 : decode cX11_holds 166 = .ok (.iinc 2 1, 3) := by decide +kernel
theorem dX11_holds_169 : decode cX11_holds 169 = .ok (.goto (-37), 3) := by decide +kernel
theorem dX11_holds_172 : decode cX11_holds 172 = .ok (.iinc 1 1, 3) := by decide +kernel
theorem dX11_holds_175 : decode cX11_holds 175 = .ok (.goto (-140), 3) := by decide +kernel
theorem dX11_holds_178 : decode cX11_holds 178 = .ok (.aload_n 0, 1) := by decide +kernel
theorem dX11_holds_179 : decode cX11_holds 179 = .ok (.iconst 0, 1) := by decide +kernel
theorem dX11_holds_180 : decode cX11_holds 180 = .ok (.putfield 163, 3) := by decide +kernel
theorem dX11_holds_183 : decode cX11_holds 183 = .ok (.aload_n 0, 1) := by decide +kernel
theorem dX11_holds_184 : decode cX11_holds 184 = .ok (.iconst 0, 1) := by decide +kernel
theorem dX11_holds_185 : decode cX11_holds 185 = .ok (.putfield 166, 3) := by decide +kernel
theorem dX11_holds_188 : decode cX11_holds 188 = .ok (.return_, 1) := by decide +kernel
theorem dX11_fault_0 : decode cX11_fault 0 = .ok (.aload_n 0, 1) := by decide +kernel
theorem dX11_fault_1 : decode cX11_fault 1 = .ok (.iconst 0, 1) := by decide +kernel
theorem dX11_fault_2 : decode cX11_fault 2 = .ok (.putfield 85, 3) := by decide +kernel
theorem dX11_fault_5 : decode cX11_fault 5 = .ok (.aload_n 0, 1) := by decide +kernel
theorem dX11_fault_6 : decode cX11_fault 6 = .ok (.getfield 94, 3) := by decide +kernel
theorem dX11_fault_9 : decode cX11_fault 9 = .ok (.ireturn, 1) := by decide +kernel
theorem dX11_where_0 : decode cX11_where 0 = .ok (.aload_n 0, 1) := by decide +kernel
theorem dX11_where_1 : decode cX11_where 1 = .ok (.iconst 0, 1) := by decide +kernel
theorem dX11_where_2 : decode cX11_where 2 = .ok (.putfield 85, 3) := by decide +kernel
theorem dX11_where_5 : decode cX11_where 5 = .ok (.aload_n 0, 1) := by decide +kernel
theorem dX11_where_6 : decode cX11_where 6 = .ok (.getfield 9, 3) := by decide +kernel
theorem dX11_where_9 : decode cX11_where 9 = .ok (.ireturn, 1) := by decide +kernel
theorem dX11_wide_0 : decode cX11_wide 0 = .ok (.aload_n 0, 1) := by decide +kernel
theorem dX11_wide_1 : decode cX11_wide 1 = .ok (.getfield 38, 3) := by decide +kernel
theorem dX11_wide_4 : decode cX11_wide 4 = .ok (.sipush 194, 3) := by decide +kernel
theorem dX11_wide_7 : decode cX11_wide 7 = .ok (.iload_n 1, 1) := by decide +kernel
theorem dX11_wide_8 : decode cX11_wide 8 = .ok (.imul, 1) := by decide +kernel
theorem dX11_wide_9 : decode cX11_wide 9 = .ok (.iaload, 1) := by decide +kernel
theorem dX11_wide_10 : decode cX11_wide 10 = .ok (.ireturn, 1) := by decide +kernel
theorem dX11_high_0 : decode cX11_high 0 = .ok (.aload_n 0, 1) := by decide +kernel
theorem dX11_high_1 : decode cX11_high 1 = .ok (.getfield 38, 3) := by decide +kernel
theorem dX11_high_4 : decode cX11_high 4 = .ok (.sipush 194, 3) := by decide +kernel
theorem dX11_high_7 : decode cX11_high 7 = .ok (.iload_n 1, 1) := by decide +kernel
theorem dX11_high_8 : decode cX11_high 8 = .ok (.imul, 1) := by decide +kernel
theorem dX11_high_9 : decode cX11_high 9 = .ok (.iconst 1, 1) := by decide +kernel
theorem dX11_high_10 : decode cX11_high 10 = .ok (.iadd, 1) := by decide +kernel
theorem dX11_high_11 : decode cX11_high 11 = .ok (.iaload, 1) := by decide +kernel
theorem dX11_high_12 : decode cX11_high 12 = .ok (.ireturn, 1) := by decide +kernel
theorem dX11_dotOf_0 : decode cX11_dotOf 0 = .ok (.aload_n 0, 1) := by decide +kernel
theorem dX11_dotOf_1 : decode cX11_dotOf 1 = .ok (.getfield 38, 3) := by decide +kernel
theorem dX11_dotOf_4 : decode cX11_dotOf 4 = .ok (.sipush 194, 3) := by decide +kernel
theorem dX11_dotOf_7 : decode cX11_dotOf 7 = .ok (.iload_n 1, 1) := by decide +kernel
theorem dX11_dotOf_8 : decode cX11_dotOf 8 = .ok (.imul, 1) := by decide +kernel
theorem dX11_dotOf_9 : decode cX11_dotOf 9 = .ok (.iconst 2, 1) := by decide +kernel
theorem dX11_dotOf_10 : decode cX11_dotOf 10 = .ok (.iadd, 1) := by decide +kernel
theorem dX11_dotOf_11 : decode cX11_dotOf 11 = .ok (.bipush 16, 2) := by decide +kernel
theorem dX11_dotOf_13 : decode cX11_dotOf 13 = .ok (.iload_n 3, 1) := by decide +kernel
theorem dX11_dotOf_14 : decode cX11_dotOf 14 = .ok (.imul, 1) := by decide +kernel
theorem dX11_dotOf_15 : decode cX11_dotOf 15 = .ok (.iadd, 1) := by decide +kernel
theorem dX11_dotOf_16 : decode cX11_dotOf 16 = .ok (.iload_n 2, 1) := by decide +kernel
theorem dX11_dotOf_17 : decode cX11_dotOf 17 = .ok (.iadd, 1) := by decide +kernel
theorem dX11_dotOf_18 : decode cX11_dotOf 18 = .ok (.iaload, 1) := by decide +kernel
theorem dX11_dotOf_19 : decode cX11_dotOf 19 = .ok (.ireturn, 1) := by decide +kernel
theorem dX11_puts_0 : decode cX11_puts 0 = .ok (.aload_n 0, 1) := by decide +kernel
theorem dX11_puts_1 : decode cX11_puts 1 = .ok (.getfield 38, 3) := by decide +kernel
theorem dX11_puts_4 : decode cX11_puts 4 = .ok (.sipush 194, 3) := by decide +kernel
theorem dX11_puts_7 : decode cX11_puts 7 = .ok (.iload_n 1, 1) := by decide +kernel
theorem dX11_puts_8 : decode cX11_puts 8 = .ok (.imul, 1) := by decide +kernel
theorem dX11_puts_9 : decode cX11_puts 9 = .ok (.iconst 2, 1) := by decide +kernel
theorem dX11_puts_10 : decode cX11_puts 10 = .ok (.iadd, 1) := by decide +kernel
theorem dX11_puts_11 : decode cX11_puts 11 = .ok (.bipush 16, 2) := by decide +kernel
theorem dX11_puts_13 : decode cX11_puts 13 = .ok (.iload_n 3, 1) := by decide +kernel
theorem dX11_puts_14 : decode cX11_puts 14 = .ok (.imul, 1) := by decide +kernel
theorem dX11_puts_15 : decode cX11_puts 15 = .ok (.iadd, 1) := by decide +kernel
theorem dX11_puts_16 : decode cX11_puts 16 = .ok (.iload_n 2, 1) := by decide +kernel
theorem dX11_puts_17 : decode cX11_puts 17 = .ok (.iadd, 1) := by decide +kernel
theorem dX11_puts_18 : decode cX11_puts 18 = .ok (.iload 4, 2) := by decide +kernel
theorem dX11_puts_20 : decode cX11_puts 20 = .ok (.iastore, 1) := by decide +kernel
theorem dX11_puts_21 : decode cX11_puts 21 = .ok (.return_, 1) := by decide +kernel
theorem dX11_isPicture_0 : decode cX11_isPicture 0 = .ok (.iload_n 1, 1) := by decide +kernel
theorem dX11_isPicture_1 : decode cX11_isPicture 1 = .ok (.iconst 0, 1) := by decide +kernel
theorem dX11_isPicture_2 : decode cX11_isPicture 2 = .ok (.iconst 5, 1) := by decide +kernel
theorem dX11_isPicture_3 : decode cX11_isPicture 3 = .ok (.invokestatic 106, 3) := by decide +kernel
theorem dX11_isPicture_6 : decode cX11_isPicture 6 = .ok (.ifCond .eq 15, 3) := by decide +kernel
theorem dX11_isPicture_9 : decode cX11_isPicture 9 = .ok (.aload_n 0, 1) := by decide +kernel
theorem dX11_isPicture_10 : decode cX11_isPicture 10 = .ok (.iload_n 1, 1) := by decide +kernel
theorem dX11_isPicture_11 : decode cX11_isPicture 11 = .ok (.invokevirtual 170, 3) := by decide +kernel
theorem dX11_isPicture_14 : decode cX11_isPicture 14 = .ok (.ifCond .le 7, 3) := by decide +kernel
theorem dX11_isPicture_17 : decode cX11_isPicture 17 = .ok (.iconst 1, 1) := by decide +kernel
theorem dX11_isPicture_18 : decode cX11_isPicture 18 = .ok (.goto 4, 3) := by decide +kernel
theorem dX11_isPicture_21 : decode cX11_isPicture 21 = .ok (.iconst 0, 1) := by decide +kernel
theorem dX11_isPicture_22 : decode cX11_isPicture 22 = .ok (.ireturn, 1) := by decide +kernel
theorem dX11_isDot_0 : decode cX11_isDot 0 = .ok (.aload_n 0, 1) := by decide +kernel
theorem dX11_isDot_1 : decode cX11_isDot 1 = .ok (.iload_n 1, 1) := by decide +kernel
theorem dX11_isDot_2 : decode cX11_isDot 2 = .ok (.invokevirtual 173, 3) := by decide +kernel
theorem dX11_isDot_5 : decode cX11_isDot 5 = .ok (.ifCond .eq 37, 3) := by decide +kernel
theorem dX11_isDot_8 : decode cX11_isDot 8 = .ok (.iload_n 2, 1) := by decide +kernel
theorem dX11_isDot_9 : decode cX11_isDot 9 = .ok (.iconst 0, 1) := by decide +kernel
theorem dX11_isDot_10 : decode cX11_isDot 10 = .ok (.aload_n 0, 1) := by decide +kernel
theorem dX11_isDot_11 : decode cX11_isDot 11 = .ok (.iload_n 1, 1) := by decide +kernel
theorem dX11_isDot_12 : decode cX11_isDot 12 = .ok (.invokevirtual 170, 3) := by decide +kernel
theorem dX11_isDot_15 : decode cX11_isDot 15 = .ok (.iconst 1, 1) := by decide +kernel
theorem dX11_isDot_16 : decode cX11_isDot 16 = .ok (.isub, 1) := by decide +kernel
theorem dX11_isDot_17 : decode cX11_isDot 17 = .ok (.invokestatic 106, 3) := by decide +kernel
theorem dX11_isDot_20 : decode cX11_isDot 20 = .ok (.ifCond .eq 22, 3) := by decide +kernel
theorem dX11_isDot_23 : decode cX11_isDot 23 = .ok (.iload_n 3, 1) := by decide +kernel
theorem dX11_isDot_24 : decode cX11_isDot 24 = .ok (.iconst 0, 1) := by decide +kernel
theorem dX11_isDot_25 : decode cX11_isDot 25 = .ok (.aload_n 0, 1) := by decide +kernel
theorem dX11_isDot_26 : decode cX11_isDot 26 = .ok (.iload_n 1, 1) := by decide +kernel
theorem dX11_isDot_27 : decode cX11_isDot 27 = .ok (.invokevirtual 176, 3) := by decide +kernel
theorem dX11_isDot_30 : decode cX11_isDot 30 = .ok (.iconst 1, 1) := by decide +kernel
theorem dX11_isDot_31 : decode cX11_isDot 31 = .ok (.isub, 1) := by decide +kernel
theorem dX11_isDot_32 : decode cX11_isDot 32 = .ok (.invokestatic 106, 3) := by decide +kernel
theorem dX11_isDot_35 : decode cX11_isDot 35 = .ok (.ifCond .eq 7, 3) := by decide +kernel
theorem dX11_isDot_38 : decode cX11_isDot 38 = .ok (.iconst 1, 1) := by decide +kernel
theorem dX11_isDot_39 : decode cX11_isDot 39 = .ok (.goto 4, 3) := by decide +kernel
theorem dX11_isDot_42 : decode cX11_isDot 42 = .ok (.iconst 0, 1) := by decide +kernel
theorem dX11_isDot_43 : decode cX11_isDot 43 = .ok (.ireturn, 1) := by decide +kernel
theorem dX11_areAsWide_0 : decode cX11_areAsWide 0 = .ok (.aload_n 0, 1) := by decide +kernel
theorem dX11_areAsWide_1 : decode cX11_areAsWide 1 = .ok (.iload_n 1, 1) := by decide +kernel
theorem dX11_areAsWide_2 : decode cX11_areAsWide 2 = .ok (.invokevirtual 170, 3) := by decide +kernel
theorem dX11_areAsWide_5 : decode cX11_areAsWide 5 = .ok (.aload_n 0, 1) := by decide +kernel
theorem dX11_areAsWide_6 : decode cX11_areAsWide 6 = .ok (.iload_n 2, 1) := by decide +kernel
theorem dX11_areAsWide_7 : decode cX11_areAsWide 7 = .ok (.invokevirtual 170, 3) := by decide +kernel
theorem dX11_areAsWide_10 : decode cX11_areAsWide 10 = .ok (.if_icmp .ne 20, 3) := by decide +kernel
theorem dX11_areAsWide_13 : decode cX11_areAsWide 13 = .ok (.aload_n 0, 1) := by decide +kernel
theorem dX11_areAsWide_14 : decode cX11_areAsWide 14 = .ok (.iload_n 1, 1) := by decide +kernel
theorem dX11_areAsWide_15 : decode cX11_areAsWide 15 = .ok (.invokevirtual 176, 3) := by decide +kernel
theorem dX11_areAsWide_18 : decode cX11_areAsWide 18 = .ok (.aload_n 0, 1) := by decide +kernel
theorem dX11_areAsWide_19 : decode cX11_areAsWide 19 = .ok (.iload_n 2, 1) := by decide +kernel
theorem dX11_areAsWide_20 : decode cX11_areAsWide 20 = .ok (.invokevirtual 176, 3) := by decide +kernel
theorem dX11_areAsWide_23 : decode cX11_areAsWide 23 = .ok (.if_icmp .ne 7, 3) := by decide +kernel
theorem dX11_areAsWide_26 : decode cX11_areAsWide 26 = .ok (.iconst 1, 1) := by decide +kernel
theorem dX11_areAsWide_27 : decode cX11_areAsWide 27 = .ok (.goto 4, 3) := by decide +kernel
theorem dX11_areAsWide_30 : decode cX11_areAsWide 30 = .ok (.iconst 0, 1) := by decide +kernel
theorem dX11_areAsWide_31 : decode cX11_areAsWide 31 = .ok (.ireturn, 1) := by decide +kernel
theorem dX11_remembers_0 : decode cX11_remembers 0 = .ok (.aload_n 0, 1) := by decide +kernel
theorem dX11_remembers_1 : decode cX11_remembers 1 = .ok (.getfield 163, 3) := by decide +kernel
theorem dX11_remembers_4 : decode cX11_remembers 4 = .ok (.bipush 10, 2) := by decide +kernel
theorem dX11_remembers_6 : decode cX11_remembers 6 = .ok (.if_icmp .ne 52, 3) := by decide +kernel
theorem dX11_remembers_9 : decode cX11_remembers 9 = .ok (.aload_n 0, 1) := by decide +kernel
theorem dX11_remembers_10 : decode cX11_remembers 10 = .ok (.dup, 1) := by decide +kernel
theorem dX11_remembers_11 : decode cX11_remembers 11 = .ok (.getfield 163, 3) := by decide +kernel
theorem dX11_remembers_14 : decode cX11_remembers 14 = .ok (.iconst 1, 1) := by decide +kernel
theorem dX11_remembers_15 : decode cX11_remembers 15 = .ok (.isub, 1) := by decide +kernel
theorem dX11_remembers_16 : decode cX11_remembers 16 = .ok (.putfield 163, 3) := by decide +kernel
theorem dX11_remembers_19 : decode cX11_remembers 19 = .ok (.iconst 0, 1) := by decide +kernel
theorem dX11_remembers_20 : decode cX11_remembers 20 = .ok (.istore_n 1, 1) := by decide +kernel
theorem dX11_remembers_21 : decode cX11_remembers 21 = .ok (.iload_n 1, 1) := by decide +kernel
theorem dX11_remembers_22 : decode cX11_remembers 22 = .ok (.aload_n 0, 1) := by decide +kernel
theorem dX11_remembers_23 : decode cX11_remembers 23 = .ok (.getfield 163, 3) := by decide +kernel
theorem dX11_remembers_26 : decode cX11_remembers 26 = .ok (.bipush 6, 2) := by decide +kernel
theorem dX11_remembers_28 : decode cX11_remembers 28 = .ok (.imul, 1) := by decide +kernel
theorem dX11_remembers_29 : decode cX11_remembers 29 = .ok (.sipush 194, 3) := by decide +kernel
theorem dX11_remembers_32 : decode cX11_remembers 32 = .ok (.imul, 1) := by decide +kernel
theorem dX11_remembers_33 : decode cX11_remembers 33 = .ok (.if_icmp .ge 25, 3) := by decide +kernel
theorem dX11_remembers_36 : decode cX11_remembers 36 = .ok (.aload_n 0, 1) := by decide +kernel
theorem dX11_remembers_37 : decode cX11_remembers 37 = .ok (.getfield 41, 3) := by decide +kernel
theorem dX11_remembers_40 : decode cX11_remembers 40 = .ok (.iload_n 1, 1) := by decide +kernel
theorem dX11_remembers_41 : decode cX11_remembers 41 = .ok (.aload_n 0, 1) := by decide +kernel
theorem dX11_remembers_42 : decode cX11_remembers 42 = .ok (.getfield 41, 3) := by decide +kernel
theorem dX11_remembers_45 : decode cX11_remembers 45 = .ok (.iload_n 1, 1) := by decide +kernel
theorem dX11_remembers_46 : decode cX11_remembers 46 = .ok (.sipush 1164, 3) := by decide +kernel
theorem dX11_remembers_49 : decode cX11_remembers 49 = .ok (.iadd, 1) := by decide +kernel
theorem dX11_remembers_50 : decode cX11_remembers 50 = .ok (.iaload, 1) := by decide +kernel
theorem dX11_remembers_51 : decode cX11_remembers 51 = .ok (.iastore, 1) := by decide +kernel
theorem dX11_remembers_52 : decode cX11_remembers 52 = .ok (.iinc 1 1, 3) := by decide +kernel
theorem dX11_remembers_55 : decode cX11_remembers 55 = .ok (.goto (-34), 3) := by decide +kernel
theorem dX11_remembers_58 : decode cX11_remembers 58 = .ok (.iconst 0, 1) := by decide +kernel
theorem dX11_remembers_59 : decode cX11_remembers 59 = .ok (.istore_n 1, 1) := by decide +kernel
theorem dX11_remembers_60 : decode cX11_remembers 60 = .ok (.iload_n 1, 1) := by decide +kernel
theorem dX11_remembers_61 : decode cX11_remembers 61 = .ok (.sipush 1164, 3) := by decide +kernel
theorem dX11_remembers_64 : decode cX11_remembers 64 = .ok (.if_icmp .ge 33, 3) := by decide +kernel
theorem dX11_remembers_67 : decode cX11_remembers 67 = .ok (.aload_n 0, 1) := by decide +kernel
theorem dX11_remembers_68 : decode cX11_remembers 68 = .ok (.getfield 41, 3) := by decide +kernel
theorem dX11_remembers_71 : decode cX11_remembers 71 = .ok (.aload_n 0, 1) := by decide +kernel
theorem dX11_remembers_72 : decode cX11_remembers 72 = .ok (.getfield 163, 3) := by decide +kernel
theorem dX11_remembers_75 : decode cX11_remembers 75 = .ok (.bipush 6, 2) := by decide +kernel
theorem dX11_remembers_77 : decode cX11_remembers 77 = .ok (.imul, 1) := by decide +kernel
theorem dX11_remembers_78 : decode cX11_remembers 78 = .ok (.sipush 194, 3) := by decide +kernel
theorem dX11_remembers_81 : decode cX11_remembers 81 = .ok (.imul, 1) := by decide +kernel
theorem dX11_remembers_82 : decode cX11_remembers 82 = .ok (.iload_n 1, 1) := by decide +kernel
theorem dX11_remembers_83 : decode cX11_remembers 83 = .ok (.iadd, 1) := by decide +kernel
theorem dX11_remembers_84 : decode cX11_remembers 84 = .ok (.aload_n 0, 1) := by decide +kernel
theorem dX11_remembers_85 : decode cX11_remembers 85 = .ok (.getfield 38, 3) := by decide +kernel
theorem dX11_remembers_88 : decode cX11_remembers 88 = .ok (.iload_n 1, 1) := by decide +kernel
theorem dX11_remembers_89 : decode cX11_remembers 89 = .ok (.iaload, 1) := by decide +kernel
theorem dX11_remembers_90 : decode cX11_remembers 90 = .ok (.iastore, 1) := by decide +kernel
theorem dX11_remembers_91 : decode cX11_remembers 91 = .ok (.iinc 1 1, 3) := by decide +kernel
theorem dX11_remembers_94 : decode cX11_remembers 94 = .ok (.goto (-34), 3) := by decide +kernel
theorem dX11_remembers_97 : decode cX11_remembers 97 = .ok (.aload_n 0, 1) := by decide +kernel
theorem dX11_remembers_98 : decode cX11_remembers 98 = .ok (.dup, 1) := by decide +kernel
theorem dX11_remembers_99 : decode cX11_remembers 99 = .ok (.getfield 163, 3) := by decide +kernel
theorem dX11_remembers_102 : decode cX11_remembers 102 = .ok (.iconst 1, 1) := by decide +kernel
theorem dX11_remembers_103 : decode cX11_remembers 103 = .ok (.iadd, 1) := by decide +kernel
theorem dX11_remembers_104 : decode cX11_remembers 104 = .ok (.putfield 163, 3) := by decide +kernel
theorem dX11_remembers_107 : decode cX11_remembers 107 = .ok (.return_, 1) := by decide +kernel
theorem dX11_undo_0 : decode cX11_undo 0 = .ok (.aload_n 0, 1) := by decide +kernel
theorem dX11_undo_1 : decode cX11_undo 1 = .ok (.iconst 0, 1) := by decide +kernel
theorem dX11_undo_2 : decode cX11_undo 2 = .ok (.putfield 85, 3) := by decide +kernel
theorem dX11_undo_5 : decode cX11_undo 5 = .ok (.aload_n 0, 1) := by decide +kernel
theorem dX11_undo_6 : decode cX11_undo 6 = .ok (.getfield 163, 3) := by decide +kernel
theorem dX11_undo_9 : decode cX11_undo 9 = .ok (.ifCond .ne 9, 3) := by decide +kernel
theorem dX11_undo_12 : decode cX11_undo 12 = .ok (.aload_n 0, 1) := by decide +kernel
theorem dX11_undo_13 : decode cX11_undo 13 = .ok (.iconst 5, 1) := by decide +kernel
theorem dX11_undo_14 : decode cX11_undo 14 = .ok (.invokevirtual 147, 3) := by decide +kernel
theorem dX11_undo_17 : decode cX11_undo 17 = .ok (.ireturn, 1) := by decide +kernel
theorem dX11_undo_18 : decode cX11_undo 18 = .ok (.aload_n 0, 1) := by decide +kernel
theorem dX11_undo_19 : decode cX11_undo 19 = .ok (.dup, 1) := by decide +kernel
theorem dX11_undo_20 : decode cX11_undo 20 = .ok (.getfield 163, 3) := by decide +kernel
theorem dX11_undo_23 : decode cX11_undo 23 = .ok (.iconst 1, 1) := by decide +kernel
theorem dX11_undo_24 : decode cX11_undo 24 = .ok (.isub, 1) := by decide +kernel
theorem dX11_undo_25 : decode cX11_undo 25 = .ok (.putfield 163, 3) := by decide +kernel
theorem dX11_undo_28 : decode cX11_undo 28 = .ok (.iconst 0, 1) := by decide +kernel
theorem dX11_undo_29 : decode cX11_undo 29 = .ok (.istore_n 1, 1) := by decide +kernel
theorem dX11_undo_30 : decode cX11_undo 30 = .ok (.iload_n 1, 1) := by decide +kernel
theorem dX11_undo_31 : decode cX11_undo 31 = .ok (.sipush 1164, 3) := by decide +kernel
theorem dX11_undo_34 : decode cX11_undo 34 = .ok (.if_icmp .ge 33, 3) := by decide +kernel
theorem dX11_undo_37 : decode cX11_undo 37 = .ok (.aload_n 0, 1) := by decide +kernel
theorem dX11_undo_38 : decode cX11_undo 38 = .ok (.getfield 38, 3) := by decide +kernel
theorem dX11_undo_41 : decode cX11_undo 41 = .ok (.iload_n 1, 1) := by decide +kernel
theorem dX11_undo_42 : decode cX11_undo 42 = .ok (.aload_n 0, 1) := by decide +kernel
theorem dX11_undo_43 : decode cX11_undo 43 = .ok (.getfield 41, 3) := by decide +kernel
theorem dX11_undo_46 : decode cX11_undo 46 = .ok (.aload_n 0, 1) := by decide +kernel
theorem dX11_undo_47 : decode cX11_undo 47 = .ok (.getfield 163, 3) := by decide +kernel
theorem dX11_undo_50 : decode cX11_undo 50 = .ok (.bipush 6, 2) := by decide +kernel
theorem dX11_undo_52 : decode cX11_undo 52 = .ok (.imul, 1) := by decide +kernel
theorem dX11_undo_53 : decode cX11_undo 53 = .ok (.sipush 194, 3) := by decide +kernel
theorem dX11_undo_56 : decode cX11_undo 56 = .ok (.imul, 1) := by decide +kernel
theorem dX11_undo_57 : decode cX11_undo 57 = .ok (.iload_n 1, 1) := by decide +kernel
theorem dX11_undo_58 : decode cX11_undo 58 = .ok (.iadd, 1) := by decide +kernel
theorem dX11_undo_59 : decode cX11_undo 59 = .ok (.iaload, 1) := by decide +kernel
theorem dX11_undo_60 : decode cX11_undo 60 = .ok (.iastore, 1) := by decide +kernel
theorem dX11_undo_61 : decode cX11_undo 61 = .ok (.iinc 1 1, 3) := by decide +kernel
theorem dX11_undo_64 : decode cX11_undo 64 = .ok (.goto (-34), 3) := by decide +kernel
theorem dX11_undo_67 : decode cX11_undo 67 = .ok (.aload_n 0, 1) := by decide +kernel
theorem dX11_undo_68 : decode cX11_undo 68 = .ok (.aload_n 0, 1) := by decide +kernel
theorem dX11_undo_69 : decode cX11_undo 69 = .ok (.getfield 163, 3) := by decide +kernel
theorem dX11_undo_72 : decode cX11_undo 72 = .ok (.invokevirtual 157, 3) := by decide +kernel
theorem dX11_undo_75 : decode cX11_undo 75 = .ok (.ireturn, 1) := by decide +kernel
theorem dX11_begins_0 : decode cX11_begins 0 = .ok (.aload_n 0, 1) := by decide +kernel
theorem dX11_begins_1 : decode cX11_begins 1 = .ok (.getfield 38, 3) := by decide +kernel
theorem dX11_begins_4 : decode cX11_begins 4 = .ok (.sipush 1164, 3) := by decide +kernel
theorem dX11_begins_7 : decode cX11_begins 7 = .ok (.iload_n 1, 1) := by decide +kernel
theorem dX11_begins_8 : decode cX11_begins 8 = .ok (.iastore, 1) := by decide +kernel
theorem dX11_begins_9 : decode cX11_begins 9 = .ok (.aload_n 0, 1) := by decide +kernel
theorem dX11_begins_10 : decode cX11_begins 10 = .ok (.getfield 38, 3) := by decide +kernel
theorem dX11_begins_13 : decode cX11_begins 13 = .ok (.sipush 1165, 3) := by decide +kernel
theorem dX11_begins_16 : decode cX11_begins 16 = .ok (.iload_n 2, 1) := by decide +kernel
theorem dX11_begins_17 : decode cX11_begins 17 = .ok (.iastore, 1) := by decide +kernel
theorem dX11_begins_18 : decode cX11_begins 18 = .ok (.return_, 1) := by decide +kernel
theorem dX11_becomes_0 : decode cX11_becomes 0 = .ok (.aload_n 0, 1) := by decide +kernel
theorem dX11_becomes_1 : decode cX11_becomes 1 = .ok (.invokevirtual 179, 3) := by decide +kernel
theorem dX11_becomes_4 : decode cX11_becomes 4 = .ok (.iconst 0, 1) := by decide +kernel
theorem dX11_becomes_5 : decode cX11_becomes 5 = .ok (.istore_n 2, 1) := by decide +kernel
theorem dX11_becomes_6 : decode cX11_becomes 6 = .ok (.iload_n 2, 1) := by decide +kernel
theorem dX11_becomes_7 : decode cX11_becomes 7 = .ok (.sipush 194, 3) := by decide +kernel
theorem dX11_becomes_10 : decode cX11_becomes 10 = .ok (.if_icmp .ge 31, 3) := by decide +kernel
theorem dX11_becomes_13 : decode cX11_becomes 13 = .ok (.aload_n 0, 1) := by decide +kernel
theorem dX11_becomes_14 : decode cX11_becomes 14 = .ok (.getfield 38, 3) := by decide +kernel
theorem dX11_becomes_17 : decode cX11_becomes 17 = .ok (.sipush 194, 3) := by decide +kernel
theorem dX11_becomes_20 : decode cX11_becomes 20 = .ok (.iload_n 1, 1) := by decide +kernel
theorem dX11_becomes_21 : decode cX11_becomes 21 = .ok (.imul, 1) := by decide +kernel
theorem dX11_becomes_22 : decode cX11_becomes 22 = .ok (.iload_n 2, 1) := by decide +kernel
theorem dX11_becomes_23 : decode cX11_becomes 23 = .ok (.iadd, 1) := by decide +kernel
theorem dX11_becomes_24 : decode cX11_becomes 24 = .ok (.aload_n 0, 1) := by decide +kernel
theorem dX11_becomes_25 : decode cX11_becomes 25 = .ok (.getfield 38, 3) := by decide +kernel
theorem dX11_becomes_28 : decode cX11_becomes 28 = .ok (.sipush 1164, 3) := by decide +kernel
theorem dX11_becomes_31 : decode cX11_becomes 31 = .ok (.iload_n 2, 1) := by decide +kernel
theorem dX11_becomes_32 : decode cX11_becomes 32 = .ok (.iadd, 1) := by decide +kernel
theorem dX11_becomes_33 : decode cX11_becomes 33 = .ok (.iaload, 1) := by decide +kernel
theorem dX11_becomes_34 : decode cX11_becomes 34 = .ok (.iastore, 1) := by decide +kernel
theorem dX11_becomes_35 : decode cX11_becomes 35 = .ok (.iinc 2 1, 3) := by decide +kernel
theorem dX11_becomes_38 : decode cX11_becomes 38 = .ok (.goto (-32), 3) := by decide +kernel
theorem dX11_becomes_41 : decode cX11_becomes 41 = .ok (.return_, 1) := by decide +kernel
theorem dX11_others_0 : decode cX11_others 0 = .ok (.iconst 0, 1) := by decide +kernel
theorem dX11_others_1 : decode cX11_others 1 = .ok (.istore_n 2, 1) := by decide +kernel
theorem dX11_others_2 : decode cX11_others 2 = .ok (.iconst 0, 1) := by decide +kernel
theorem dX11_others_3 : decode cX11_others 3 = .ok (.istore_n 3, 1) := by decide +kernel
theorem dX11_others_4 : decode cX11_others 4 = .ok (.iload_n 3, 1) := by decide +kernel
theorem dX11_others_5 : decode cX11_others 5 = .ok (.aload_n 0, 1) := by decide +kernel
theorem dX11_others_6 : decode cX11_others 6 = .ok (.iload_n 1, 1) := by decide +kernel
theorem dX11_others_7 : decode cX11_others 7 = .ok (.invokevirtual 176, 3) := by decide +kernel
theorem dX11_others_10 : decode cX11_others 10 = .ok (.if_icmp .ge 56, 3) := by decide +kernel
theorem dX11_others_13 : decode cX11_others 13 = .ok (.iconst 0, 1) := by decide +kernel
theorem dX11_others_14 : decode cX11_others 14 = .ok (.istore 4, 2) := by decide +kernel
theorem dX11_others_16 : decode cX11_others 16 = .ok (.iload 4, 2) := by decide +kernel
theorem dX11_others_18 : decode cX11_others 18 = .ok (.aload_n 0, 1) := by decide +kernel
theorem dX11_others_19 : decode cX11_others 19 = .ok (.iload_n 1, 1) := by decide +kernel
theorem dX11_others_20 : decode cX11_others 20 = .ok (.invokevirtual 170, 3) := by decide +kernel
theorem dX11_others_23 : decode cX11_others 23 = .ok (.if_icmp .ge 37, 3) := by decide +kernel
theorem dX11_others_26 : decode cX11_others 26 = .ok (.iload_n 2, 1) := by decide +kernel
theorem dX11_others_27 : decode cX11_others 27 = .ok (.aload_n 0, 1) := by decide +kernel
theorem dX11_others_28 : decode cX11_others 28 = .ok (.bipush 6, 2) := by decide +kernel
theorem dX11_others_30 : decode cX11_others 30 = .ok (.iload 4, 2) := by decide +kernel
theorem dX11_others_32 : decode cX11_others 32 = .ok (.iload_n 3, 1) := by decide +kernel
theorem dX11_others_33 : decode cX11_others 33 = .ok (.invokevirtual 182, 3) := by decide +kernel
theorem dX11_others_36 : decode cX11_others 36 = .ok (.aload_n 0, 1) := by decide +kernel
theorem dX11_others_37 : decode cX11_others 37 = .ok (.iload_n 1, 1) := by decide +kernel
theorem dX11_others_38 : decode cX11_others 38 = .ok (.iload 4, 2) := by decide +kernel
theorem dX11_others_40 : decode cX11_others 40 = .ok (.iload_n 3, 1) := by decide +kernel
theorem dX11_others_41 : decode cX11_others 41 = .ok (.invokevirtual 182, 3) := by decide +kernel
theorem dX11_others_44 : decode cX11_others 44 = .ok (.if_icmp .ne 7, 3) := by decide +kernel
theorem dX11_others_47 : decode cX11_others 47 = .ok (.iconst 0, 1) := by decide +kernel
theorem dX11_others_48 : decode cX11_others 48 = .ok (.goto 4, 3) := by decide +kernel
theorem dX11_others_51 : decode cX11_others 51 = .ok (.iconst 1, 1) := by decide +kernel
theorem dX11_others_52 : decode cX11_others 52 = .ok (.iadd, 1) := by decide +kernel
theorem dX11_others_53 : decode cX11_others 53 = .ok (.istore_n 2, 1) := by decide +kernel
theorem dX11_others_54 : decode cX11_others 54 = .ok (.iinc 4 1, 3) := by decide +kernel
theorem dX11_others_57 : decode cX11_others 57 = .ok (.goto (-41), 3) := by decide +kernel
theorem dX11_others_60 : decode cX11_others 60 = .ok (.iinc 3 1, 3) := by decide +kernel
theorem dX11_others_63 : decode cX11_others 63 = .ok (.goto (-59), 3) := by decide +kernel
theorem dX11_others_66 : decode cX11_others 66 = .ok (.iload_n 2, 1) := by decide +kernel
theorem dX11_others_67 : decode cX11_others 67 = .ok (.ireturn, 1) := by decide +kernel
theorem dX11_manyOf_0 : decode cX11_manyOf 0 = .ok (.iconst 0, 1) := by decide +kernel
theorem dX11_manyOf_1 : decode cX11_manyOf 1 = .ok (.istore_n 3, 1) := by decide +kernel
theorem dX11_manyOf_2 : decode cX11_manyOf 2 = .ok (.iconst 0, 1) := by decide +kernel
theorem dX11_manyOf_3 : decode cX11_manyOf 3 = .ok (.istore 4, 2) := by decide +kernel
theorem dX11_manyOf_5 : decode cX11_manyOf 5 = .ok (.iload 4, 2) := by decide +kernel
theorem dX11_manyOf_7 : decode cX11_manyOf 7 = .ok (.aload_n 0, 1) := by decide +kernel
theorem dX11_manyOf_8 : decode cX11_manyOf 8 = .ok (.iload_n 1, 1) := by decide +kernel
theorem dX11_manyOf_9 : decode cX11_manyOf 9 = .ok (.invokevirtual 176, 3) := by decide +kernel
theorem dX11_manyOf_12 : decode cX11_manyOf 12 = .ok (.if_icmp .ge 49, 3) := by decide +kernel
theorem dX11_manyOf_15 : decode cX11_manyOf 15 = .ok (.iconst 0, 1) := by decide +kernel
theorem dX11_manyOf_16 : decode cX11_manyOf 16 = .ok (.istore 5, 2) := by decide +kernel
theorem dX11_manyOf_18 : decode cX11_manyOf 18 = .ok (.iload 5, 2) := by decide +kernel
theorem dX11_manyOf_20 : decode cX11_manyOf 20 = .ok (.aload_n 0, 1) := by decide +kernel
theorem dX11_manyOf_21 : decode cX11_manyOf 21 = .ok (.iload_n 1, 1) := by decide +kernel
theorem dX11_manyOf_22 : decode cX11_manyOf 22 = .ok (.invokevirtual 170, 3) := by decide +kernel
theorem dX11_manyOf_25 : decode cX11_manyOf 25 = .ok (.if_icmp .ge 30, 3) := by decide +kernel
theorem dX11_manyOf_28 : decode cX11_manyOf 28 = .ok (.iload_n 3, 1) := by decide +kernel
theorem dX11_manyOf_29 : decode cX11_manyOf 29 = .ok (.aload_n 0, 1) := by decide +kernel
theorem dX11_manyOf_30 : decode cX11_manyOf 30 = .ok (.iload_n 1, 1) := by decide +kernel
theorem dX11_manyOf_31 : decode cX11_manyOf 31 = .ok (.iload 5, 2) := by decide +kernel
theorem dX11_manyOf_33 : decode cX11_manyOf 33 = .ok (.iload 4, 2) := by decide +kernel
theorem dX11_manyOf_35 : decode cX11_manyOf 35 = .ok (.invokevirtual 182, 3) := by decide +kernel
theorem dX11_manyOf_38 : decode cX11_manyOf 38 = .ok (.iload_n 2, 1) := by decide +kernel
theorem dX11_manyOf_39 : decode cX11_manyOf 39 = .ok (.if_icmp .ne 7, 3) := by decide +kernel
theorem dX11_manyOf_42 : decode cX11_manyOf 42 = .ok (.iconst 1, 1) := by decide +kernel
theorem dX11_manyOf_43 : decode cX11_manyOf 43 = .ok (.goto 4, 3) := by decide +kernel
theorem dX11_manyOf_46 : decode cX11_manyOf 46 = .ok (.iconst 0, 1) := by decide +kernel
theorem dX11_manyOf_47 : decode cX11_manyOf 47 = .ok (.iadd, 1) := by decide +kernel
theorem dX11_manyOf_48 : decode cX11_manyOf 48 = .ok (.istore_n 3, 1) := by decide +kernel
theorem dX11_manyOf_49 : decode cX11_manyOf 49 = .ok (.iinc 5 1, 3) := by decide +kernel
theorem dX11_manyOf_52 : decode cX11_manyOf 52 = .ok (.goto (-34), 3) := by decide +kernel
theorem dX11_manyOf_55 : decode cX11_manyOf 55 = .ok (.iinc 4 1, 3) := by decide +kernel
theorem dX11_manyOf_58 : decode cX11_manyOf 58 = .ok (.goto (-53), 3) := by decide +kernel
theorem dX11_manyOf_61 : decode cX11_manyOf 61 = .ok (.iload_n 3, 1) := by decide +kernel
theorem dX11_manyOf_62 : decode cX11_manyOf 62 = .ok (.ireturn, 1) := by decide +kernel
theorem dX11_about_0 : decode cX11_about 0 = .ok (.aload_n 0, 1) := by decide +kernel
theorem dX11_about_1 : decode cX11_about 1 = .ok (.iconst 0, 1) := by decide +kernel
theorem dX11_about_2 : decode cX11_about 2 = .ok (.putfield 85, 3) := by decide +kernel
theorem dX11_about_5 : decode cX11_about 5 = .ok (.aload_n 0, 1) := by decide +kernel
theorem dX11_about_6 : decode cX11_about 6 = .ok (.iload_n 1, 1) := by decide +kernel
theorem dX11_about_7 : decode cX11_about 7 = .ok (.invokevirtual 173, 3) := by decide +kernel
theorem dX11_about_10 : decode cX11_about 10 = .ok (.ifCond .eq 12, 3) := by decide +kernel
theorem dX11_about_13 : decode cX11_about 13 = .ok (.iload_n 2, 1) := by decide +kernel
theorem dX11_about_14 : decode cX11_about 14 = .ok (.iconst 0, 1) := by decide +kernel
theorem dX11_about_15 : decode cX11_about 15 = .ok (.iconst 5, 1) := by decide +kernel
theorem dX11_about_16 : decode cX11_about 16 = .ok (.invokestatic 106, 3) := by decide +kernel
theorem dX11_about_19 : decode cX11_about 19 = .ok (.ifCond .ne 9, 3) := by decide +kernel
theorem dX11_about_22 : decode cX11_about 22 = .ok (.aload_n 0, 1) := by decide +kernel
theorem dX11_about_23 : decode cX11_about 23 = .ok (.iconst 1, 1) := by decide +kernel
theorem dX11_about_24 : decode cX11_about 24 = .ok (.invokevirtual 147, 3) := by decide +kernel
theorem dX11_about_27 : decode cX11_about 27 = .ok (.ireturn, 1) := by decide +kernel
theorem dX11_about_28 : decode cX11_about 28 = .ok (.iload_n 2, 1) := by decide +kernel
theorem dX11_about_29 : decode cX11_about 29 = .ok (.iconst 2, 1) := by decide +kernel
theorem dX11_about_30 : decode cX11_about 30 = .ok (.if_icmp .ge 25, 3) := by decide +kernel
theorem dX11_about_33 : decode cX11_about 33 = .ok (.aload_n 0, 1) := by decide +kernel
theorem dX11_about_34 : decode cX11_about 34 = .ok (.iload_n 2, 1) := by decide +kernel
theorem dX11_about_35 : decode cX11_about 35 = .ok (.ifCond .ne 11, 3) := by decide +kernel
theorem dX11_about_38 : decode cX11_about 38 = .ok (.aload_n 0, 1) := by decide +kernel
theorem dX11_about_39 : decode cX11_about 39 = .ok (.iload_n 1, 1) := by decide +kernel
theorem dX11_about_40 : decode cX11_about 40 = .ok (.invokevirtual 170, 3) := by decide +kernel
theorem dX11_about_43 : decode cX11_about 43 = .ok (.goto 8, 3) := by decide +kernel
theorem dX11_about_46 : decode cX11_about 46 = .ok (.aload_n 0, 1) := by decide +kernel
theorem dX11_about_47 : decode cX11_about 47 = .ok (.iload_n 1, 1) := by decide +kernel
theorem dX11_about_48 : decode cX11_about 48 = .ok (.invokevirtual 176, 3) := by decide +kernel
theorem dX11_about_51 : decode cX11_about 51 = .ok (.invokevirtual 157, 3) := by decide +kernel
theorem dX11_about_54 : decode cX11_about 54 = .ok (.ireturn, 1) := by decide +kernel
theorem dX11_about_55 : decode cX11_about 55 = .ok (.sipush 255, 3) := by decide +kernel
theorem dX11_about_58 : decode cX11_about 58 = .ok (.istore_n 3, 1) := by decide +kernel
theorem dX11_about_59 : decode cX11_about 59 = .ok (.iconst 0, 1) := by decide +kernel
theorem dX11_about_60 : decode cX11_about 60 = .ok (.istore 4, 2) := by decide +kernel
theorem dX11_about_62 : decode cX11_about 62 = .ok (.iconst 0, 1) := by decide +kernel
theorem dX11_about_63 : decode cX11_about 63 = .ok (.istore 5, 2) := by decide +kernel
theorem dX11_about_65 : decode cX11_about 65 = .ok (.iconst 0, 1) := by decide +kernel
theorem dX11_about_66 : decode cX11_about 66 = .ok (.istore 6, 2) := by decide +kernel
theorem dX11_about_68 : decode cX11_about 68 = .ok (.iconst 0, 1) := by decide +kernel
theorem dX11_about_69 : decode cX11_about 69 = .ok (.istore 7, 2) := by decide +kernel
theorem dX11_about_71 : decode cX11_about 71 = .ok (.iload 7, 2) := by decide +kernel
theorem dX11_about_73 : decode cX11_about 73 = .ok (.sipush 255, 3) := by decide +kernel
theorem dX11_about_76 : decode cX11_about 76 = .ok (.if_icmp .gt 56, 3) := by decide +kernel
theorem dX11_about_79 : decode cX11_about 79 = .ok (.aload_n 0, 1) := by decide +kernel
theorem dX11_about_80 : decode cX11_about 80 = .ok (.iload_n 1, 1) := by decide +kernel
theorem dX11_about_81 : decode cX11_about 81 = .ok (.iload 7, 2) := by decide +kernel
theorem dX11_about_83 : decode cX11_about 83 = .ok (.invokevirtual 186, 3) := by decide +kernel
theorem dX11_about_86 : decode cX11_about 86 = .ok (.istore 8, 2) := by decide +kernel
theorem dX11_about_88 : decode cX11_about 88 = .ok (.iload 8, 2) := by decide +kernel
theorem dX11_about_90 : decode cX11_about 90 = .ok (.ifCond .ne 6, 3) := by decide +kernel
theorem dX11_about_93 : decode cX11_about 93 = .ok (.goto 33, 3) := by decide +kernel
theorem dX11_about_96 : decode cX11_about 96 = .ok (.iload 7, 2) := by decide +kernel
theorem dX11_about_98 : decode cX11_about 98 = .ok (.iload_n 3, 1) := by decide +kernel
theorem dX11_about_99 : decode cX11_about 99 = .ok (.if_icmp .ge 8, 3) := by decide +kernel
theorem dX11_about_102 : decode cX11_about 102 = .ok (.iload 7, 2) := by decide +kernel
theorem dX11_about_104 : decode cX11_about 104 = .ok (.goto 4, 3) := by decide +kernel
theorem dX11_about_107 : decode cX11_about 107 = .ok (.iload_n 3, 1) := by decide +kernel
theorem dX11_about_108 : decode cX11_about 108 = .ok (.istore_n 3, 1) := by decide +kernel
theorem dX11_about_109 : decode cX11_about 109 = .ok (.iload 7, 2) := by decide +kernel
theorem dX11_about_111 : decode cX11_about 111 = .ok (.istore 4, 2) := by decide +kernel
theorem dX11_about_113 : decode cX11_about 113 = .ok (.iload 5, 2) := by decide +kernel
theorem dX11_about_115 : decode cX11_about 115 = .ok (.iload 8, 2) := by decide +kernel
theorem dX11_about_117 : decode cX11_about 117 = .ok (.iload 7, 2) := by decide +kernel
theorem dX11_about_119 : decode cX11_about 119 = .ok (.imul, 1) := by decide +kernel
theorem dX11_about_120 : decode cX11_about 120 = .ok (.iadd, 1) := by decide +kernel
theorem dX11_about_121 : decode cX11_about 121 = .ok (.istore 5, 2) := by decide +kernel
theorem dX11_about_123 : decode cX11_about 123 = .ok (.iinc 6 1, 3) := by decide +kernel
theorem dX11_about_126 : decode cX11_about 126 = .ok (.iinc 7 1, 3) := by decide +kernel
theorem dX11_about_129 : decode cX11_about 129 = .ok (.goto (-58), 3) := by decide +kernel
theorem dX11_about_132 : decode cX11_about 132 = .ok (.aload_n 0, 1) := by decide +kernel
theorem dX11_about_133 : decode cX11_about 133 = .ok (.iload_n 2, 1) := by decide +kernel
theorem dX11_about_134 : decode cX11_about 134 = .ok (.iconst 2, 1) := by decide +kernel
theorem dX11_about_135 : decode cX11_about 135 = .ok (.if_icmp .ne 7, 3) := by decide +kernel
theorem dX11_about_138 : decode cX11_about 138 = .ok (.iload_n 3, 1) := by decide +kernel
theorem dX11_about_139 : decode cX11_about 139 = .ok (.goto 25, 3) := by decide +kernel
theorem dX11_about_142 : decode cX11_about 142 = .ok (.iload_n 2, 1) := by decide +kernel
theorem dX11_about_143 : decode cX11_about 143 = .ok (.iconst 3, 1) := by decide +kernel
theorem dX11_about_144 : decode cX11_about 144 = .ok (.if_icmp .ne 8, 3) := by decide +kernel
theorem dX11_about_147 : decode cX11_about 147 = .ok (.iload 4, 2) := by decide +kernel
theorem dX11_about_149 : decode cX11_about 149 = .ok (.goto 15, 3) := by decide +kernel
theorem dX11_about_152 : decode cX11_about 152 = .ok (.iload_n 2, 1) := by decide +kernel
theorem dX11_about_153 : decode cX11_about 153 = .ok (.iconst 4, 1) := by decide +kernel
theorem dX11_about_154 : decode cX11_about 154 = .ok (.if_icmp .ne 8, 3) := by decide +kernel
theorem dX11_about_157 : decode cX11_about 157 = .ok (.iload 5, 2) := by decide +kernel
theorem dX11_about_159 : decode cX11_about 159 = .ok (.goto 5, 3) := by decide +kernel
theorem dX11_about_162 : decode cX11_about 162 = .ok (.iload 6, 2) := by decide +kernel
theorem dX11_about_164 : decode cX11_about 164 = .ok (.invokevirtual 157, 3) := by decide +kernel
theorem dX11_about_167 : decode cX11_about 167 = .ok (.ireturn, 1) := by decide +kernel
theorem dX11_dot_0 : decode cX11_dot 0 = .ok (.aload_n 0, 1) := by decide +kernel
theorem dX11_dot_1 : decode cX11_dot 1 = .ok (.iconst 0, 1) := by decide +kernel
theorem dX11_dot_2 : decode cX11_dot 2 = .ok (.putfield 85, 3) := by decide +kernel
theorem dX11_dot_5 : decode cX11_dot 5 = .ok (.aload_n 0, 1) := by decide +kernel
theorem dX11_dot_6 : decode cX11_dot 6 = .ok (.iload_n 1, 1) := by decide +kernel
theorem dX11_dot_7 : decode cX11_dot 7 = .ok (.iload_n 2, 1) := by decide +kernel
theorem dX11_dot_8 : decode cX11_dot 8 = .ok (.iload_n 3, 1) := by decide +kernel
theorem dX11_dot_9 : decode cX11_dot 9 = .ok (.invokevirtual 190, 3) := by decide +kernel
theorem dX11_dot_12 : decode cX11_dot 12 = .ok (.ifCond .eq 17, 3) := by decide +kernel
theorem dX11_dot_15 : decode cX11_dot 15 = .ok (.aload_n 0, 1) := by decide +kernel
theorem dX11_dot_16 : decode cX11_dot 16 = .ok (.aload_n 0, 1) := by decide +kernel
theorem dX11_dot_17 : decode cX11_dot 17 = .ok (.iload_n 1, 1) := by decide +kernel
theorem dX11_dot_18 : decode cX11_dot 18 = .ok (.iload_n 2, 1) := by decide +kernel
theorem dX11_dot_19 : decode cX11_dot 19 = .ok (.iload_n 3, 1) := by decide +kernel
theorem dX11_dot_20 : decode cX11_dot 20 = .ok (.invokevirtual 182, 3) := by decide +kernel
theorem dX11_dot_23 : decode cX11_dot 23 = .ok (.invokevirtual 157, 3) := by decide +kernel
theorem dX11_dot_26 : decode cX11_dot 26 = .ok (.goto 8, 3) := by decide +kernel
theorem dX11_dot_29 : decode cX11_dot 29 = .ok (.aload_n 0, 1) := by decide +kernel
theorem dX11_dot_30 : decode cX11_dot 30 = .ok (.iconst 1, 1) := by decide +kernel
theorem dX11_dot_31 : decode cX11_dot 31 = .ok (.invokevirtual 147, 3) := by decide +kernel
theorem dX11_dot_34 : decode cX11_dot 34 = .ok (.ireturn, 1) := by decide +kernel
theorem dX11_often_0 : decode cX11_often 0 = .ok (.aload_n 0, 1) := by decide +kernel
theorem dX11_often_1 : decode cX11_often 1 = .ok (.iconst 0, 1) := by decide +kernel
theorem dX11_often_2 : decode cX11_often 2 = .ok (.putfield 85, 3) := by decide +kernel
theorem dX11_often_5 : decode cX11_often 5 = .ok (.aload_n 0, 1) := by decide +kernel
theorem dX11_often_6 : decode cX11_often 6 = .ok (.iload_n 1, 1) := by decide +kernel
theorem dX11_often_7 : decode cX11_often 7 = .ok (.invokevirtual 173, 3) := by decide +kernel
theorem dX11_often_10 : decode cX11_often 10 = .ok (.ifCond .ne 9, 3) := by decide +kernel
theorem dX11_often_13 : decode cX11_often 13 = .ok (.aload_n 0, 1) := by decide +kernel
theorem dX11_often_14 : decode cX11_often 14 = .ok (.iconst 1, 1) := by decide +kernel
theorem dX11_often_15 : decode cX11_often 15 = .ok (.invokevirtual 147, 3) := by decide +kernel
theorem dX11_often_18 : decode cX11_often 18 = .ok (.ireturn, 1) := by decide +kernel
theorem dX11_often_19 : decode cX11_often 19 = .ok (.iload_n 2, 1) := by decide +kernel
theorem dX11_often_20 : decode cX11_often 20 = .ok (.iconst 0, 1) := by decide +kernel
theorem dX11_often_21 : decode cX11_often 21 = .ok (.sipush 255, 3) := by decide +kernel
theorem dX11_often_24 : decode cX11_often 24 = .ok (.invokestatic 106, 3) := by decide +kernel
theorem dX11_often_27 : decode cX11_often 27 = .ok (.ifCond .eq 16, 3) := by decide +kernel
theorem dX11_often_30 : decode cX11_often 30 = .ok (.aload_n 0, 1) := by decide +kernel
theorem dX11_often_31 : decode cX11_often 31 = .ok (.aload_n 0, 1) := by decide +kernel
theorem dX11_often_32 : decode cX11_often 32 = .ok (.iload_n 1, 1) := by decide +kernel
theorem dX11_often_33 : decode cX11_often 33 = .ok (.iload_n 2, 1) := by decide +kernel
theorem dX11_often_34 : decode cX11_often 34 = .ok (.invokevirtual 186, 3) := by decide +kernel
theorem dX11_often_37 : decode cX11_often 37 = .ok (.invokevirtual 157, 3) := by decide +kernel
theorem dX11_often_40 : decode cX11_often 40 = .ok (.goto 8, 3) := by decide +kernel
theorem dX11_often_43 : decode cX11_often 43 = .ok (.aload_n 0, 1) := by decide +kernel
theorem dX11_often_44 : decode cX11_often 44 = .ok (.iconst 2, 1) := by decide +kernel
theorem dX11_often_45 : decode cX11_often 45 = .ok (.invokevirtual 147, 3) := by decide +kernel
theorem dX11_often_48 : decode cX11_often 48 = .ok (.ireturn, 1) := by decide +kernel
theorem dX11_set_0 : decode cX11_set 0 = .ok (.aload_n 0, 1) := by decide +kernel
theorem dX11_set_1 : decode cX11_set 1 = .ok (.iconst 0, 1) := by decide +kernel
theorem dX11_set_2 : decode cX11_set 2 = .ok (.putfield 85, 3) := by decide +kernel
theorem dX11_set_5 : decode cX11_set 5 = .ok (.aload_n 0, 1) := by decide +kernel
theorem dX11_set_6 : decode cX11_set 6 = .ok (.iload_n 1, 1) := by decide +kernel
theorem dX11_set_7 : decode cX11_set 7 = .ok (.iload_n 2, 1) := by decide +kernel
theorem dX11_set_8 : decode cX11_set 8 = .ok (.iload_n 3, 1) := by decide +kernel
theorem dX11_set_9 : decode cX11_set 9 = .ok (.invokevirtual 190, 3) := by decide +kernel
theorem dX11_set_12 : decode cX11_set 12 = .ok (.ifCond .ne 9, 3) := by decide +kernel
theorem dX11_set_15 : decode cX11_set 15 = .ok (.aload_n 0, 1) := by decide +kernel
theorem dX11_set_16 : decode cX11_set 16 = .ok (.iconst 1, 1) := by decide +kernel
theorem dX11_set_17 : decode cX11_set 17 = .ok (.invokevirtual 147, 3) := by decide +kernel
theorem dX11_set_20 : decode cX11_set 20 = .ok (.ireturn, 1) := by decide +kernel
theorem dX11_set_21 : decode cX11_set 21 = .ok (.iload 4, 2) := by decide +kernel
theorem dX11_set_23 : decode cX11_set 23 = .ok (.iconst 0, 1) := by decide +kernel
theorem dX11_set_24 : decode cX11_set 24 = .ok (.sipush 255, 3) := by decide +kernel
theorem dX11_set_27 : decode cX11_set 27 = .ok (.invokestatic 106, 3) := by decide +kernel
theorem dX11_set_30 : decode cX11_set 30 = .ok (.ifCond .ne 9, 3) := by decide +kernel
theorem dX11_set_33 : decode cX11_set 33 = .ok (.aload_n 0, 1) := by decide +kernel
theorem dX11_set_34 : decode cX11_set 34 = .ok (.iconst 2, 1) := by decide +kernel
theorem dX11_set_35 : decode cX11_set 35 = .ok (.invokevirtual 147, 3) := by decide +kernel
theorem dX11_set_38 : decode cX11_set 38 = .ok (.ireturn, 1) := by decide +kernel
theorem dX11_set_39 : decode cX11_set 39 = .ok (.aload_n 0, 1) := by decide +kernel
theorem dX11_set_40 : decode cX11_set 40 = .ok (.invokevirtual 179, 3) := by decide +kernel
theorem dX11_set_43 : decode cX11_set 43 = .ok (.aload_n 0, 1) := by decide +kernel
theorem dX11_set_44 : decode cX11_set 44 = .ok (.iload_n 1, 1) := by decide +kernel
theorem dX11_set_45 : decode cX11_set 45 = .ok (.iload_n 2, 1) := by decide +kernel
theorem dX11_set_46 : decode cX11_set 46 = .ok (.iload_n 3, 1) := by decide +kernel
theorem dX11_set_47 : decode cX11_set 47 = .ok (.invokevirtual 182, 3) := by decide +kernel
theorem dX11_set_50 : decode cX11_set 50 = .ok (.istore 5, 2) := by decide +kernel
theorem dX11_set_52 : decode cX11_set 52 = .ok (.aload_n 0, 1) := by decide +kernel
theorem dX11_set_53 : decode cX11_set 53 = .ok (.iload_n 1, 1) := by decide +kernel
theorem dX11_set_54 : decode cX11_set 54 = .ok (.iload_n 2, 1) := by decide +kernel
theorem dX11_set_55 : decode cX11_set 55 = .ok (.iload_n 3, 1) := by decide +kernel
theorem dX11_set_56 : decode cX11_set 56 = .ok (.iload 4, 2) := by decide +kernel
theorem dX11_set_58 : decode cX11_set 58 = .ok (.invokevirtual 193, 3) := by decide +kernel
theorem dX11_set_61 : decode cX11_set 61 = .ok (.aload_n 0, 1) := by decide +kernel
theorem dX11_set_62 : decode cX11_set 62 = .ok (.iload 5, 2) := by decide +kernel
theorem dX11_set_64 : decode cX11_set 64 = .ok (.invokevirtual 157, 3) := by decide +kernel
theorem dX11_set_67 : decode cX11_set 67 = .ok (.ireturn, 1) := by decide +kernel
theorem dX11_fill_0 : decode cX11_fill 0 = .ok (.aload_n 0, 1) := by decide +kernel
theorem dX11_fill_1 : decode cX11_fill 1 = .ok (.iconst 0, 1) := by decide +kernel
theorem dX11_fill_2 : decode cX11_fill 2 = .ok (.putfield 85, 3) := by decide +kernel
theorem dX11_fill_5 : decode cX11_fill 5 = .ok (.iload_n 1, 1) := by decide +kernel
theorem dX11_fill_6 : decode cX11_fill 6 = .ok (.iconst 0, 1) := by decide +kernel
theorem dX11_fill_7 : decode cX11_fill 7 = .ok (.iconst 5, 1) := by decide +kernel
theorem dX11_fill_8 : decode cX11_fill 8 = .ok (.invokestatic 106, 3) := by decide +kernel
theorem dX11_fill_11 : decode cX11_fill 11 = .ok (.ifCond .ne 9, 3) := by decide +kernel
theorem dX11_fill_14 : decode cX11_fill 14 = .ok (.aload_n 0, 1) := by decide +kernel
theorem dX11_fill_15 : decode cX11_fill 15 = .ok (.iconst 1, 1) := by decide +kernel
theorem dX11_fill_16 : decode cX11_fill 16 = .ok (.invokevirtual 197, 3) := by decide +kernel
theorem dX11_fill_19 : decode cX11_fill 19 = .ok (.ireturn, 1) := by decide +kernel
theorem dX11_fill_20 : decode cX11_fill 20 = .ok (.iload_n 2, 1) := by decide +kernel
theorem dX11_fill_21 : decode cX11_fill 21 = .ok (.iconst 1, 1) := by decide +kernel
theorem dX11_fill_22 : decode cX11_fill 22 = .ok (.bipush 16, 2) := by decide +kernel
theorem dX11_fill_24 : decode cX11_fill 24 = .ok (.invokestatic 106, 3) := by decide +kernel
theorem dX11_fill_27 : decode cX11_fill 27 = .ok (.ifCond .eq 25, 3) := by decide +kernel
theorem dX11_fill_30 : decode cX11_fill 30 = .ok (.iload_n 3, 1) := by decide +kernel
theorem dX11_fill_31 : decode cX11_fill 31 = .ok (.iconst 1, 1) := by decide +kernel
theorem dX11_fill_32 : decode cX11_fill 32 = .ok (.bipush 12, 2) := by decide +kernel
theorem dX11_fill_34 : decode cX11_fill 34 = .ok (.invokestatic 106, 3) := by decide +kernel
theorem dX11_fill_37 : decode cX11_fill 37 = .ok (.ifCond .eq 15, 3) := by decide +kernel
theorem dX11_fill_40 : decode cX11_fill 40 = .ok (.iload 4, 2) := by decide +kernel
theorem dX11_fill_42 : decode cX11_fill 42 = .ok (.iconst 0, 1) := by decide +kernel
theorem dX11_fill_43 : decode cX11_fill 43 = .ok (.sipush 255, 3) := by decide +kernel
theorem dX11_fill_46 : decode cX11_fill 46 = .ok (.invokestatic 106, 3) := by decide +kernel
theorem dX11_fill_49 : decode cX11_fill 49 = .ok (.ifCond .ne 9, 3) := by decide +kernel
theorem dX11_fill_52 : decode cX11_fill 52 = .ok (.aload_n 0, 1) := by decide +kernel
theorem dX11_fill_53 : decode cX11_fill 53 = .ok (.iconst 2, 1) := by decide +kernel
theorem dX11_fill_54 : decode cX11_fill 54 = .ok (.invokevirtual 197, 3) := by decide +kernel
theorem dX11_fill_57 : decode cX11_fill 57 = .ok (.ireturn, 1) := by decide +kernel
theorem dX11_fill_58 : decode cX11_fill 58 = .ok (.aload_n 0, 1) := by decide +kernel
theorem dX11_fill_59 : decode cX11_fill 59 = .ok (.iload_n 2, 1) := by decide +kernel
theorem dX11_fill_60 : decode cX11_fill 60 = .ok (.iload_n 3, 1) := by decide +kernel
theorem dX11_fill_61 : decode cX11_fill 61 = .ok (.invokevirtual 200, 3) := by decide +kernel
theorem dX11_fill_64 : decode cX11_fill 64 = .ok (.iconst 0, 1) := by decide +kernel
theorem dX11_fill_65 : decode cX11_fill 65 = .ok (.istore 5, 2) := by decide +kernel
theorem dX11_fill_67 : decode cX11_fill 67 = .ok (.iload 5, 2) := by decide +kernel
theorem dX11_fill_69 : decode cX11_fill 69 = .ok (.iload_n 3, 1) := by decide +kernel
theorem dX11_fill_70 : decode cX11_fill 70 = .ok (.if_icmp .ge 36, 3) := by decide +kernel
theorem dX11_fill_73 : decode cX11_fill 73 = .ok (.iconst 0, 1) := by decide +kernel
theorem dX11_fill_74 : decode cX11_fill 74 = .ok (.istore 6, 2) := by decide +kernel
theorem dX11_fill_76 : decode cX11_fill 76 = .ok (.iload 6, 2) := by decide +kernel
theorem dX11_fill_78 : decode cX11_fill 78 = .ok (.iload_n 2, 1) := by decide +kernel
theorem dX11_fill_79 : decode cX11_fill 79 = .ok (.if_icmp .ge 21, 3) := by decide +kernel
theorem dX11_fill_82 : decode cX11_fill 82 = .ok (.aload_n 0, 1) := by decide +kernel
theorem dX11_fill_83 : decode cX11_fill 83 = .ok (.bipush 6, 2) := by decide +kernel
theorem dX11_fill_85 : decode cX11_fill 85 = .ok (.iload 6, 2) := by decide +kernel
theorem dX11_fill_87 : decode cX11_fill 87 = .ok (.iload 5, 2) := by decide +kernel
theorem dX11_fill_89 : decode cX11_fill 89 = .ok (.iload 4, 2) := by decide +kernel
theorem dX11_fill_91 : decode cX11_fill 91 = .ok (.invokevirtual 193, 3) := by decide +kernel
theorem dX11_fill_94 : decode cX11_fill 94 = .ok (.iinc 6 1, 3) := by decide +kernel
theorem dX11_fill_97 : decode cX11_fill 97 = .ok (.goto (-21), 3) := by decide +kernel
theorem dX11_fill_100 : decode cX11_fill 100 = .ok (.iinc 5 1, 3) := by decide +kernel
theorem dX11_fill_103 : decode cX11_fill 103 = .ok (.goto (-36), 3) := by decide +kernel
theorem dX11_fill_106 : decode cX11_fill 106 = .ok (.aload_n 0, 1) := by decide +kernel
theorem dX11_fill_107 : decode cX11_fill 107 = .ok (.iload_n 1, 1) := by decide +kernel
theorem dX11_fill_108 : decode cX11_fill 108 = .ok (.invokevirtual 203, 3) := by decide +kernel
theorem dX11_fill_111 : decode cX11_fill 111 = .ok (.aload_n 0, 1) := by decide +kernel
theorem dX11_fill_112 : decode cX11_fill 112 = .ok (.iconst 0, 1) := by decide +kernel
theorem dX11_fill_113 : decode cX11_fill 113 = .ok (.invokevirtual 197, 3) := by decide +kernel
theorem dX11_fill_116 : decode cX11_fill 116 = .ok (.ireturn, 1) := by decide +kernel
theorem dX11_turn_0 : decode cX11_turn 0 = .ok (.aload_n 0, 1) := by decide +kernel
theorem dX11_turn_1 : decode cX11_turn 1 = .ok (.iconst 0, 1) := by decide +kernel
theorem dX11_turn_2 : decode cX11_turn 2 = .ok (.putfield 85, 3) := by decide +kernel
theorem dX11_turn_5 : decode cX11_turn 5 = .ok (.iload_n 1, 1) := by decide +kernel
theorem dX11_turn_6 : decode cX11_turn 6 = .ok (.iconst 0, 1) := by decide +kernel
theorem dX11_turn_7 : decode cX11_turn 7 = .ok (.iconst 5, 1) := by decide +kernel
theorem dX11_turn_8 : decode cX11_turn 8 = .ok (.invokestatic 106, 3) := by decide +kernel
theorem dX11_turn_11 : decode cX11_turn 11 = .ok (.ifCond .eq 20, 3) := by decide +kernel
theorem dX11_turn_14 : decode cX11_turn 14 = .ok (.aload_n 0, 1) := by decide +kernel
theorem dX11_turn_15 : decode cX11_turn 15 = .ok (.iload_n 2, 1) := by decide +kernel
theorem dX11_turn_16 : decode cX11_turn 16 = .ok (.invokevirtual 173, 3) := by decide +kernel
theorem dX11_turn_19 : decode cX11_turn 19 = .ok (.ifCond .eq 12, 3) := by decide +kernel
theorem dX11_turn_22 : decode cX11_turn 22 = .ok (.iload_n 3, 1) := by decide +kernel
theorem dX11_turn_23 : decode cX11_turn 23 = .ok (.iconst 0, 1) := by decide +kernel
theorem dX11_turn_24 : decode cX11_turn 24 = .ok (.iconst 4, 1) := by decide +kernel
theorem dX11_turn_25 : decode cX11_turn 25 = .ok (.invokestatic 106, 3) := by decide +kernel
theorem dX11_turn_28 : decode cX11_turn 28 = .ok (.ifCond .ne 9, 3) := by decide +kernel
theorem dX11_turn_31 : decode cX11_turn 31 = .ok (.aload_n 0, 1) := by decide +kernel
theorem dX11_turn_32 : decode cX11_turn 32 = .ok (.iconst 1, 1) := by decide +kernel
theorem dX11_turn_33 : decode cX11_turn 33 = .ok (.invokevirtual 197, 3) := by decide +kernel
theorem dX11_turn_36 : decode cX11_turn 36 = .ok (.ireturn, 1) := by decide +kernel
theorem dX11_turn_37 : decode cX11_turn 37 = .ok (.iload_n 3, 1) := by decide +kernel
theorem dX11_turn_38 : decode cX11_turn 38 = .ok (.iconst 3, 1) := by decide +kernel
theorem dX11_turn_39 : decode cX11_turn 39 = .ok (.if_icmp .ne 19, 3) := by decide +kernel
theorem dX11_turn_42 : decode cX11_turn 42 = .ok (.aload_n 0, 1) := by decide +kernel
theorem dX11_turn_43 : decode cX11_turn 43 = .ok (.iload_n 2, 1) := by decide +kernel
theorem dX11_turn_44 : decode cX11_turn 44 = .ok (.invokevirtual 170, 3) := by decide +kernel
theorem dX11_turn_47 : decode cX11_turn 47 = .ok (.bipush 12, 2) := by decide +kernel
theorem dX11_turn_49 : decode cX11_turn 49 = .ok (.if_icmp .le 9, 3) := by decide +kernel
theorem dX11_turn_52 : decode cX11_turn 52 = .ok (.aload_n 0, 1) := by decide +kernel
theorem dX11_turn_53 : decode cX11_turn 53 = .ok (.iconst 3, 1) := by decide +kernel
theorem dX11_turn_54 : decode cX11_turn 54 = .ok (.invokevirtual 197, 3) := by decide +kernel
theorem dX11_turn_57 : decode cX11_turn 57 = .ok (.ireturn, 1) := by decide +kernel
theorem dX11_turn_58 : decode cX11_turn 58 = .ok (.aload_n 0, 1) := by decide +kernel
theorem dX11_turn_59 : decode cX11_turn 59 = .ok (.iload_n 3, 1) := by decide +kernel
theorem dX11_turn_60 : decode cX11_turn 60 = .ok (.iconst 3, 1) := by decide +kernel
theorem dX11_turn_61 : decode cX11_turn 61 = .ok (.if_icmp .ne 11, 3) := by decide +kernel
theorem dX11_turn_64 : decode cX11_turn 64 = .ok (.aload_n 0, 1) := by decide +kernel
theorem dX11_turn_65 : decode cX11_turn 65 = .ok (.iload_n 2, 1) := by decide +kernel
theorem dX11_turn_66 : decode cX11_turn 66 = .ok (.invokevirtual 176, 3) := by decide +kernel
theorem dX11_turn_69 : decode cX11_turn 69 = .ok (.goto 8, 3) := by decide +kernel
theorem dX11_turn_72 : decode cX11_turn 72 = .ok (.aload_n 0, 1) := by decide +kernel
theorem dX11_turn_73 : decode cX11_turn 73 = .ok (.iload_n 2, 1) := by decide +kernel
theorem dX11_turn_74 : decode cX11_turn 74 = .ok (.invokevirtual 170, 3) := by decide +kernel
theorem dX11_turn_77 : decode cX11_turn 77 = .ok (.iload_n 3, 1) := by decide +kernel
theorem dX11_turn_78 : decode cX11_turn 78 = .ok (.iconst 3, 1) := by decide +kernel
theorem dX11_turn_79 : decode cX11_turn 79 = .ok (.if_icmp .ne 11, 3) := by decide +kernel
theorem dX11_turn_82 : decode cX11_turn 82 = .ok (.aload_n 0, 1) := by decide +kernel
theorem dX11_turn_83 : decode cX11_turn 83 = .ok (.iload_n 2, 1) := by decide +kernel
theorem dX11_turn_84 : decode cX11_turn 84 = .ok (.invokevirtual 170, 3) := by decide +kernel
theorem dX11_turn_87 : decode cX11_turn 87 = .ok (.goto 8, 3) := by decide +kernel
theorem dX11_turn_90 : decode cX11_turn 90 = .ok (.aload_n 0, 1) := by decide +kernel
theorem dX11_turn_91 : decode cX11_turn 91 = .ok (.iload_n 2, 1) := by decide +kernel
theorem dX11_turn_92 : decode cX11_turn 92 = .ok (.invokevirtual 176, 3) := by decide +kernel
theorem dX11_turn_95 : decode cX11_turn 95 = .ok (.invokevirtual 200, 3) := by decide +kernel
theorem dX11_turn_98 : decode cX11_turn 98 = .ok (.iconst 0, 1) := by decide +kernel
theorem dX11_turn_99 : decode cX11_turn 99 = .ok (.istore 4, 2) := by decide +kernel
theorem dX11_turn_101 : decode cX11_turn 101 = .ok (.iload 4, 2) := by decide +kernel
theorem dX11_turn_103 : decode cX11_turn 103 = .ok (.aload_n 0, 1) := by decide +kernel
theorem dX11_turn_104 : decode cX11_turn 104 = .ok (.iload_n 2, 1) := by decide +kernel
theorem dX11_turn_105 : decode cX11_turn 105 = .ok (.invokevirtual 176, 3) := by decide +kernel
theorem dX11_turn_108 : decode cX11_turn 108 = .ok (.if_icmp .ge 121, 3) := by decide +kernel
theorem dX11_turn_111 : decode cX11_turn 111 = .ok (.iconst 0, 1) := by decide +kernel
theorem dX11_turn_112 : decode cX11_turn 112 = .ok (.istore 5, 2) := by decide +kernel
theorem dX11_turn_114 : decode cX11_turn 114 = .ok (.iload 5, 2) := by decide +kernel
theorem dX11_turn_116 : decode cX11_turn 116 = .ok (.aload_n 0, 1) := by decide +kernel
theorem dX11_turn_117 : decode cX11_turn 117 = .ok (.iload_n 2, 1) := by decide +kernel
theorem dX11_turn_118 : decode cX11_turn 118 = .ok (.invokevirtual 170, 3) := by decide +kernel
theorem dX11_turn_121 : decode cX11_turn 121 = .ok (.if_icmp .ge 102, 3) := by decide +kernel
theorem dX11_turn_124 : decode cX11_turn 124 = .ok (.aload_n 0, 1) := by decide +kernel
theorem dX11_turn_125 : decode cX11_turn 125 = .ok (.iload_n 2, 1) := by decide +kernel
theorem dX11_turn_126 : decode cX11_turn 126 = .ok (.iload 5, 2) := by decide +kernel
theorem dX11_turn_128 : decode cX11_turn 128 = .ok (.iload 4, 2) := by decide +kernel
theorem dX11_turn_130 : decode cX11_turn 130 = .ok (.invokevirtual 182, 3) := by decide +kernel
theorem dX11_turn_133 : decode cX11_turn 133 = .ok (.istore 6, 2) := by decide +kernel
theorem dX11_turn_135 : decode cX11_turn 135 = .ok (.iload_n 3, 1) := by decide +kernel
theorem dX11_turn_136 : decode cX11_turn 136 = .ok (.iconst 3, 1) := by decide +kernel
theorem dX11_turn_137 : decode cX11_turn 137 = .ok (.if_icmp .ne 18, 3) := by decide +kernel
theorem dX11_turn_140 : decode cX11_turn 140 = .ok (.aload_n 0, 1) := by decide +kernel
theorem dX11_turn_141 : decode cX11_turn 141 = .ok (.bipush 6, 2) := by decide +kernel
theorem dX11_turn_143 : decode cX11_turn 143 = .ok (.iload 4, 2) := by decide +kernel
theorem dX11_turn_145 : decode cX11_turn 145 = .ok (.iload 5, 2) := by decide +kernel
theorem dX11_turn_147 : decode cX11_turn 147 = .ok (.iload 6, 2) := by decide +kernel
theorem dX11_turn_149 : decode cX11_turn 149 = .ok (.invokevirtual 193, 3) := by decide +kernel
theorem dX11_turn_152 : decode cX11_turn 152 = .ok (.goto 65, 3) := by decide +kernel
theorem dX11_turn_155 : decode cX11_turn 155 = .ok (.aload_n 0, 1) := by decide +kernel
theorem dX11_turn_156 : decode cX11_turn 156 = .ok (.bipush 6, 2) := by decide +kernel
theorem dX11_turn_158 : decode cX11_turn 158 = .ok (.iload_n 3, 1) := by decide +kernel
theorem dX11_turn_159 : decode cX11_turn 159 = .ok (.iconst 1, 1) := by decide +kernel
theorem dX11_turn_160 : decode cX11_turn 160 = .ok (.if_icmp .ne 16, 3) := by decide +kernel
theorem dX11_turn_163 : decode cX11_turn 163 = .ok (.aload_n 0, 1) := by decide +kernel
theorem dX11_turn_164 : decode cX11_turn 164 = .ok (.iload_n 2, 1) := by decide +kernel
theorem dX11_turn_165 : decode cX11_turn 165 = .ok (.invokevirtual 170, 3) := by decide +kernel
theorem dX11_turn_168 : decode cX11_turn 168 = .ok (.iconst 1, 1) := by decide +kernel
theorem dX11_turn_169 : decode cX11_turn 169 = .ok (.isub, 1) := by decide +kernel
theorem dX11_turn_170 : decode cX11_turn 170 = .ok (.iload 5, 2) := by decide +kernel
theorem dX11_turn_172 : decode cX11_turn 172 = .ok (.isub, 1) := by decide +kernel
theorem dX11_turn_173 : decode cX11_turn 173 = .ok (.goto 5, 3) := by decide +kernel
theorem dX11_turn_176 : decode cX11_turn 176 = .ok (.iload 5, 2) := by decide +kernel
theorem dX11_turn_178 : decode cX11_turn 178 = .ok (.iload_n 3, 1) := by decide +kernel
theorem dX11_turn_179 : decode cX11_turn 179 = .ok (.iconst 2, 1) := by decide +kernel
theorem dX11_turn_180 : decode cX11_turn 180 = .ok (.if_icmp .ne 16, 3) := by decide +kernel
theorem dX11_turn_183 : decode cX11_turn 183 = .ok (.aload_n 0, 1) := by decide +kernel
theorem dX11_turn_184 : decode cX11_turn 184 = .ok (.iload_n 2, 1) := by decide +kernel
theorem dX11_turn_185 : decode cX11_turn 185 = .ok (.invokevirtual 176, 3) := by decide +kernel
theorem dX11_turn_188 : decode cX11_turn 188 = .ok (.iconst 1, 1) := by decide +kernel
theorem dX11_turn_189 : decode cX11_turn 189 = .ok (.isub, 1) := by decide +kernel
theorem dX11_turn_190 : decode cX11_turn 190 = .ok (.iload 4, 2) := by decide +kernel
theorem dX11_turn_192 : decode cX11_turn 192 = .ok (.isub, 1) := by decide +kernel
theorem dX11_turn_193 : decode cX11_turn 193 = .ok (.goto 5, 3) := by decide +kernel
theorem dX11_turn_196 : decode cX11_turn 196 = .ok (.iload 4, 2) := by decide +kernel
theorem dX11_turn_198 : decode cX11_turn 198 = .ok (.iload_n 3, 1) := by decide +kernel
theorem dX11_turn_199 : decode cX11_turn 199 = .ok (.iconst 4, 1) := by decide +kernel
theorem dX11_turn_200 : decode cX11_turn 200 = .ok (.if_icmp .ne 12, 3) := by decide +kernel
theorem dX11_turn_203 : decode cX11_turn 203 = .ok (.sipush 255, 3) := by decide +kernel
theorem dX11_turn_206 : decode cX11_turn 206 = .ok (.iload 6, 2) := by decide +kernel
theorem dX11_turn_208 : decode cX11_turn 208 = .ok (.isub, 1) := by decide +kernel
theorem dX11_turn_209 : decode cX11_turn 209 = .ok (.goto 5, 3) := by decide +kernel
theorem dX11_turn_212 : decode cX11_turn 212 = .ok (.iload 6, 2) := by decide +kernel
theorem dX11_turn_214 : decode cX11_turn 214 = .ok (.invokevirtual 193, 3) := by decide +kernel
theorem dX11_turn_217 : decode cX11_turn 217 = .ok (.iinc 5 1, 3) := by decide +kernel
theorem dX11_turn_220 : decode cX11_turn 220 = .ok (.goto (-106), 3) := by decide +kernel
theorem dX11_turn_223 : decode cX11_turn 223 = .ok (.iinc 4 1, 3) := by decide +kernel
theorem dX11_turn_226 : decode cX11_turn 226 = .ok (.goto (-125), 3) := by decide +kernel
theorem dX11_turn_229 : decode cX11_turn 229 = .ok (.aload_n 0, 1) := by decide +kernel
theorem dX11_turn_230 : decode cX11_turn 230 = .ok (.iload_n 1, 1) := by decide +kernel
theorem dX11_turn_231 : decode cX11_turn 231 = .ok (.invokevirtual 203, 3) := by decide +kernel
theorem dX11_turn_234 : decode cX11_turn 234 = .ok (.aload_n 0, 1) := by decide +kernel
theorem dX11_turn_235 : decode cX11_turn 235 = .ok (.iconst 0, 1) := by decide +kernel
theorem dX11_turn_236 : decode cX11_turn 236 = .ok (.invokevirtual 197, 3) := by decide +kernel
theorem dX11_turn_239 : decode cX11_turn 239 = .ok (.ireturn, 1) := by decide +kernel
theorem dX11_part_0 : decode cX11_part 0 = .ok (.aload_n 0, 1) := by decide +kernel
theorem dX11_part_1 : decode cX11_part 1 = .ok (.iconst 0, 1) := by decide +kernel
theorem dX11_part_2 : decode cX11_part 2 = .ok (.putfield 85, 3) := by decide +kernel
theorem dX11_part_5 : decode cX11_part 5 = .ok (.iload_n 1, 1) := by decide +kernel
theorem dX11_part_6 : decode cX11_part 6 = .ok (.iconst 0, 1) := by decide +kernel
theorem dX11_part_7 : decode cX11_part 7 = .ok (.iconst 5, 1) := by decide +kernel
theorem dX11_part_8 : decode cX11_part 8 = .ok (.invokestatic 106, 3) := by decide +kernel
theorem dX11_part_11 : decode cX11_part 11 = .ok (.ifCond .eq 14, 3) := by decide +kernel
theorem dX11_part_14 : decode cX11_part 14 = .ok (.aload_n 0, 1) := by decide +kernel
theorem dX11_part_15 : decode cX11_part 15 = .ok (.iload_n 2, 1) := by decide +kernel
theorem dX11_part_16 : decode cX11_part 16 = .ok (.iload_n 3, 1) := by decide +kernel
theorem dX11_part_17 : decode cX11_part 17 = .ok (.iload 4, 2) := by decide +kernel
theorem dX11_part_19 : decode cX11_part 19 = .ok (.invokevirtual 190, 3) := by decide +kernel
theorem dX11_part_22 : decode cX11_part 22 = .ok (.ifCond .ne 9, 3) := by decide +kernel
theorem dX11_part_25 : decode cX11_part 25 = .ok (.aload_n 0, 1) := by decide +kernel
theorem dX11_part_26 : decode cX11_part 26 = .ok (.iconst 1, 1) := by decide +kernel
theorem dX11_part_27 : decode cX11_part 27 = .ok (.invokevirtual 197, 3) := by decide +kernel
theorem dX11_part_30 : decode cX11_part 30 = .ok (.ireturn, 1) := by decide +kernel
theorem dX11_part_31 : decode cX11_part 31 = .ok (.iload 5, 2) := by decide +kernel
theorem dX11_part_33 : decode cX11_part 33 = .ok (.iconst 1, 1) := by decide +kernel
theorem dX11_part_34 : decode cX11_part 34 = .ok (.aload_n 0, 1) := by decide +kernel
theorem dX11_part_35 : decode cX11_part 35 = .ok (.iload_n 2, 1) := by decide +kernel
theorem dX11_part_36 : decode cX11_part 36 = .ok (.invokevirtual 170, 3) := by decide +kernel
theorem dX11_part_39 : decode cX11_part 39 = .ok (.iload_n 3, 1) := by decide +kernel
theorem dX11_part_40 : decode cX11_part 40 = .ok (.isub, 1) := by decide +kernel
theorem dX11_part_41 : decode cX11_part 41 = .ok (.invokestatic 106, 3) := by decide +kernel
theorem dX11_part_44 : decode cX11_part 44 = .ok (.ifCond .eq 20, 3) := by decide +kernel
theorem dX11_part_47 : decode cX11_part 47 = .ok (.iload 6, 2) := by decide +kernel
theorem dX11_part_49 : decode cX11_part 49 = .ok (.iconst 1, 1) := by decide +kernel
theorem dX11_part_50 : decode cX11_part 50 = .ok (.aload_n 0, 1) := by decide +kernel
theorem dX11_part_51 : decode cX11_part 51 = .ok (.iload_n 2, 1) := by decide +kernel
theorem dX11_part_52 : decode cX11_part 52 = .ok (.invokevirtual 176, 3) := by decide +kernel
theorem dX11_part_55 : decode cX11_part 55 = .ok (.iload 4, 2) := by decide +kernel
theorem dX11_part_57 : decode cX11_part 57 = .ok (.isub, 1) := by decide +kernel
theorem dX11_part_58 : decode cX11_part 58 = .ok (.invokestatic 106, 3) := by decide +kernel
theorem dX11_part_61 : decode cX11_part 61 = .ok (.ifCond .ne 9, 3) := by decide +kernel
theorem dX11_part_64 : decode cX11_part 64 = .ok (.aload_n 0, 1) := by decide +kernel
theorem dX11_part_65 : decode cX11_part 65 = .ok (.iconst 2, 1) := by decide +kernel
theorem dX11_part_66 : decode cX11_part 66 = .ok (.invokevirtual 197, 3) := by decide +kernel
theorem dX11_part_69 : decode cX11_part 69 = .ok (.ireturn, 1) := by decide +kernel
theorem dX11_part_70 : decode cX11_part 70 = .ok (.aload_n 0, 1) := by decide +kernel
theorem dX11_part_71 : decode cX11_part 71 = .ok (.iload 5, 2) := by decide +kernel
theorem dX11_part_73 : decode cX11_part 73 = .ok (.iload 6, 2) := by decide +kernel
theorem dX11_part_75 : decode cX11_part 75 = .ok (.invokevirtual 200, 3) := by decide +kernel
theorem dX11_part_78 : decode cX11_part 78 = .ok (.iconst 0, 1) := by decide +kernel
theorem dX11_part_79 : decode cX11_part 79 = .ok (.istore 7, 2) := by decide +kernel
theorem dX11_part_81 : decode cX11_part 81 = .ok (.iload 7, 2) := by decide +kernel
theorem dX11_part_83 : decode cX11_part 83 = .ok (.iload 6, 2) := by decide +kernel
theorem dX11_part_85 : decode cX11_part 85 = .ok (.if_icmp .ge 49, 3) := by decide +kernel
theorem dX11_part_88 : decode cX11_part 88 = .ok (.iconst 0, 1) := by decide +kernel
theorem dX11_part_89 : decode cX11_part 89 = .ok (.istore 8, 2) := by decide +kernel
theorem dX11_part_91 : decode cX11_part 91 = .ok (.iload 8, 2) := by decide +kernel
theorem dX11_part_93 : decode cX11_part 93 = .ok (.iload 5, 2) := by decide +kernel
theorem dX11_part_95 : decode cX11_part 95 = .ok (.if_icmp .ge 33, 3) := by decide +kernel
theorem dX11_part_98 : decode cX11_part 98 = .ok (.aload_n 0, 1) := by decide +kernel
theorem dX11_part_99 : decode cX11_part 99 = .ok (.bipush 6, 2) := by decide +kernel
theorem dX11_part_101 : decode cX11_part 101 = .ok (.iload 8, 2) := by decide +kernel
theorem dX11_part_103 : decode cX11_part 103 = .ok (.iload 7, 2) := by decide +kernel
theorem dX11_part_105 : decode cX11_part 105 = .ok (.aload_n 0, 1) := by decide +kernel
theorem dX11_part_106 : decode cX11_part 106 = .ok (.iload_n 2, 1) := by decide +kernel
theorem dX11_part_107 : decode cX11_part 107 = .ok (.iload_n 3, 1) := by decide +kernel
theorem dX11_part_108 : decode cX11_part 108 = .ok (.iload 8, 2) := by decide +kernel
theorem dX11_part_110 : decode cX11_part 110 = .ok (.iadd, 1) := by decide +kernel
theorem dX11_part_111 : decode cX11_part 111 = .ok (.iload 4, 2) := by decide +kernel
theorem dX11_part_113 : decode cX11_part 113 = .ok (.iload 7, 2) := by decide +kernel
theorem dX11_part_115 : decode cX11_part 115 = .ok (.iadd, 1) := by decide +kernel
theorem dX11_part_116 : decode cX11_part 116 = .ok (.invokevirtual 182, 3) := by decide +kernel
theorem dX11_part_119 : decode cX11_part 119 = .ok (.invokevirtual 193, 3) := by decide +kernel
theorem dX11_part_122 : decode cX11_part 122 = .ok (.iinc 8 1, 3) := by decide +kernel
theorem dX11_part_125 : decode cX11_part 125 = .ok (.goto (-34), 3) := by decide +kernel
theorem dX11_part_128 : decode cX11_part 128 = .ok (.iinc 7 1, 3) := by decide +kernel
theorem dX11_part_131 : decode cX11_part 131 = .ok (.goto (-50), 3) := by decide +kernel
theorem dX11_part_134 : decode cX11_part 134 = .ok (.aload_n 0, 1) := by decide +kernel
theorem dX11_part_135 : decode cX11_part 135 = .ok (.iload_n 1, 1) := by decide +kernel
theorem dX11_part_136 : decode cX11_part 136 = .ok (.invokevirtual 203, 3) := by decide +kernel
theorem dX11_part_139 : decode cX11_part 139 = .ok (.aload_n 0, 1) := by decide +kernel
theorem dX11_part_140 : decode cX11_part 140 = .ok (.iconst 0, 1) := by decide +kernel
theorem dX11_part_141 : decode cX11_part 141 = .ok (.invokevirtual 197, 3) := by decide +kernel
theorem dX11_part_144 : decode cX11_part 144 = .ok (.ireturn, 1) := by decide +kernel
theorem dX11_noise_0 : decode cX11_noise 0 = .ok (.aload_n 0, 1) := by decide +kernel
theorem dX11_noise_1 : decode cX11_noise 1 = .ok (.iconst 0, 1) := by decide +kernel
theorem dX11_noise_2 : decode cX11_noise 2 = .ok (.putfield 85, 3) := by decide +kernel
theorem dX11_noise_5 : decode cX11_noise 5 = .ok (.aload_n 0, 1) := by decide +kernel
theorem dX11_noise_6 : decode cX11_noise 6 = .ok (.iload_n 1, 1) := by decide +kernel
theorem dX11_noise_7 : decode cX11_noise 7 = .ok (.invokevirtual 173, 3) := by decide +kernel
theorem dX11_noise_10 : decode cX11_noise 10 = .ok (.ifCond .ne 9, 3) := by decide +kernel
theorem dX11_noise_13 : decode cX11_noise 13 = .ok (.aload_n 0, 1) := by decide +kernel
theorem dX11_noise_14 : decode cX11_noise 14 = .ok (.iconst 1, 1) := by decide +kernel
theorem dX11_noise_15 : decode cX11_noise 15 = .ok (.invokevirtual 147, 3) := by decide +kernel
theorem dX11_noise_18 : decode cX11_noise 18 = .ok (.ireturn, 1) := by decide +kernel
theorem dX11_noise_19 : decode cX11_noise 19 = .ok (.iload_n 2, 1) := by decide +kernel
theorem dX11_noise_20 : decode cX11_noise 20 = .ok (.iconst 0, 1) := by decide +kernel
theorem dX11_noise_21 : decode cX11_noise 21 = .ok (.ldc 206, 2) := by decide +kernel
theorem dX11_noise_23 : decode cX11_noise 23 = .ok (.invokestatic 106, 3) := by decide +kernel
theorem dX11_noise_26 : decode cX11_noise 26 = .ok (.ifCond .eq 13, 3) := by decide +kernel
theorem dX11_noise_29 : decode cX11_noise 29 = .ok (.iload_n 3, 1) := by decide +kernel
theorem dX11_noise_30 : decode cX11_noise 30 = .ok (.iconst 0, 1) := by decide +kernel
theorem dX11_noise_31 : decode cX11_noise 31 = .ok (.bipush 127, 2) := by decide +kernel
theorem dX11_noise_33 : decode cX11_noise 33 = .ok (.invokestatic 106, 3) := by decide +kernel
theorem dX11_noise_36 : decode cX11_noise 36 = .ok (.ifCond .ne 9, 3) := by decide +kernel
theorem dX11_noise_39 : decode cX11_noise 39 = .ok (.aload_n 0, 1) := by decide +kernel
theorem dX11_noise_40 : decode cX11_noise 40 = .ok (.iconst 2, 1) := by decide +kernel
theorem dX11_noise_41 : decode cX11_noise 41 = .ok (.invokevirtual 147, 3) := by decide +kernel
theorem dX11_noise_44 : decode cX11_noise 44 = .ok (.ireturn, 1) := by decide +kernel
theorem dX11_noise_45 : decode cX11_noise 45 = .ok (.iload_n 2, 1) := by decide +kernel
theorem dX11_noise_46 : decode cX11_noise 46 = .ok (.i2l, 1) := by decide +kernel
theorem dX11_noise_47 : decode cX11_noise 47 = .ok (.lstore 4, 2) := by decide +kernel
theorem dX11_noise_49 : decode cX11_noise 49 = .ok (.aload_n 0, 1) := by decide +kernel
theorem dX11_noise_50 : decode cX11_noise 50 = .ok (.aload_n 0, 1) := by decide +kernel
theorem dX11_noise_51 : decode cX11_noise 51 = .ok (.iload_n 1, 1) := by decide +kernel
theorem dX11_noise_52 : decode cX11_noise 52 = .ok (.invokevirtual 170, 3) := by decide +kernel
theorem dX11_noise_55 : decode cX11_noise 55 = .ok (.aload_n 0, 1) := by decide +kernel
theorem dX11_noise_56 : decode cX11_noise 56 = .ok (.iload_n 1, 1) := by decide +kernel
theorem dX11_noise_57 : decode cX11_noise 57 = .ok (.invokevirtual 176, 3) := by decide +kernel
theorem dX11_noise_60 : decode cX11_noise 60 = .ok (.invokevirtual 200, 3) := by decide +kernel
theorem dX11_noise_63 : decode cX11_noise 63 = .ok (.iconst 0, 1) := by decide +kernel
theorem dX11_noise_64 : decode cX11_noise 64 = .ok (.istore 6, 2) := by decide +kernel
theorem dX11_noise_66 : decode cX11_noise 66 = .ok (.iload 6, 2) := by decide +kernel
theorem dX11_noise_68 : decode cX11_noise 68 = .ok (.aload_n 0, 1) := by decide +kernel
theorem dX11_noise_69 : decode cX11_noise 69 = .ok (.iload_n 1, 1) := by decide +kernel
theorem dX11_noise_70 : decode cX11_noise 70 = .ok (.invokevirtual 176, 3) := by decide +kernel
theorem dX11_noise_73 : decode cX11_noise 73 = .ok (.if_icmp .ge 103, 3) := by decide +kernel
theorem dX11_noise_76 : decode cX11_noise 76 = .ok (.iconst 0, 1) := by decide +kernel
theorem dX11_noise_77 : decode cX11_noise 77 = .ok (.istore 7, 2) := by decide +kernel
theorem dX11_noise_79 : decode cX11_noise 79 = .ok (.iload 7, 2) := by decide +kernel
theorem dX11_noise_81 : decode cX11_noise 81 = .ok (.aload_n 0, 1) := by decide +kernel
theorem dX11_noise_82 : decode cX11_noise 82 = .ok (.iload_n 1, 1) := by decide +kernel
theorem dX11_noise_83 : decode cX11_noise 83 = .ok (.invokevirtual 170, 3) := by decide +kernel
theorem dX11_noise_86 : decode cX11_noise 86 = .ok (.if_icmp .ge 84, 3) := by decide +kernel
theorem dX11_noise_89 : decode cX11_noise 89 = .ok (.ldc2_w 207, 3) := by decide +kernel
theorem dX11_noise_92 : decode cX11_noise 92 = .ok (.lload 4, 2) := by decide +kernel
theorem dX11_noise_94 : decode cX11_noise 94 = .ok (.lmul, 1) := by decide +kernel
theorem dX11_noise_95 : decode cX11_noise 95 = .ok (.ldc2_w 209, 3) := by decide +kernel
theorem dX11_noise_98 : decode cX11_noise 98 = .ok (.ladd, 1) := by decide +kernel
theorem dX11_noise_99 : decode cX11_noise 99 = .ok (.ldc2_w 211, 3) := by decide +kernel
theorem dX11_noise_102 : decode cX11_noise 102 = .ok (.lrem, 1) := by decide +kernel
theorem dX11_noise_103 : decode cX11_noise 103 = .ok (.lstore 4, 2) := by decide +kernel
theorem dX11_noise_105 : decode cX11_noise 105 = .ok (.aload_n 0, 1) := by decide +kernel
theorem dX11_noise_106 : decode cX11_noise 106 = .ok (.iload_n 1, 1) := by decide +kernel
theorem dX11_noise_107 : decode cX11_noise 107 = .ok (.iload 7, 2) := by decide +kernel
theorem dX11_noise_109 : decode cX11_noise 109 = .ok (.iload 6, 2) := by decide +kernel
theorem dX11_noise_111 : decode cX11_noise 111 = .ok (.invokevirtual 182, 3) := by decide +kernel
theorem dX11_noise_114 : decode cX11_noise 114 = .ok (.lload 4, 2) := by decide +kernel
theorem dX11_noise_116 : decode cX11_noise 116 = .ok (.iconst 2, 1) := by decide +kernel
theorem dX11_noise_117 : decode cX11_noise 117 = .ok (.iload_n 3, 1) := by decide +kernel
theorem dX11_noise_118 : decode cX11_noise 118 = .ok (.imul, 1) := by decide +kernel
theorem dX11_noise_119 : decode cX11_noise 119 = .ok (.iconst 1, 1) := by decide +kernel
theorem dX11_noise_120 : decode cX11_noise 120 = .ok (.iadd, 1) := by decide +kernel
theorem dX11_noise_121 : decode cX11_noise 121 = .ok (.i2l, 1) := by decide +kernel
theorem dX11_noise_122 : decode cX11_noise 122 = .ok (.lrem, 1) := by decide +kernel
theorem dX11_noise_123 : decode cX11_noise 123 = .ok (.l2i, 1) := by decide +kernel
theorem dX11_noise_124 : decode cX11_noise 124 = .ok (.iadd, 1) := by decide +kernel
theorem dX11_noise_125 : decode cX11_noise 125 = .ok (.iload_n 3, 1) := by decide +kernel
theorem dX11_noise_126 : decode cX11_noise 126 = .ok (.isub, 1) := by decide +kernel
theorem dX11_noise_127 : decode cX11_noise 127 = .ok (.istore 8, 2) := by decide +kernel
theorem dX11_noise_129 : decode cX11_noise 129 = .ok (.aload_n 0, 1) := by decide +kernel
theorem dX11_noise_130 : decode cX11_noise 130 = .ok (.bipush 6, 2) := by decide +kernel
theorem dX11_noise_132 : decode cX11_noise 132 = .ok (.iload 7, 2) := by decide +kernel
theorem dX11_noise_134 : decode cX11_noise 134 = .ok (.iload 6, 2) := by decide +kernel
theorem dX11_noise_136 : decode cX11_noise 136 = .ok (.iload 8, 2) := by decide +kernel
theorem dX11_noise_138 : decode cX11_noise 138 = .ok (.ifCond .ge 7, 3) := by decide +kernel
theorem dX11_noise_141 : decode cX11_noise 141 = .ok (.iconst 0, 1) := by decide +kernel
theorem dX11_noise_142 : decode cX11_noise 142 = .ok (.goto 19, 3) := by decide +kernel
theorem dX11_noise_145 : decode cX11_noise 145 = .ok (.iload 8, 2) := by decide +kernel
theorem dX11_noise_147 : decode cX11_noise 147 = .ok (.sipush 255, 3) := by decide +kernel
theorem dX11_noise_150 : decode cX11_noise 150 = .ok (.if_icmp .le 9, 3) := by decide +kernel
theorem dX11_noise_153 : decode cX11_noise 153 = .ok (.sipush 255, 3) := by decide +kernel
theorem dX11_noise_156 : decode cX11_noise 156 = .ok (.goto 5, 3) := by decide +kernel
theorem dX11_noise_159 : decode cX11_noise 159 = .ok (.iload 8, 2) := by decide +kernel
theorem dX11_noise_161 : decode cX11_noise 161 = .ok (.invokevirtual 193, 3) := by decide +kernel
theorem dX11_noise_164 : decode cX11_noise 164 = .ok (.iinc 7 1, 3) := by decide +kernel
theorem dX11_noise_167 : decode cX11_noise 167 = .ok (.goto (-88), 3) := by decide +kernel
theorem dX11_noise_170 : decode cX11_noise 170 = .ok (.iinc 6 1, 3) := by decide +kernel
theorem dX11_noise_173 : decode cX11_noise 173 = .ok (.goto (-107), 3) := by decide +kernel
theorem dX11_noise_176 : decode cX11_noise 176 = .ok (.aload_n 0, 1) := by decide +kernel
theorem dX11_noise_177 : decode cX11_noise 177 = .ok (.iload_n 1, 1) := by decide +kernel
theorem dX11_noise_178 : decode cX11_noise 178 = .ok (.invokevirtual 213, 3) := by decide +kernel
theorem dX11_noise_181 : decode cX11_noise 181 = .ok (.istore 6, 2) := by decide +kernel
theorem dX11_noise_183 : decode cX11_noise 183 = .ok (.aload_n 0, 1) := by decide +kernel
theorem dX11_noise_184 : decode cX11_noise 184 = .ok (.iload_n 1, 1) := by decide +kernel
theorem dX11_noise_185 : decode cX11_noise 185 = .ok (.invokevirtual 203, 3) := by decide +kernel
theorem dX11_noise_188 : decode cX11_noise 188 = .ok (.aload_n 0, 1) := by decide +kernel
theorem dX11_noise_189 : decode cX11_noise 189 = .ok (.iload 6, 2) := by decide +kernel
theorem dX11_noise_191 : decode cX11_noise 191 = .ok (.invokevirtual 157, 3) := by decide +kernel
theorem dX11_noise_194 : decode cX11_noise 194 = .ok (.ireturn, 1) := by decide +kernel
theorem dX11_nodeAt_0 : decode cX11_nodeAt 0 = .ok (.iload_n 0, 1) := by decide +kernel
theorem dX11_nodeAt_1 : decode cX11_nodeAt 1 = .ok (.iconst 3, 1) := by decide +kernel
theorem dX11_nodeAt_2 : decode cX11_nodeAt 2 = .ok (.iadd, 1) := by decide +kernel
theorem dX11_nodeAt_3 : decode cX11_nodeAt 3 = .ok (.bipush 19, 2) := by decide +kernel
theorem dX11_nodeAt_5 : decode cX11_nodeAt 5 = .ok (.imul, 1) := by decide +kernel
theorem dX11_nodeAt_6 : decode cX11_nodeAt 6 = .ok (.iload_n 1, 1) := by decide +kernel
theorem dX11_nodeAt_7 : decode cX11_nodeAt 7 = .ok (.iadd, 1) := by decide +kernel
theorem dX11_nodeAt_8 : decode cX11_nodeAt 8 = .ok (.iconst 3, 1) := by decide +kernel
theorem dX11_nodeAt_9 : decode cX11_nodeAt 9 = .ok (.iadd, 1) := by decide +kernel
theorem dX11_nodeAt_10 : decode cX11_nodeAt 10 = .ok (.bipush 39, 2) := by decide +kernel
theorem dX11_nodeAt_12 : decode cX11_nodeAt 12 = .ok (.imul, 1) := by decide +kernel
theorem dX11_nodeAt_13 : decode cX11_nodeAt 13 = .ok (.iload_n 2, 1) := by decide +kernel
theorem dX11_nodeAt_14 : decode cX11_nodeAt 14 = .ok (.iadd, 1) := by decide +kernel
theorem dX11_nodeAt_15 : decode cX11_nodeAt 15 = .ok (.iconst 3, 1) := by decide +kernel
theorem dX11_nodeAt_16 : decode cX11_nodeAt 16 = .ok (.iadd, 1) := by decide +kernel
theorem dX11_nodeAt_17 : decode cX11_nodeAt 17 = .ok (.ireturn, 1) := by decide +kernel
theorem dX11_lies_0 : decode cX11_lies 0 = .ok (.aload_n 0, 1) := by decide +kernel
theorem dX11_lies_1 : decode cX11_lies 1 = .ok (.iload_n 2, 1) := by decide +kernel
theorem dX11_lies_2 : decode cX11_lies 2 = .ok (.aload_n 0, 1) := by decide +kernel
theorem dX11_lies_3 : decode cX11_lies 3 = .ok (.getfield 58, 3) := by decide +kernel
theorem dX11_lies_6 : decode cX11_lies 6 = .ok (.iload_n 1, 1) := by decide +kernel
theorem dX11_lies_7 : decode cX11_lies 7 = .ok (.iaload, 1) := by decide +kernel
theorem dX11_lies_8 : decode cX11_lies 8 = .ok (.idiv, 1) := by decide +kernel
theorem dX11_lies_9 : decode cX11_lies 9 = .ok (.iload_n 3, 1) := by decide +kernel
theorem dX11_lies_10 : decode cX11_lies 10 = .ok (.aload_n 0, 1) := by decide +kernel
theorem dX11_lies_11 : decode cX11_lies 11 = .ok (.getfield 58, 3) := by decide +kernel
theorem dX11_lies_14 : decode cX11_lies 14 = .ok (.iload_n 1, 1) := by decide +kernel
theorem dX11_lies_15 : decode cX11_lies 15 = .ok (.iaload, 1) := by decide +kernel
theorem dX11_lies_16 : decode cX11_lies 16 = .ok (.idiv, 1) := by decide +kernel
theorem dX11_lies_17 : decode cX11_lies 17 = .ok (.iload 4, 2) := by decide +kernel
theorem dX11_lies_19 : decode cX11_lies 19 = .ok (.aload_n 0, 1) := by decide +kernel
theorem dX11_lies_20 : decode cX11_lies 20 = .ok (.getfield 61, 3) := by decide +kernel
theorem dX11_lies_23 : decode cX11_lies 23 = .ok (.iload_n 1, 1) := by decide +kernel
theorem dX11_lies_24 : decode cX11_lies 24 = .ok (.iaload, 1) := by decide +kernel
theorem dX11_lies_25 : decode cX11_lies 25 = .ok (.idiv, 1) := by decide +kernel
theorem dX11_lies_26 : decode cX11_lies 26 = .ok (.invokestatic 216, 3) := by decide +kernel
theorem dX11_lies_29 : decode cX11_lies 29 = .ok (.putfield 219, 3) := by decide +kernel
theorem dX11_lies_32 : decode cX11_lies 32 = .ok (.aload_n 0, 1) := by decide +kernel
theorem dX11_lies_33 : decode cX11_lies 33 = .ok (.iload_n 2, 1) := by decide +kernel
theorem dX11_lies_34 : decode cX11_lies 34 = .ok (.aload_n 0, 1) := by decide +kernel
theorem dX11_lies_35 : decode cX11_lies 35 = .ok (.getfield 58, 3) := by decide +kernel
theorem dX11_lies_38 : decode cX11_lies 38 = .ok (.iload_n 1, 1) := by decide +kernel
theorem dX11_lies_39 : decode cX11_lies 39 = .ok (.iaload, 1) := by decide +kernel
theorem dX11_lies_40 : decode cX11_lies 40 = .ok (.irem, 1) := by decide +kernel
theorem dX11_lies_41 : decode cX11_lies 41 = .ok (.putfield 222, 3) := by decide +kernel
theorem dX11_lies_44 : decode cX11_lies 44 = .ok (.aload_n 0, 1) := by decide +kernel
theorem dX11_lies_45 : decode cX11_lies 45 = .ok (.iload_n 3, 1) := by decide +kernel
theorem dX11_lies_46 : decode cX11_lies 46 = .ok (.aload_n 0, 1) := by decide +kernel
theorem dX11_lies_47 : decode cX11_lies 47 = .ok (.getfield 58, 3) := by decide +kernel
theorem dX11_lies_50 : decode cX11_lies 50 = .ok (.iload_n 1, 1) := by decide +kernel
theorem dX11_lies_51 : decode cX11_lies 51 = .ok (.iaload, 1) := by decide +kernel
theorem dX11_lies_52 : decode cX11_lies 52 = .ok (.irem, 1) := by decide +kernel
theorem dX11_lies_53 : decode cX11_lies 53 = .ok (.putfield 225, 3) := by decide +kernel
theorem dX11_lies_56 : decode cX11_lies 56 = .ok (.aload_n 0, 1) := by decide +kernel
theorem dX11_lies_57 : decode cX11_lies 57 = .ok (.iload 4, 2) := by decide +kernel
theorem dX11_lies_59 : decode cX11_lies 59 = .ok (.aload_n 0, 1) := by decide +kernel
theorem dX11_lies_60 : decode cX11_lies 60 = .ok (.getfield 61, 3) := by decide +kernel
theorem dX11_lies_63 : decode cX11_lies 63 = .ok (.iload_n 1, 1) := by decide +kernel
theorem dX11_lies_64 : decode cX11_lies 64 = .ok (.iaload, 1) := by decide +kernel
theorem dX11_lies_65 : decode cX11_lies 65 = .ok (.irem, 1) := by decide +kernel
theorem dX11_lies_66 : decode cX11_lies 66 = .ok (.putfield 228, 3) := by decide +kernel
theorem dX11_lies_69 : decode cX11_lies 69 = .ok (.return_, 1) := by decide +kernel
theorem dX11_partOf_0 : decode cX11_partOf 0 = .ok (.iload_n 2, 1) := by decide +kernel
theorem dX11_partOf_1 : decode cX11_partOf 1 = .ok (.iconst 4, 1) := by decide +kernel
theorem dX11_partOf_2 : decode cX11_partOf 2 = .ok (.idiv, 1) := by decide +kernel
theorem dX11_partOf_3 : decode cX11_partOf 3 = .ok (.ifCond .ne 18, 3) := by decide +kernel
theorem dX11_partOf_6 : decode cX11_partOf 6 = .ok (.aload_n 0, 1) := by decide +kernel
theorem dX11_partOf_7 : decode cX11_partOf 7 = .ok (.getfield 58, 3) := by decide +kernel
theorem dX11_partOf_10 : decode cX11_partOf 10 = .ok (.iload_n 1, 1) := by decide +kernel
theorem dX11_partOf_11 : decode cX11_partOf 11 = .ok (.iaload, 1) := by decide +kernel
theorem dX11_partOf_12 : decode cX11_partOf 12 = .ok (.aload_n 0, 1) := by decide +kernel
theorem dX11_partOf_13 : decode cX11_partOf 13 = .ok (.getfield 222, 3) := by decide +kernel
theorem dX11_partOf_16 : decode cX11_partOf 16 = .ok (.isub, 1) := by decide +kernel
theorem dX11_partOf_17 : decode cX11_partOf 17 = .ok (.i2l, 1) := by decide +kernel
theorem dX11_partOf_18 : decode cX11_partOf 18 = .ok (.goto 8, 3) := by decide +kernel
theorem dX11_partOf_21 : decode cX11_partOf 21 = .ok (.aload_n 0, 1) := by decide +kernel
theorem dX11_partOf_22 : decode cX11_partOf 22 = .ok (.getfield 222, 3) := by decide +kernel
theorem dX11_partOf_25 : decode cX11_partOf 25 = .ok (.i2l, 1) := by decide +kernel
theorem dX11_partOf_26 : decode cX11_partOf 26 = .ok (.lstore_n 3, 1) := by decide +kernel
theorem dX11_partOf_27 : decode cX11_partOf 27 = .ok (.iload_n 2, 1) := by decide +kernel
theorem dX11_partOf_28 : decode cX11_partOf 28 = .ok (.iconst 2, 1) := by decide +kernel
theorem dX11_partOf_29 : decode cX11_partOf 29 = .ok (.idiv, 1) := by decide +kernel
theorem dX11_partOf_30 : decode cX11_partOf 30 = .ok (.iconst 2, 1) := by decide +kernel
theorem dX11_partOf_31 : decode cX11_partOf 31 = .ok (.irem, 1) := by decide +kernel
theorem dX11_partOf_32 : decode cX11_partOf 32 = .ok (.ifCond .ne 18, 3) := by decide +kernel
theorem dX11_partOf_35 : decode cX11_partOf 35 = .ok (.aload_n 0, 1) := by decide +kernel
theorem dX11_partOf_36 : decode cX11_partOf 36 = .ok (.getfield 58, 3) := by decide +kernel
theorem dX11_partOf_39 : decode cX11_partOf 39 = .ok (.iload_n 1, 1) := by decide +kernel
theorem dX11_partOf_40 : decode cX11_partOf 40 = .ok (.iaload, 1) := by decide +kernel
theorem dX11_partOf_41 : decode cX11_partOf 41 = .ok (.aload_n 0, 1) := by decide +kernel
theorem dX11_partOf_42 : decode cX11_partOf 42 = .ok (.getfield 225, 3) := by decide +kernel
theorem dX11_partOf_45 : decode cX11_partOf 45 = .ok (.isub, 1) := by decide +kernel
theorem dX11_partOf_46 : decode cX11_partOf 46 = .ok (.i2l, 1) := by decide +kernel
theorem dX11_partOf_47 : decode cX11_partOf 47 = .ok (.goto 8, 3) := by decide +kernel
theorem dX11_partOf_50 : decode cX11_partOf 50 = .ok (.aload_n 0, 1) := by decide +kernel
theorem dX11_partOf_51 : decode cX11_partOf 51 = .ok (.getfield 225, 3) := by decide +kernel
theorem dX11_partOf_54 : decode cX11_partOf 54 = .ok (.i2l, 1) := by decide +kernel
theorem dX11_partOf_55 : decode cX11_partOf 55 = .ok (.lstore 5, 2) := by decide +kernel
theorem dX11_partOf_57 : decode cX11_partOf 57 = .ok (.lload_n 3, 1) := by decide +kernel
theorem dX11_partOf_58 : decode cX11_partOf 58 = .ok (.lload 5, 2) := by decide +kernel
theorem dX11_partOf_60 : decode cX11_partOf 60 = .ok (.lmul, 1) := by decide +kernel
theorem dX11_partOf_61 : decode cX11_partOf 61 = .ok (.iload_n 2, 1) := by decide +kernel
theorem dX11_partOf_62 : decode cX11_partOf 62 = .ok (.iconst 2, 1) := by decide +kernel
theorem dX11_partOf_63 : decode cX11_partOf 63 = .ok (.irem, 1) := by decide +kernel
theorem dX11_partOf_64 : decode cX11_partOf 64 = .ok (.ifCond .ne 17, 3) := by decide +kernel
theorem dX11_partOf_67 : decode cX11_partOf 67 = .ok (.aload_n 0, 1) := by decide +kernel
theorem dX11_partOf_68 : decode cX11_partOf 68 = .ok (.getfield 61, 3) := by decide +kernel
theorem dX11_partOf_71 : decode cX11_partOf 71 = .ok (.iload_n 1, 1) := by decide +kernel
theorem dX11_partOf_72 : decode cX11_partOf 72 = .ok (.iaload, 1) := by decide +kernel
theorem dX11_partOf_73 : decode cX11_partOf 73 = .ok (.aload_n 0, 1) := by decide +kernel
theorem dX11_partOf_74 : decode cX11_partOf 74 = .ok (.getfield 228, 3) := by decide +kernel
theorem dX11_partOf_77 : decode cX11_partOf 77 = .ok (.isub, 1) := by decide +kernel
theorem dX11_partOf_78 : decode cX11_partOf 78 = .ok (.goto 7, 3) := by decide +kernel
theorem dX11_partOf_81 : decode cX11_partOf 81 = .ok (.aload_n 0, 1) := by decide +kernel
theorem dX11_partOf_82 : decode cX11_partOf 82 = .ok (.getfield 228, 3) := by decide +kernel
theorem dX11_partOf_85 : decode cX11_partOf 85 = .ok (.i2l, 1) := by decide +kernel
theorem dX11_partOf_86 : decode cX11_partOf 86 = .ok (.lmul, 1) := by decide +kernel
theorem dX11_partOf_87 : decode cX11_partOf 87 = .ok (.lreturn, 1) := by decide +kernel
