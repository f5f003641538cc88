theorem dX10_feed_0 : decode cX10_feed 0 = .ok (.aload_n 0, 1) := by decide +kernel
theorem dX10_feed_1 : decode cX10_feed 1 = .ok (.getfield 33, 3) := by decide +kernel
theorem dX10_feed_4 : decode cX10_feed 4 = .ok (.getfield 93, 3) := by decide +kernel
theorem dX10_feed_7 : decode cX10_feed 7 = .ok (.bipush 20, 2) := by decide +kernel
theorem dX10_feed_9 : decode cX10_feed 9 = .ok (.iadd, 1) := by decide +kernel
theorem dX10_feed_10 : decode cX10_feed 10 = .ok (.sipush 700, 3) := by decide +kernel
theorem dX10_feed_13 : decode cX10_feed 13 = .ok (.if_icmp .le 5, 3) := by decide +kernel
theorem dX10_feed_16 : decode cX10_feed 16 = .ok (.iconst (-1), 1) := by decide +kernel
theorem dX10_feed_17 : decode cX10_feed 17 = .ok (.ireturn, 1) := by decide +kernel
theorem dX10_feed_18 : decode cX10_feed 18 = .ok (.aload_n 0, 1) := by decide +kernel
theorem dX10_feed_19 : decode cX10_feed 19 = .ok (.getfield 33, 3) := by decide +kernel
theorem dX10_feed_22 : decode cX10_feed 22 = .ok (.iload_n 1, 1) := by decide +kernel
theorem dX10_feed_23 : decode cX10_feed 23 = .ok (.invokevirtual 97, 3) := by decide +kernel
theorem dX10_feed_26 : decode cX10_feed 26 = .ok (.aload_n 0, 1) := by decide +kernel
theorem dX10_feed_27 : decode cX10_feed 27 = .ok (.getfield 33, 3) := by decide +kernel
theorem dX10_feed_30 : decode cX10_feed 30 = .ok (.iload_n 2, 1) := by decide +kernel
theorem dX10_feed_31 : decode cX10_feed 31 = .ok (.invokevirtual 97, 3) := by decide +kernel
theorem dX10_feed_34 : decode cX10_feed 34 = .ok (.aload_n 0, 1) := by decide +kernel
theorem dX10_feed_35 : decode cX10_feed 35 = .ok (.getfield 33, 3) := by decide +kernel
theorem dX10_feed_38 : decode cX10_feed 38 = .ok (.iload_n 3, 1) := by decide +kernel
theorem dX10_feed_39 : decode cX10_feed 39 = .ok (.invokevirtual 97, 3) := by decide +kernel
theorem dX10_feed_42 : decode cX10_feed 42 = .ok (.aload_n 0, 1) := by decide +kernel
theorem dX10_feed_43 : decode cX10_feed 43 = .ok (.getfield 33, 3) := by decide +kernel
theorem dX10_feed_46 : decode cX10_feed 46 = .ok (.iload 4, 2) := by decide +kernel
theorem dX10_feed_48 : decode cX10_feed 48 = .ok (.invokevirtual 97, 3) := by decide +kernel
theorem dX10_feed_51 : decode cX10_feed 51 = .ok (.aload_n 0, 1) := by decide +kernel
theorem dX10_feed_52 : decode cX10_feed 52 = .ok (.getfield 33, 3) := by decide +kernel
theorem dX10_feed_55 : decode cX10_feed 55 = .ok (.iload 5, 2) := by decide +kernel
theorem dX10_feed_57 : decode cX10_feed 57 = .ok (.invokevirtual 97, 3) := by decide +kernel
theorem dX10_feed_60 : decode cX10_feed 60 = .ok (.aload_n 0, 1) := by decide +kernel
theorem dX10_feed_61 : decode cX10_feed 61 = .ok (.getfield 33, 3) := by decide +kernel
theorem dX10_feed_64 : decode cX10_feed 64 = .ok (.getfield 93, 3) := by decide +kernel
theorem dX10_feed_67 : decode cX10_feed 67 = .ok (.ireturn, 1) := by decide +kernel
theorem dX10_text_0 : decode cX10_text 0 = .ok (.aload_n 0, 1) := by decide +kernel
theorem dX10_text_1 : decode cX10_text 1 = .ok (.iload_n 1, 1) := by decide +kernel
theorem dX10_text_2 : decode cX10_text 2 = .ok (.iconst 0, 1) := by decide +kernel
theorem dX10_text_3 : decode cX10_text 3 = .ok (.aload_n 0, 1) := by decide +kernel
theorem dX10_text_4 : decode cX10_text 4 = .ok (.getfield 33, 3) := by decide +kernel
theorem dX10_text_7 : decode cX10_text 7 = .ok (.getfield 93, 3) := by decide +kernel
theorem dX10_text_10 : decode cX10_text 10 = .ok (.invokestatic 101, 3) := by decide +kernel
theorem dX10_text_13 : decode cX10_text 13 = .ok (.ifCond .eq 7, 3) := by decide +kernel
theorem dX10_text_16 : decode cX10_text 16 = .ok (.iconst 0, 1) := by decide +kernel
theorem dX10_text_17 : decode cX10_text 17 = .ok (.goto 4, 3) := by decide +kernel
theorem dX10_text_20 : decode cX10_text 20 = .ok (.iconst 2, 1) := by decide +kernel
theorem dX10_text_21 : decode cX10_text 21 = .ok (.invokevirtual 105, 3) := by decide +kernel
theorem dX10_text_24 : decode cX10_text 24 = .ok (.ifCond .eq 5, 3) := by decide +kernel
theorem dX10_text_27 : decode cX10_text 27 = .ok (.iconst (-1), 1) := by decide +kernel
theorem dX10_text_28 : decode cX10_text 28 = .ok (.ireturn, 1) := by decide +kernel
theorem dX10_text_29 : decode cX10_text 29 = .ok (.aload_n 0, 1) := by decide +kernel
theorem dX10_text_30 : decode cX10_text 30 = .ok (.aload_n 0, 1) := by decide +kernel
theorem dX10_text_31 : decode cX10_text 31 = .ok (.getfield 40, 3) := by decide +kernel
theorem dX10_text_34 : decode cX10_text 34 = .ok (.aload_n 0, 1) := by decide +kernel
theorem dX10_text_35 : decode cX10_text 35 = .ok (.getfield 33, 3) := by decide +kernel
theorem dX10_text_38 : decode cX10_text 38 = .ok (.iload_n 1, 1) := by decide +kernel
theorem dX10_text_39 : decode cX10_text 39 = .ok (.invokevirtual 109, 3) := by decide +kernel
theorem dX10_text_42 : decode cX10_text 42 = .ok (.putfield 113, 3) := by decide +kernel
theorem dX10_text_45 : decode cX10_text 45 = .ok (.aload_n 0, 1) := by decide +kernel
theorem dX10_text_46 : decode cX10_text 46 = .ok (.aload_n 0, 1) := by decide +kernel
theorem dX10_text_47 : decode cX10_text 47 = .ok (.getfield 33, 3) := by decide +kernel
theorem dX10_text_50 : decode cX10_text 50 = .ok (.getfield 116, 3) := by decide +kernel
theorem dX10_text_53 : decode cX10_text 53 = .ok (.putfield 119, 3) := by decide +kernel
theorem dX10_text_56 : decode cX10_text 56 = .ok (.aload_n 0, 1) := by decide +kernel
theorem dX10_text_57 : decode cX10_text 57 = .ok (.getfield 33, 3) := by decide +kernel
theorem dX10_text_60 : decode cX10_text 60 = .ok (.iconst 0, 1) := by decide +kernel
theorem dX10_text_61 : decode cX10_text 61 = .ok (.putfield 93, 3) := by decide +kernel
theorem dX10_text_64 : decode cX10_text 64 = .ok (.aload_n 0, 1) := by decide +kernel
theorem dX10_text_65 : decode cX10_text 65 = .ok (.aload_n 0, 1) := by decide +kernel
theorem dX10_text_66 : decode cX10_text 66 = .ok (.getfield 113, 3) := by decide +kernel
theorem dX10_text_69 : decode cX10_text 69 = .ok (.ifCond .ne 7, 3) := by decide +kernel
theorem dX10_text_72 : decode cX10_text 72 = .ok (.iconst 0, 1) := by decide +kernel
theorem dX10_text_73 : decode cX10_text 73 = .ok (.goto 4, 3) := by decide +kernel
theorem dX10_text_76 : decode cX10_text 76 = .ok (.iconst 4, 1) := by decide +kernel
theorem dX10_text_77 : decode cX10_text 77 = .ok (.invokevirtual 105, 3) := by decide +kernel
theorem dX10_text_80 : decode cX10_text 80 = .ok (.ifCond .eq 5, 3) := by decide +kernel
theorem dX10_text_83 : decode cX10_text 83 = .ok (.iconst (-1), 1) := by decide +kernel
theorem dX10_text_84 : decode cX10_text 84 = .ok (.ireturn, 1) := by decide +kernel
theorem dX10_text_85 : decode cX10_text 85 = .ok (.aload_n 0, 1) := by decide +kernel
theorem dX10_text_86 : decode cX10_text 86 = .ok (.invokevirtual 122, 3) := by decide +kernel
theorem dX10_text_89 : decode cX10_text 89 = .ok (.aload_n 0, 1) := by decide +kernel
theorem dX10_text_90 : decode cX10_text 90 = .ok (.getfield 47, 3) := by decide +kernel
theorem dX10_text_93 : decode cX10_text 93 = .ok (.getfield 125, 3) := by decide +kernel
theorem dX10_text_96 : decode cX10_text 96 = .ok (.ireturn, 1) := by decide +kernel
theorem dX10_fault_0 : decode cX10_fault 0 = .ok (.aload_n 0, 1) := by decide +kernel
theorem dX10_fault_1 : decode cX10_fault 1 = .ok (.getfield 113, 3) := by decide +kernel
theorem dX10_fault_4 : decode cX10_fault 4 = .ok (.ireturn, 1) := by decide +kernel
theorem dX10_where_0 : decode cX10_where 0 = .ok (.aload_n 0, 1) := by decide +kernel
theorem dX10_where_1 : decode cX10_where 1 = .ok (.getfield 128, 3) := by decide +kernel
theorem dX10_where_4 : decode cX10_where 4 = .ok (.iconst 4, 1) := by decide +kernel
theorem dX10_where_5 : decode cX10_where 5 = .ok (.if_icmp .ne 10, 3) := by decide +kernel
theorem dX10_where_8 : decode cX10_where 8 = .ok (.aload_n 0, 1) := by decide +kernel
theorem dX10_where_9 : decode cX10_where 9 = .ok (.getfield 119, 3) := by decide +kernel
theorem dX10_where_12 : decode cX10_where 12 = .ok (.goto 4, 3) := by decide +kernel
theorem dX10_where_15 : decode cX10_where 15 = .ok (.iconst (-1), 1) := by decide +kernel
theorem dX10_where_16 : decode cX10_where 16 = .ok (.ireturn, 1) := by decide +kernel
theorem dX10_takeOver_0 : decode cX10_takeOver 0 = .ok (.aload_n 0, 1) := by decide +kernel
theorem dX10_takeOver_1 : decode cX10_takeOver 1 = .ok (.getfield 47, 3) := by decide +kernel
theorem dX10_takeOver_4 : decode cX10_takeOver 4 = .ok (.aload_n 0, 1) := by decide +kernel
theorem dX10_takeOver_5 : decode cX10_takeOver 5 = .ok (.getfield 40, 3) := by decide +kernel
theorem dX10_takeOver_8 : decode cX10_takeOver 8 = .ok (.getfield 131, 3) := by decide +kernel
theorem dX10_takeOver_11 : decode cX10_takeOver 11 = .ok (.invokevirtual 132, 3) := by decide +kernel
theorem dX10_takeOver_14 : decode cX10_takeOver 14 = .ok (.iconst 0, 1) := by decide +kernel
theorem dX10_takeOver_15 : decode cX10_takeOver 15 = .ok (.istore_n 1, 1) := by decide +kernel
theorem dX10_takeOver_16 : decode cX10_takeOver 16 = .ok (.iload_n 1, 1) := by decide +kernel
theorem dX10_takeOver_17 : decode cX10_takeOver 17 = .ok (.bipush 6, 2) := by decide +kernel
theorem dX10_takeOver_19 : decode cX10_takeOver 19 = .ok (.if_icmp .ge 55, 3) := by decide +kernel
theorem dX10_takeOver_22 : decode cX10_takeOver 22 = .ok (.iload_n 1, 1) := by decide +kernel
theorem dX10_takeOver_23 : decode cX10_takeOver 23 = .ok (.aload_n 0, 1) := by decide +kernel
theorem dX10_takeOver_24 : decode cX10_takeOver 24 = .ok (.getfield 47, 3) := by decide +kernel
theorem dX10_takeOver_27 : decode cX10_takeOver 27 = .ok (.getfield 125, 3) := by decide +kernel
theorem dX10_takeOver_30 : decode cX10_takeOver 30 = .ok (.if_icmp .ge 29, 3) := by decide +kernel
theorem dX10_takeOver_33 : decode cX10_takeOver 33 = .ok (.iload_n 1, 1) := by decide +kernel
theorem dX10_takeOver_34 : decode cX10_takeOver 34 = .ok (.iconst 4, 1) := by decide +kernel
theorem dX10_takeOver_35 : decode cX10_takeOver 35 = .ok (.if_icmp .ge 24, 3) := by decide +kernel
theorem dX10_takeOver_38 : decode cX10_takeOver 38 = .ok (.aload_n 0, 1) := by decide +kernel
theorem dX10_takeOver_39 : decode cX10_takeOver 39 = .ok (.getfield 11, 3) := by decide +kernel
theorem dX10_takeOver_42 : decode cX10_takeOver 42 = .ok (.iload_n 1, 1) := by decide +kernel
theorem dX10_takeOver_43 : decode cX10_takeOver 43 = .ok (.aaload, 1) := by decide +kernel
theorem dX10_takeOver_44 : decode cX10_takeOver 44 = .ok (.aload_n 0, 1) := by decide +kernel
theorem dX10_takeOver_45 : decode cX10_takeOver 45 = .ok (.getfield 40, 3) := by decide +kernel
theorem dX10_takeOver_48 : decode cX10_takeOver 48 = .ok (.getfield 136, 3) := by decide +kernel
theorem dX10_takeOver_51 : decode cX10_takeOver 51 = .ok (.iload_n 1, 1) := by decide +kernel
theorem dX10_takeOver_52 : decode cX10_takeOver 52 = .ok (.aaload, 1) := by decide +kernel
theorem dX10_takeOver_53 : decode cX10_takeOver 53 = .ok (.invokevirtual 137, 3) := by decide +kernel
theorem dX10_takeOver_56 : decode cX10_takeOver 56 = .ok (.goto 12, 3) := by decide +kernel
theorem dX10_takeOver_59 : decode cX10_takeOver 59 = .ok (.aload_n 0, 1) := by decide +kernel
theorem dX10_takeOver_60 : decode cX10_takeOver 60 = .ok (.getfield 11, 3) := by decide +kernel
theorem dX10_takeOver_63 : decode cX10_takeOver 63 = .ok (.iload_n 1, 1) := by decide +kernel
theorem dX10_takeOver_64 : decode cX10_takeOver 64 = .ok (.aaload, 1) := by decide +kernel
theorem dX10_takeOver_65 : decode cX10_takeOver 65 = .ok (.invokevirtual 140, 3) := by decide +kernel
theorem dX10_takeOver_68 : decode cX10_takeOver 68 = .ok (.iinc 1 1, 3) := by decide +kernel
theorem dX10_takeOver_71 : decode cX10_takeOver 71 = .ok (.goto (-55), 3) := by decide +kernel
theorem dX10_takeOver_74 : decode cX10_takeOver 74 = .ok (.aload_n 0, 1) := by decide +kernel
theorem dX10_takeOver_75 : decode cX10_takeOver 75 = .ok (.getfield 54, 3) := by decide +kernel
theorem dX10_takeOver_78 : decode cX10_takeOver 78 = .ok (.invokevirtual 143, 3) := by decide +kernel
theorem dX10_takeOver_81 : decode cX10_takeOver 81 = .ok (.aload_n 0, 1) := by decide +kernel
theorem dX10_takeOver_82 : decode cX10_takeOver 82 = .ok (.getfield 26, 3) := by decide +kernel
theorem dX10_takeOver_85 : decode cX10_takeOver 85 = .ok (.iconst 0, 1) := by decide +kernel
theorem dX10_takeOver_86 : decode cX10_takeOver 86 = .ok (.putfield 144, 3) := by decide +kernel
theorem dX10_takeOver_89 : decode cX10_takeOver 89 = .ok (.return_, 1) := by decide +kernel
theorem dX10_about_0 : decode cX10_about 0 = .ok (.aload_n 0, 1) := by decide +kernel
theorem dX10_about_1 : decode cX10_about 1 = .ok (.aload_n 0, 1) := by decide +kernel
theorem dX10_about_2 : decode cX10_about 2 = .ok (.iload_n 1, 1) := by decide +kernel
theorem dX10_about_3 : decode cX10_about 3 = .ok (.invokevirtual 145, 3) := by decide +kernel
theorem dX10_about_6 : decode cX10_about 6 = .ok (.ifCond .eq 16, 3) := by decide +kernel
theorem dX10_about_9 : decode cX10_about 9 = .ok (.iload_n 2, 1) := by decide +kernel
theorem dX10_about_10 : decode cX10_about 10 = .ok (.iconst 0, 1) := by decide +kernel
theorem dX10_about_11 : decode cX10_about 11 = .ok (.iconst 5, 1) := by decide +kernel
theorem dX10_about_12 : decode cX10_about 12 = .ok (.invokestatic 101, 3) := by decide +kernel
theorem dX10_about_15 : decode cX10_about 15 = .ok (.ifCond .eq 7, 3) := by decide +kernel
theorem dX10_about_18 : decode cX10_about 18 = .ok (.iconst 0, 1) := by decide +kernel
theorem dX10_about_19 : decode cX10_about 19 = .ok (.goto 4, 3) := by decide +kernel
theorem dX10_about_22 : decode cX10_about 22 = .ok (.iconst 1, 1) := by decide +kernel
theorem dX10_about_23 : decode cX10_about 23 = .ok (.invokevirtual 105, 3) := by decide +kernel
theorem dX10_about_26 : decode cX10_about 26 = .ok (.ifCond .eq 5, 3) := by decide +kernel
theorem dX10_about_29 : decode cX10_about 29 = .ok (.iconst (-1), 1) := by decide +kernel
theorem dX10_about_30 : decode cX10_about 30 = .ok (.ireturn, 1) := by decide +kernel
theorem dX10_about_31 : decode cX10_about 31 = .ok (.aload_n 0, 1) := by decide +kernel
theorem dX10_about_32 : decode cX10_about 32 = .ok (.getfield 11, 3) := by decide +kernel
theorem dX10_about_35 : decode cX10_about 35 = .ok (.iload_n 1, 1) := by decide +kernel
theorem dX10_about_36 : decode cX10_about 36 = .ok (.aaload, 1) := by decide +kernel
theorem dX10_about_37 : decode cX10_about 37 = .ok (.astore_n 3, 1) := by decide +kernel
theorem dX10_about_38 : decode cX10_about 38 = .ok (.iload_n 2, 1) := by decide +kernel
theorem dX10_about_39 : decode cX10_about 39 = .ok (.tableswitch 58 0 4 #[33, 38, 43, 48, 53], 33) := by decide +kernel
theorem dX10_about_72 : decode cX10_about 72 = .ok (.aload_n 3, 1) := by decide +kernel
theorem dX10_about_73 : decode cX10_about 73 = .ok (.getfield 148, 3) := by decide +kernel
theorem dX10_about_76 : decode cX10_about 76 = .ok (.ireturn, 1) := by decide +kernel
theorem dX10_about_77 : decode cX10_about 77 = .ok (.aload_n 3, 1) := by decide +kernel
theorem dX10_about_78 : decode cX10_about 78 = .ok (.getfield 151, 3) := by decide +kernel
theorem dX10_about_81 : decode cX10_about 81 = .ok (.ireturn, 1) := by decide +kernel
theorem dX10_about_82 : decode cX10_about 82 = .ok (.aload_n 3, 1) := by decide +kernel
theorem dX10_about_83 : decode cX10_about 83 = .ok (.invokevirtual 154, 3) := by decide +kernel
theorem dX10_about_86 : decode cX10_about 86 = .ok (.ireturn, 1) := by decide +kernel
theorem dX10_about_87 : decode cX10_about 87 = .ok (.aload_n 3, 1) := by decide +kernel
theorem dX10_about_88 : decode cX10_about 88 = .ok (.invokevirtual 158, 3) := by decide +kernel
theorem dX10_about_91 : decode cX10_about 91 = .ok (.ireturn, 1) := by decide +kernel
theorem dX10_about_92 : decode cX10_about 92 = .ok (.aload_n 3, 1) := by decide +kernel
theorem dX10_about_93 : decode cX10_about 93 = .ok (.invokevirtual 161, 3) := by decide +kernel
theorem dX10_about_96 : decode cX10_about 96 = .ok (.ireturn, 1) := by decide +kernel
theorem dX10_about_97 : decode cX10_about 97 = .ok (.aload_n 0, 1) := by decide +kernel
theorem dX10_about_98 : decode cX10_about 98 = .ok (.aload_n 3, 1) := by decide +kernel
theorem dX10_about_99 : decode cX10_about 99 = .ok (.invokevirtual 164, 3) := by decide +kernel
theorem dX10_about_102 : decode cX10_about 102 = .ok (.invokevirtual 168, 3) := by decide +kernel
theorem dX10_about_105 : decode cX10_about 105 = .ok (.ireturn, 1) := by decide +kernel
theorem dX10_dot_0 : decode cX10_dot 0 = .ok (.aload_n 0, 1) := by decide +kernel
theorem dX10_dot_1 : decode cX10_dot 1 = .ok (.aload_n 0, 1) := by decide +kernel
theorem dX10_dot_2 : decode cX10_dot 2 = .ok (.iload_n 1, 1) := by decide +kernel
theorem dX10_dot_3 : decode cX10_dot 3 = .ok (.iload_n 2, 1) := by decide +kernel
theorem dX10_dot_4 : decode cX10_dot 4 = .ok (.iload_n 3, 1) := by decide +kernel
theorem dX10_dot_5 : decode cX10_dot 5 = .ok (.invokevirtual 171, 3) := by decide +kernel
theorem dX10_dot_8 : decode cX10_dot 8 = .ok (.ifCond .eq 7, 3) := by decide +kernel
theorem dX10_dot_11 : decode cX10_dot 11 = .ok (.iconst 0, 1) := by decide +kernel
theorem dX10_dot_12 : decode cX10_dot 12 = .ok (.goto 4, 3) := by decide +kernel
theorem dX10_dot_15 : decode cX10_dot 15 = .ok (.iconst 1, 1) := by decide +kernel
theorem dX10_dot_16 : decode cX10_dot 16 = .ok (.invokevirtual 105, 3) := by decide +kernel
theorem dX10_dot_19 : decode cX10_dot 19 = .ok (.ifCond .eq 5, 3) := by decide +kernel
theorem dX10_dot_22 : decode cX10_dot 22 = .ok (.iconst (-1), 1) := by decide +kernel
theorem dX10_dot_23 : decode cX10_dot 23 = .ok (.ireturn, 1) := by decide +kernel
theorem dX10_dot_24 : decode cX10_dot 24 = .ok (.aload_n 0, 1) := by decide +kernel
theorem dX10_dot_25 : decode cX10_dot 25 = .ok (.getfield 11, 3) := by decide +kernel
theorem dX10_dot_28 : decode cX10_dot 28 = .ok (.iload_n 1, 1) := by decide +kernel
theorem dX10_dot_29 : decode cX10_dot 29 = .ok (.aaload, 1) := by decide +kernel
theorem dX10_dot_30 : decode cX10_dot 30 = .ok (.iload_n 2, 1) := by decide +kernel
theorem dX10_dot_31 : decode cX10_dot 31 = .ok (.iload_n 3, 1) := by decide +kernel
theorem dX10_dot_32 : decode cX10_dot 32 = .ok (.invokevirtual 174, 3) := by decide +kernel
theorem dX10_dot_35 : decode cX10_dot 35 = .ok (.ireturn, 1) := by decide +kernel
theorem dX10_often_0 : decode cX10_often 0 = .ok (.aload_n 0, 1) := by decide +kernel
theorem dX10_often_1 : decode cX10_often 1 = .ok (.aload_n 0, 1) := by decide +kernel
theorem dX10_often_2 : decode cX10_often 2 = .ok (.iload_n 1, 1) := by decide +kernel
theorem dX10_often_3 : decode cX10_often 3 = .ok (.invokevirtual 145, 3) := by decide +kernel
theorem dX10_often_6 : decode cX10_often 6 = .ok (.ifCond .ne 7, 3) := by decide +kernel
theorem dX10_often_9 : decode cX10_often 9 = .ok (.iconst 1, 1) := by decide +kernel
theorem dX10_often_10 : decode cX10_often 10 = .ok (.goto 15, 3) := by decide +kernel
theorem dX10_often_13 : decode cX10_often 13 = .ok (.iload_n 2, 1) := by decide +kernel
theorem dX10_often_14 : decode cX10_often 14 = .ok (.invokestatic 178, 3) := by decide +kernel
theorem dX10_often_17 : decode cX10_often 17 = .ok (.ifCond .ne 7, 3) := by decide +kernel
theorem dX10_often_20 : decode cX10_often 20 = .ok (.iconst 2, 1) := by decide +kernel
theorem dX10_often_21 : decode cX10_often 21 = .ok (.goto 4, 3) := by decide +kernel
theorem dX10_often_24 : decode cX10_often 24 = .ok (.iconst 0, 1) := by decide +kernel
theorem dX10_often_25 : decode cX10_often 25 = .ok (.invokevirtual 105, 3) := by decide +kernel
theorem dX10_often_28 : decode cX10_often 28 = .ok (.ifCond .eq 5, 3) := by decide +kernel
theorem dX10_often_31 : decode cX10_often 31 = .ok (.iconst (-1), 1) := by decide +kernel
theorem dX10_often_32 : decode cX10_often 32 = .ok (.ireturn, 1) := by decide +kernel
theorem dX10_often_33 : decode cX10_often 33 = .ok (.aload_n 0, 1) := by decide +kernel
theorem dX10_often_34 : decode cX10_often 34 = .ok (.aload_n 0, 1) := by decide +kernel
theorem dX10_often_35 : decode cX10_often 35 = .ok (.getfield 11, 3) := by decide +kernel
theorem dX10_often_38 : decode cX10_often 38 = .ok (.iload_n 1, 1) := by decide +kernel
theorem dX10_often_39 : decode cX10_often 39 = .ok (.aaload, 1) := by decide +kernel
theorem dX10_often_40 : decode cX10_often 40 = .ok (.invokevirtual 164, 3) := by decide +kernel
theorem dX10_often_43 : decode cX10_often 43 = .ok (.getfield 181, 3) := by decide +kernel
theorem dX10_often_46 : decode cX10_often 46 = .ok (.iload_n 2, 1) := by decide +kernel
theorem dX10_often_47 : decode cX10_often 47 = .ok (.iaload, 1) := by decide +kernel
theorem dX10_often_48 : decode cX10_often 48 = .ok (.ireturn, 1) := by decide +kernel
theorem dX10_set_0 : decode cX10_set 0 = .ok (.aload_n 0, 1) := by decide +kernel
theorem dX10_set_1 : decode cX10_set 1 = .ok (.aload_n 0, 1) := by decide +kernel
theorem dX10_set_2 : decode cX10_set 2 = .ok (.iload_n 1, 1) := by decide +kernel
theorem dX10_set_3 : decode cX10_set 3 = .ok (.iload_n 2, 1) := by decide +kernel
theorem dX10_set_4 : decode cX10_set 4 = .ok (.iload_n 3, 1) := by decide +kernel
theorem dX10_set_5 : decode cX10_set 5 = .ok (.invokevirtual 171, 3) := by decide +kernel
theorem dX10_set_8 : decode cX10_set 8 = .ok (.ifCond .ne 7, 3) := by decide +kernel
theorem dX10_set_11 : decode cX10_set 11 = .ok (.iconst 1, 1) := by decide +kernel
theorem dX10_set_12 : decode cX10_set 12 = .ok (.goto 16, 3) := by decide +kernel
theorem dX10_set_15 : decode cX10_set 15 = .ok (.iload 4, 2) := by decide +kernel
theorem dX10_set_17 : decode cX10_set 17 = .ok (.invokestatic 178, 3) := by decide +kernel
theorem dX10_set_20 : decode cX10_set 20 = .ok (.ifCond .ne 7, 3) := by decide +kernel
theorem dX10_set_23 : decode cX10_set 23 = .ok (.iconst 2, 1) := by decide +kernel
theorem dX10_set_24 : decode cX10_set 24 = .ok (.goto 4, 3) := by decide +kernel
theorem dX10_set_27 : decode cX10_set 27 = .ok (.iconst 0, 1) := by decide +kernel
theorem dX10_set_28 : decode cX10_set 28 = .ok (.invokevirtual 105, 3) := by decide +kernel
theorem dX10_set_31 : decode cX10_set 31 = .ok (.ifCond .eq 5, 3) := by decide +kernel
theorem dX10_set_34 : decode cX10_set 34 = .ok (.iconst (-1), 1) := by decide +kernel
theorem dX10_set_35 : decode cX10_set 35 = .ok (.ireturn, 1) := by decide +kernel
theorem dX10_set_36 : decode cX10_set 36 = .ok (.aload_n 0, 1) := by decide +kernel
theorem dX10_set_37 : decode cX10_set 37 = .ok (.getfield 11, 3) := by decide +kernel
theorem dX10_set_40 : decode cX10_set 40 = .ok (.iload_n 1, 1) := by decide +kernel
theorem dX10_set_41 : decode cX10_set 41 = .ok (.aaload, 1) := by decide +kernel
theorem dX10_set_42 : decode cX10_set 42 = .ok (.iload_n 2, 1) := by decide +kernel
theorem dX10_set_43 : decode cX10_set 43 = .ok (.iload_n 3, 1) := by decide +kernel
theorem dX10_set_44 : decode cX10_set 44 = .ok (.invokevirtual 174, 3) := by decide +kernel
theorem dX10_set_47 : decode cX10_set 47 = .ok (.istore 5, 2) := by decide +kernel
theorem dX10_set_49 : decode cX10_set 49 = .ok (.aload_n 0, 1) := by decide +kernel
theorem dX10_set_50 : decode cX10_set 50 = .ok (.getfield 16, 3) := by decide +kernel
theorem dX10_set_53 : decode cX10_set 53 = .ok (.aload_n 0, 1) := by decide +kernel
theorem dX10_set_54 : decode cX10_set 54 = .ok (.getfield 11, 3) := by decide +kernel
theorem dX10_set_57 : decode cX10_set 57 = .ok (.iload_n 1, 1) := by decide +kernel
theorem dX10_set_58 : decode cX10_set 58 = .ok (.aaload, 1) := by decide +kernel
theorem dX10_set_59 : decode cX10_set 59 = .ok (.invokevirtual 137, 3) := by decide +kernel
theorem dX10_set_62 : decode cX10_set 62 = .ok (.aload_n 0, 1) := by decide +kernel
theorem dX10_set_63 : decode cX10_set 63 = .ok (.getfield 16, 3) := by decide +kernel
theorem dX10_set_66 : decode cX10_set 66 = .ok (.iload_n 2, 1) := by decide +kernel
theorem dX10_set_67 : decode cX10_set 67 = .ok (.iload_n 3, 1) := by decide +kernel
theorem dX10_set_68 : decode cX10_set 68 = .ok (.iload 4, 2) := by decide +kernel
theorem dX10_set_70 : decode cX10_set 70 = .ok (.invokevirtual 184, 3) := by decide +kernel
theorem dX10_set_73 : decode cX10_set 73 = .ok (.aload_n 0, 1) := by decide +kernel
theorem dX10_set_74 : decode cX10_set 74 = .ok (.iload_n 1, 1) := by decide +kernel
theorem dX10_set_75 : decode cX10_set 75 = .ok (.invokevirtual 188, 3) := by decide +kernel
theorem dX10_set_78 : decode cX10_set 78 = .ok (.iload 5, 2) := by decide +kernel
theorem dX10_set_80 : decode cX10_set 80 = .ok (.ireturn, 1) := by decide +kernel
theorem dX10_fill_0 : decode cX10_fill 0 = .ok (.iload_n 2, 1) := by decide +kernel
theorem dX10_fill_1 : decode cX10_fill 1 = .ok (.iconst 1, 1) := by decide +kernel
theorem dX10_fill_2 : decode cX10_fill 2 = .ok (.bipush 16, 2) := by decide +kernel
theorem dX10_fill_4 : decode cX10_fill 4 = .ok (.invokestatic 101, 3) := by decide +kernel
theorem dX10_fill_7 : decode cX10_fill 7 = .ok (.ifCond .eq 17, 3) := by decide +kernel
theorem dX10_fill_10 : decode cX10_fill 10 = .ok (.iload_n 3, 1) := by decide +kernel
theorem dX10_fill_11 : decode cX10_fill 11 = .ok (.iconst 1, 1) := by decide +kernel
theorem dX10_fill_12 : decode cX10_fill 12 = .ok (.bipush 12, 2) := by decide +kernel
theorem dX10_fill_14 : decode cX10_fill 14 = .ok (.invokestatic 101, 3) := by decide +kernel
theorem dX10_fill_17 : decode cX10_fill 17 = .ok (.ifCond .eq 7, 3) := by decide +kernel
theorem dX10_fill_20 : decode cX10_fill 20 = .ok (.iconst 1, 1) := by decide +kernel
theorem dX10_fill_21 : decode cX10_fill 21 = .ok (.goto 4, 3) := by decide +kernel
theorem dX10_fill_24 : decode cX10_fill 24 = .ok (.iconst 0, 1) := by decide +kernel
theorem dX10_fill_25 : decode cX10_fill 25 = .ok (.istore 5, 2) := by decide +kernel
theorem dX10_fill_27 : decode cX10_fill 27 = .ok (.aload_n 0, 1) := by decide +kernel
theorem dX10_fill_28 : decode cX10_fill 28 = .ok (.iload_n 1, 1) := by decide +kernel
theorem dX10_fill_29 : decode cX10_fill 29 = .ok (.invokestatic 191, 3) := by decide +kernel
theorem dX10_fill_32 : decode cX10_fill 32 = .ok (.ifCond .ne 7, 3) := by decide +kernel
theorem dX10_fill_35 : decode cX10_fill 35 = .ok (.iconst 1, 1) := by decide +kernel
theorem dX10_fill_36 : decode cX10_fill 36 = .ok (.goto 21, 3) := by decide +kernel
theorem dX10_fill_39 : decode cX10_fill 39 = .ok (.iload 5, 2) := by decide +kernel
theorem dX10_fill_41 : decode cX10_fill 41 = .ok (.ifCond .eq 11, 3) := by decide +kernel
theorem dX10_fill_44 : decode cX10_fill 44 = .ok (.iload 4, 2) := by decide +kernel
theorem dX10_fill_46 : decode cX10_fill 46 = .ok (.invokestatic 178, 3) := by decide +kernel
theorem dX10_fill_49 : decode cX10_fill 49 = .ok (.ifCond .ne 7, 3) := by decide +kernel
theorem dX10_fill_52 : decode cX10_fill 52 = .ok (.iconst 2, 1) := by decide +kernel
theorem dX10_fill_53 : decode cX10_fill 53 = .ok (.goto 4, 3) := by decide +kernel
theorem dX10_fill_56 : decode cX10_fill 56 = .ok (.iconst 0, 1) := by decide +kernel
theorem dX10_fill_57 : decode cX10_fill 57 = .ok (.invokevirtual 105, 3) := by decide +kernel
theorem dX10_fill_60 : decode cX10_fill 60 = .ok (.ifCond .eq 5, 3) := by decide +kernel
theorem dX10_fill_63 : decode cX10_fill 63 = .ok (.iconst 0, 1) := by decide +kernel
theorem dX10_fill_64 : decode cX10_fill 64 = .ok (.ireturn, 1) := by decide +kernel
theorem dX10_fill_65 : decode cX10_fill 65 = .ok (.aload_n 0, 1) := by decide +kernel
theorem dX10_fill_66 : decode cX10_fill 66 = .ok (.getfield 16, 3) := by decide +kernel
theorem dX10_fill_69 : decode cX10_fill 69 = .ok (.iload_n 2, 1) := by decide +kernel
theorem dX10_fill_70 : decode cX10_fill 70 = .ok (.iload_n 3, 1) := by decide +kernel
theorem dX10_fill_71 : decode cX10_fill 71 = .ok (.invokevirtual 194, 3) := by decide +kernel
theorem dX10_fill_74 : decode cX10_fill 74 = .ok (.aload_n 0, 1) := by decide +kernel
theorem dX10_fill_75 : decode cX10_fill 75 = .ok (.getfield 16, 3) := by decide +kernel
theorem dX10_fill_78 : decode cX10_fill 78 = .ok (.getfield 198, 3) := by decide +kernel
theorem dX10_fill_81 : decode cX10_fill 81 = .ok (.iload 4, 2) := by decide +kernel
theorem dX10_fill_83 : decode cX10_fill 83 = .ok (.invokestatic 201, 3) := by decide +kernel
theorem dX10_fill_86 : decode cX10_fill 86 = .ok (.aload_n 0, 1) := by decide +kernel
theorem dX10_fill_87 : decode cX10_fill 87 = .ok (.iload_n 1, 1) := by decide +kernel
theorem dX10_fill_88 : decode cX10_fill 88 = .ok (.invokevirtual 188, 3) := by decide +kernel
theorem dX10_fill_91 : decode cX10_fill 91 = .ok (.iconst 1, 1) := by decide +kernel
theorem dX10_fill_92 : decode cX10_fill 92 = .ok (.ireturn, 1) := by decide +kernel
theorem dX10_turn_0 : decode cX10_turn 0 = .ok (.aload_n 0, 1) := by decide +kernel
theorem dX10_turn_1 : decode cX10_turn 1 = .ok (.iload_n 1, 1) := by decide +kernel
theorem dX10_turn_2 : decode cX10_turn 2 = .ok (.invokestatic 191, 3) := by decide +kernel
theorem dX10_turn_5 : decode cX10_turn 5 = .ok (.ifCond .eq 20, 3) := by decide +kernel
theorem dX10_turn_8 : decode cX10_turn 8 = .ok (.aload_n 0, 1) := by decide +kernel
theorem dX10_turn_9 : decode cX10_turn 9 = .ok (.iload_n 2, 1) := by decide +kernel
theorem dX10_turn_10 : decode cX10_turn 10 = .ok (.invokevirtual 145, 3) := by decide +kernel
theorem dX10_turn_13 : decode cX10_turn 13 = .ok (.ifCond .eq 12, 3) := by decide +kernel
theorem dX10_turn_16 : decode cX10_turn 16 = .ok (.iload_n 3, 1) := by decide +kernel
theorem dX10_turn_17 : decode cX10_turn 17 = .ok (.iconst 0, 1) := by decide +kernel
theorem dX10_turn_18 : decode cX10_turn 18 = .ok (.iconst 4, 1) := by decide +kernel
theorem dX10_turn_19 : decode cX10_turn 19 = .ok (.invokestatic 101, 3) := by decide +kernel
theorem dX10_turn_22 : decode cX10_turn 22 = .ok (.ifCond .ne 7, 3) := by decide +kernel
theorem dX10_turn_25 : decode cX10_turn 25 = .ok (.iconst 1, 1) := by decide +kernel
theorem dX10_turn_26 : decode cX10_turn 26 = .ok (.goto 27, 3) := by decide +kernel
theorem dX10_turn_29 : decode cX10_turn 29 = .ok (.iload_n 3, 1) := by decide +kernel
theorem dX10_turn_30 : decode cX10_turn 30 = .ok (.iconst 3, 1) := by decide +kernel
theorem dX10_turn_31 : decode cX10_turn 31 = .ok (.if_icmp .ne 21, 3) := by decide +kernel
theorem dX10_turn_34 : decode cX10_turn 34 = .ok (.aload_n 0, 1) := by decide +kernel
theorem dX10_turn_35 : decode cX10_turn 35 = .ok (.getfield 11, 3) := by decide +kernel
theorem dX10_turn_38 : decode cX10_turn 38 = .ok (.iload_n 2, 1) := by decide +kernel
theorem dX10_turn_39 : decode cX10_turn 39 = .ok (.aaload, 1) := by decide +kernel
theorem dX10_turn_40 : decode cX10_turn 40 = .ok (.getfield 148, 3) := by decide +kernel
theorem dX10_turn_43 : decode cX10_turn 43 = .ok (.bipush 12, 2) := by decide +kernel
theorem dX10_turn_45 : decode cX10_turn 45 = .ok (.if_icmp .le 7, 3) := by decide +kernel
theorem dX10_turn_48 : decode cX10_turn 48 = .ok (.iconst 3, 1) := by decide +kernel
theorem dX10_turn_49 : decode cX10_turn 49 = .ok (.goto 4, 3) := by decide +kernel
theorem dX10_turn_52 : decode cX10_turn 52 = .ok (.iconst 0, 1) := by decide +kernel
theorem dX10_turn_53 : decode cX10_turn 53 = .ok (.invokevirtual 105, 3) := by decide +kernel
theorem dX10_turn_56 : decode cX10_turn 56 = .ok (.ifCond .eq 5, 3) := by decide +kernel
theorem dX10_turn_59 : decode cX10_turn 59 = .ok (.iconst 0, 1) := by decide +kernel
theorem dX10_turn_60 : decode cX10_turn 60 = .ok (.ireturn, 1) := by decide +kernel
theorem dX10_turn_61 : decode cX10_turn 61 = .ok (.aload_n 0, 1) := by decide +kernel
theorem dX10_turn_62 : decode cX10_turn 62 = .ok (.aload_n 0, 1) := by decide +kernel
theorem dX10_turn_63 : decode cX10_turn 63 = .ok (.getfield 11, 3) := by decide +kernel
theorem dX10_turn_66 : decode cX10_turn 66 = .ok (.iload_n 2, 1) := by decide +kernel
theorem dX10_turn_67 : decode cX10_turn 67 = .ok (.aaload, 1) := by decide +kernel
theorem dX10_turn_68 : decode cX10_turn 68 = .ok (.iload_n 3, 1) := by decide +kernel
theorem dX10_turn_69 : decode cX10_turn 69 = .ok (.invokevirtual 207, 3) := by decide +kernel
theorem dX10_turn_72 : decode cX10_turn 72 = .ok (.aload_n 0, 1) := by decide +kernel
theorem dX10_turn_73 : decode cX10_turn 73 = .ok (.iload_n 1, 1) := by decide +kernel
theorem dX10_turn_74 : decode cX10_turn 74 = .ok (.invokevirtual 188, 3) := by decide +kernel
theorem dX10_turn_77 : decode cX10_turn 77 = .ok (.iconst 1, 1) := by decide +kernel
theorem dX10_turn_78 : decode cX10_turn 78 = .ok (.ireturn, 1) := by decide +kernel
theorem dX10_part_0 : decode cX10_part 0 = .ok (.aload_n 0, 1) := by decide +kernel
theorem dX10_part_1 : decode cX10_part 1 = .ok (.iload_n 1, 1) := by decide +kernel
theorem dX10_part_2 : decode cX10_part 2 = .ok (.invokestatic 191, 3) := by decide +kernel
theorem dX10_part_5 : decode cX10_part 5 = .ok (.ifCond .eq 14, 3) := by decide +kernel
theorem dX10_part_8 : decode cX10_part 8 = .ok (.aload_n 0, 1) := by decide +kernel
theorem dX10_part_9 : decode cX10_part 9 = .ok (.iload_n 2, 1) := by decide +kernel
theorem dX10_part_10 : decode cX10_part 10 = .ok (.iload_n 3, 1) := by decide +kernel
theorem dX10_part_11 : decode cX10_part 11 = .ok (.iload 4, 2) := by decide +kernel
theorem dX10_part_13 : decode cX10_part 13 = .ok (.invokevirtual 171, 3) := by decide +kernel
theorem dX10_part_16 : decode cX10_part 16 = .ok (.ifCond .ne 7, 3) := by decide +kernel
theorem dX10_part_19 : decode cX10_part 19 = .ok (.iconst 1, 1) := by decide +kernel
theorem dX10_part_20 : decode cX10_part 20 = .ok (.goto 49, 3) := by decide +kernel
theorem dX10_part_23 : decode cX10_part 23 = .ok (.iload 5, 2) := by decide +kernel
theorem dX10_part_25 : decode cX10_part 25 = .ok (.iconst 1, 1) := by decide +kernel
theorem dX10_part_26 : decode cX10_part 26 = .ok (.aload_n 0, 1) := by decide +kernel
theorem dX10_part_27 : decode cX10_part 27 = .ok (.getfield 11, 3) := by decide +kernel
theorem dX10_part_30 : decode cX10_part 30 = .ok (.iload_n 2, 1) := by decide +kernel
theorem dX10_part_31 : decode cX10_part 31 = .ok (.aaload, 1) := by decide +kernel
theorem dX10_part_32 : decode cX10_part 32 = .ok (.getfield 148, 3) := by decide +kernel
theorem dX10_part_35 : decode cX10_part 35 = .ok (.iload_n 3, 1) := by decide +kernel
theorem dX10_part_36 : decode cX10_part 36 = .ok (.isub, 1) := by decide +kernel
theorem dX10_part_37 : decode cX10_part 37 = .ok (.invokestatic 101, 3) := by decide +kernel
theorem dX10_part_40 : decode cX10_part 40 = .ok (.ifCond .eq 24, 3) := by decide +kernel
theorem dX10_part_43 : decode cX10_part 43 = .ok (.iload 6, 2) := by decide +kernel
theorem dX10_part_45 : decode cX10_part 45 = .ok (.iconst 1, 1) := by decide +kernel
theorem dX10_part_46 : decode cX10_part 46 = .ok (.aload_n 0, 1) := by decide +kernel
theorem dX10_part_47 : decode cX10_part 47 = .ok (.getfield 11, 3) := by decide +kernel
theorem dX10_part_50 : decode cX10_part 50 = .ok (.iload_n 2, 1) := by decide +kernel
theorem dX10_part_51 : decode cX10_part 51 = .ok (.aaload, 1) := by decide +kernel
theorem dX10_part_52 : decode cX10_part 52 = .ok (.getfield 151, 3) := by decide +kernel
theorem dX10_part_55 : decode cX10_part 55 = .ok (.iload 4, 2) := by decide +kernel
theorem dX10_part_57 : decode cX10_part 57 = .ok (.isub, 1) := by decide +kernel
theorem dX10_part_58 : decode cX10_part 58 = .ok (.invokestatic 101, 3) := by decide +kernel
theorem dX10_part_61 : decode cX10_part 61 = .ok (.ifCond .ne 7, 3) := by decide +kernel
theorem dX10_part_64 : decode cX10_part 64 = .ok (.iconst 2, 1) := by decide +kernel
theorem dX10_part_65 : decode cX10_part 65 = .ok (.goto 4, 3) := by decide +kernel
theorem dX10_part_68 : decode cX10_part 68 = .ok (.iconst 0, 1) := by decide +kernel
theorem dX10_part_69 : decode cX10_part 69 = .ok (.invokevirtual 105, 3) := by decide +kernel
theorem dX10_part_72 : decode cX10_part 72 = .ok (.ifCond .eq 5, 3) := by decide +kernel
theorem dX10_part_75 : decode cX10_part 75 = .ok (.iconst 0, 1) := by decide +kernel
theorem dX10_part_76 : decode cX10_part 76 = .ok (.ireturn, 1) := by decide +kernel
theorem dX10_part_77 : decode cX10_part 77 = .ok (.aload_n 0, 1) := by decide +kernel
theorem dX10_part_78 : decode cX10_part 78 = .ok (.getfield 11, 3) := by decide +kernel
theorem dX10_part_81 : decode cX10_part 81 = .ok (.iload_n 2, 1) := by decide +kernel
theorem dX10_part_82 : decode cX10_part 82 = .ok (.aaload, 1) := by decide +kernel
theorem dX10_part_83 : decode cX10_part 83 = .ok (.astore 7, 2) := by decide +kernel
theorem dX10_part_85 : decode cX10_part 85 = .ok (.aload_n 0, 1) := by decide +kernel
theorem dX10_part_86 : decode cX10_part 86 = .ok (.getfield 16, 3) := by decide +kernel
theorem dX10_part_89 : decode cX10_part 89 = .ok (.iload 5, 2) := by decide +kernel
theorem dX10_part_91 : decode cX10_part 91 = .ok (.iload 6, 2) := by decide +kernel
theorem dX10_part_93 : decode cX10_part 93 = .ok (.invokevirtual 194, 3) := by decide +kernel
theorem dX10_part_96 : decode cX10_part 96 = .ok (.iconst 0, 1) := by decide +kernel
theorem dX10_part_97 : decode cX10_part 97 = .ok (.istore 8, 2) := by decide +kernel
theorem dX10_part_99 : decode cX10_part 99 = .ok (.iload 8, 2) := by decide +kernel
theorem dX10_part_101 : decode cX10_part 101 = .ok (.iload 6, 2) := by decide +kernel
theorem dX10_part_103 : decode cX10_part 103 = .ok (.if_icmp .ge 50, 3) := by decide +kernel
theorem dX10_part_106 : decode cX10_part 106 = .ok (.iconst 0, 1) := by decide +kernel
theorem dX10_part_107 : decode cX10_part 107 = .ok (.istore 9, 2) := by decide +kernel
theorem dX10_part_109 : decode cX10_part 109 = .ok (.iload 9, 2) := by decide +kernel
theorem dX10_part_111 : decode cX10_part 111 = .ok (.iload 5, 2) := by decide +kernel
theorem dX10_part_113 : decode cX10_part 113 = .ok (.if_icmp .ge 34, 3) := by decide +kernel
theorem dX10_part_116 : decode cX10_part 116 = .ok (.aload_n 0, 1) := by decide +kernel
theorem dX10_part_117 : decode cX10_part 117 = .ok (.getfield 16, 3) := by decide +kernel
theorem dX10_part_120 : decode cX10_part 120 = .ok (.iload 9, 2) := by decide +kernel
theorem dX10_part_122 : decode cX10_part 122 = .ok (.iload 8, 2) := by decide +kernel
theorem dX10_part_124 : decode cX10_part 124 = .ok (.aload 7, 2) := by decide +kernel
theorem dX10_part_126 : decode cX10_part 126 = .ok (.iload_n 3, 1) := by decide +kernel
theorem dX10_part_127 : decode cX10_part 127 = .ok (.iload 9, 2) := by decide +kernel
theorem dX10_part_129 : decode cX10_part 129 = .ok (.iadd, 1) := by decide +kernel
theorem dX10_part_130 : decode cX10_part 130 = .ok (.iload 4, 2) := by decide +kernel
theorem dX10_part_132 : decode cX10_part 132 = .ok (.iload 8, 2) := by decide +kernel
theorem dX10_part_134 : decode cX10_part 134 = .ok (.iadd, 1) := by decide +kernel
theorem dX10_part_135 : decode cX10_part 135 = .ok (.invokevirtual 174, 3) := by decide +kernel
theorem dX10_part_138 : decode cX10_part 138 = .ok (.invokevirtual 184, 3) := by decide +kernel
theorem dX10_part_141 : decode cX10_part 141 = .ok (.iinc 9 1, 3) := by decide +kernel
theorem dX10_part_144 : decode cX10_part 144 = .ok (.goto (-35), 3) := by decide +kernel
theorem dX10_part_147 : decode cX10_part 147 = .ok (.iinc 8 1, 3) := by decide +kernel
theorem dX10_part_150 : decode cX10_part 150 = .ok (.goto (-51), 3) := by decide +kernel
theorem dX10_part_153 : decode cX10_part 153 = .ok (.aload_n 0, 1) := by decide +kernel
theorem dX10_part_154 : decode cX10_part 154 = .ok (.iload_n 1, 1) := by decide +kernel
theorem dX10_part_155 : decode cX10_part 155 = .ok (.invokevirtual 188, 3) := by decide +kernel
theorem dX10_part_158 : decode cX10_part 158 = .ok (.iconst 1, 1) := by decide +kernel
theorem dX10_part_159 : decode cX10_part 159 = .ok (.ireturn, 1) := by decide +kernel
theorem dX10_noise_0 : decode cX10_noise 0 = .ok (.aload_n 0, 1) := by decide +kernel
theorem dX10_noise_1 : decode cX10_noise 1 = .ok (.aload_n 0, 1) := by decide +kernel
theorem dX10_noise_2 : decode cX10_noise 2 = .ok (.iload_n 1, 1) := by decide +kernel
theorem dX10_noise_3 : decode cX10_noise 3 = .ok (.invokevirtual 145, 3) := by decide +kernel
theorem dX10_noise_6 : decode cX10_noise 6 = .ok (.ifCond .ne 7, 3) := by decide +kernel
theorem dX10_noise_9 : decode cX10_noise 9 = .ok (.iconst 1, 1) := by decide +kernel
theorem dX10_noise_10 : decode cX10_noise 10 = .ok (.goto 28, 3) := by decide +kernel
theorem dX10_noise_13 : decode cX10_noise 13 = .ok (.iload_n 2, 1) := by decide +kernel
theorem dX10_noise_14 : decode cX10_noise 14 = .ok (.iconst 0, 1) := by decide +kernel
theorem dX10_noise_15 : decode cX10_noise 15 = .ok (.ldc 211, 2) := by decide +kernel
theorem dX10_noise_17 : decode cX10_noise 17 = .ok (.invokestatic 101, 3) := by decide +kernel
theorem dX10_noise_20 : decode cX10_noise 20 = .ok (.ifCond .eq 13, 3) := by decide +kernel
theorem dX10_noise_23 : decode cX10_noise 23 = .ok (.iload_n 3, 1) := by decide +kernel
theorem dX10_noise_24 : decode cX10_noise 24 = .ok (.iconst 0, 1) := by decide +kernel
theorem dX10_noise_25 : decode cX10_noise 25 = .ok (.bipush 127, 2) := by decide +kernel
theorem dX10_noise_27 : decode cX10_noise 27 = .ok (.invokestatic 101, 3) := by decide +kernel
theorem dX10_noise_30 : decode cX10_noise 30 = .ok (.ifCond .ne 7, 3) := by decide +kernel
theorem dX10_noise_33 : decode cX10_noise 33 = .ok (.iconst 2, 1) := by decide +kernel
theorem dX10_noise_34 : decode cX10_noise 34 = .ok (.goto 4, 3) := by decide +kernel
theorem dX10_noise_37 : decode cX10_noise 37 = .ok (.iconst 0, 1) := by decide +kernel
theorem dX10_noise_38 : decode cX10_noise 38 = .ok (.invokevirtual 105, 3) := by decide +kernel
theorem dX10_noise_41 : decode cX10_noise 41 = .ok (.ifCond .eq 5, 3) := by decide +kernel
theorem dX10_noise_44 : decode cX10_noise 44 = .ok (.iconst (-1), 1) := by decide +kernel
theorem dX10_noise_45 : decode cX10_noise 45 = .ok (.ireturn, 1) := by decide +kernel
theorem dX10_noise_46 : decode cX10_noise 46 = .ok (.iload_n 2, 1) := by decide +kernel
theorem dX10_noise_47 : decode cX10_noise 47 = .ok (.istore 4, 2) := by decide +kernel
theorem dX10_noise_49 : decode cX10_noise 49 = .ok (.iconst 2, 1) := by decide +kernel
theorem dX10_noise_50 : decode cX10_noise 50 = .ok (.iload_n 3, 1) := by decide +kernel
theorem dX10_noise_51 : decode cX10_noise 51 = .ok (.imul, 1) := by decide +kernel
theorem dX10_noise_52 : decode cX10_noise 52 = .ok (.iconst 1, 1) := by decide +kernel
theorem dX10_noise_53 : decode cX10_noise 53 = .ok (.iadd, 1) := by decide +kernel
theorem dX10_noise_54 : decode cX10_noise 54 = .ok (.istore 5, 2) := by decide +kernel
theorem dX10_noise_56 : decode cX10_noise 56 = .ok (.aload_n 0, 1) := by decide +kernel
theorem dX10_noise_57 : decode cX10_noise 57 = .ok (.getfield 16, 3) := by decide +kernel
theorem dX10_noise_60 : decode cX10_noise 60 = .ok (.aload_n 0, 1) := by decide +kernel
theorem dX10_noise_61 : decode cX10_noise 61 = .ok (.getfield 11, 3) := by decide +kernel
theorem dX10_noise_64 : decode cX10_noise 64 = .ok (.iload_n 1, 1) := by decide +kernel
theorem dX10_noise_65 : decode cX10_noise 65 = .ok (.aaload, 1) := by decide +kernel
theorem dX10_noise_66 : decode cX10_noise 66 = .ok (.invokevirtual 137, 3) := by decide +kernel
theorem dX10_noise_69 : decode cX10_noise 69 = .ok (.iconst 0, 1) := by decide +kernel
theorem dX10_noise_70 : decode cX10_noise 70 = .ok (.istore 6, 2) := by decide +kernel
theorem dX10_noise_72 : decode cX10_noise 72 = .ok (.iload 6, 2) := by decide +kernel
theorem dX10_noise_74 : decode cX10_noise 74 = .ok (.aload_n 0, 1) := by decide +kernel
theorem dX10_noise_75 : decode cX10_noise 75 = .ok (.getfield 16, 3) := by decide +kernel
theorem dX10_noise_78 : decode cX10_noise 78 = .ok (.invokevirtual 212, 3) := by decide +kernel
theorem dX10_noise_81 : decode cX10_noise 81 = .ok (.if_icmp .ge 53, 3) := by decide +kernel
theorem dX10_noise_84 : decode cX10_noise 84 = .ok (.bipush 75, 2) := by decide +kernel
theorem dX10_noise_86 : decode cX10_noise 86 = .ok (.iload 4, 2) := by decide +kernel
theorem dX10_noise_88 : decode cX10_noise 88 = .ok (.imul, 1) := by decide +kernel
theorem dX10_noise_89 : decode cX10_noise 89 = .ok (.bipush 74, 2) := by decide +kernel
theorem dX10_noise_91 : decode cX10_noise 91 = .ok (.iadd, 1) := by decide +kernel
theorem dX10_noise_92 : decode cX10_noise 92 = .ok (.ldc 215, 2) := by decide +kernel
theorem dX10_noise_94 : decode cX10_noise 94 = .ok (.irem, 1) := by decide +kernel
theorem dX10_noise_95 : decode cX10_noise 95 = .ok (.istore 4, 2) := by decide +kernel
theorem dX10_noise_97 : decode cX10_noise 97 = .ok (.aload_n 0, 1) := by decide +kernel
theorem dX10_noise_98 : decode cX10_noise 98 = .ok (.getfield 16, 3) := by decide +kernel
theorem dX10_noise_101 : decode cX10_noise 101 = .ok (.getfield 198, 3) := by decide +kernel
theorem dX10_noise_104 : decode cX10_noise 104 = .ok (.iload 6, 2) := by decide +kernel
theorem dX10_noise_106 : decode cX10_noise 106 = .ok (.aload_n 0, 1) := by decide +kernel
theorem dX10_noise_107 : decode cX10_noise 107 = .ok (.getfield 16, 3) := by decide +kernel
theorem dX10_noise_110 : decode cX10_noise 110 = .ok (.getfield 198, 3) := by decide +kernel
theorem dX10_noise_113 : decode cX10_noise 113 = .ok (.iload 6, 2) := by decide +kernel
theorem dX10_noise_115 : decode cX10_noise 115 = .ok (.iaload, 1) := by decide +kernel
theorem dX10_noise_116 : decode cX10_noise 116 = .ok (.iload 4, 2) := by decide +kernel
theorem dX10_noise_118 : decode cX10_noise 118 = .ok (.iload 5, 2) := by decide +kernel
theorem dX10_noise_120 : decode cX10_noise 120 = .ok (.irem, 1) := by decide +kernel
theorem dX10_noise_121 : decode cX10_noise 121 = .ok (.iadd, 1) := by decide +kernel
theorem dX10_noise_122 : decode cX10_noise 122 = .ok (.iload_n 3, 1) := by decide +kernel
theorem dX10_noise_123 : decode cX10_noise 123 = .ok (.isub, 1) := by decide +kernel
theorem dX10_noise_124 : decode cX10_noise 124 = .ok (.invokestatic 216, 3) := by decide +kernel
theorem dX10_noise_127 : decode cX10_noise 127 = .ok (.iastore, 1) := by decide +kernel
theorem dX10_noise_128 : decode cX10_noise 128 = .ok (.iinc 6 1, 3) := by decide +kernel
theorem dX10_noise_131 : decode cX10_noise 131 = .ok (.goto (-59), 3) := by decide +kernel
theorem dX10_noise_134 : decode cX10_noise 134 = .ok (.aload_n 0, 1) := by decide +kernel
theorem dX10_noise_135 : decode cX10_noise 135 = .ok (.iload_n 1, 1) := by decide +kernel
theorem dX10_noise_136 : decode cX10_noise 136 = .ok (.iload_n 1, 1) := by decide +kernel
theorem dX10_noise_137 : decode cX10_noise 137 = .ok (.invokevirtual 220, 3) := by decide +kernel
theorem dX10_noise_140 : decode cX10_noise 140 = .ok (.ireturn, 1) := by decide +kernel
theorem dX10_turnToWork_0 : decode cX10_turnToWork 0 = .ok (.iload_n 2, 1) := by decide +kernel
theorem dX10_turnToWork_1 : decode cX10_turnToWork 1 = .ok (.iconst 3, 1) := by decide +kernel
theorem dX10_turnToWork_2 : decode cX10_turnToWork 2 = .ok (.if_icmp .ne 7, 3) := by decide +kernel
theorem dX10_turnToWork_5 : decode cX10_turnToWork 5 = .ok (.iconst 1, 1) := by decide +kernel
theorem dX10_turnToWork_6 : decode cX10_turnToWork 6 = .ok (.goto 4, 3) := by decide +kernel
theorem dX10_turnToWork_9 : decode cX10_turnToWork 9 = .ok (.iconst 0, 1) := by decide +kernel
theorem dX10_turnToWork_10 : decode cX10_turnToWork 10 = .ok (.istore_n 3, 1) := by decide +kernel
theorem dX10_turnToWork_11 : decode cX10_turnToWork 11 = .ok (.aload_n 0, 1) := by decide +kernel
theorem dX10_turnToWork_12 : decode cX10_turnToWork 12 = .ok (.getfield 16, 3) := by decide +kernel
theorem dX10_turnToWork_15 : decode cX10_turnToWork 15 = .ok (.iload_n 3, 1) := by decide +kernel
theorem dX10_turnToWork_16 : decode cX10_turnToWork 16 = .ok (.ifCond .eq 10, 3) := by decide +kernel
theorem dX10_turnToWork_19 : decode cX10_turnToWork 19 = .ok (.aload_n 1, 1) := by decide +kernel
theorem dX10_turnToWork_20 : decode cX10_turnToWork 20 = .ok (.getfield 151, 3) := by decide +kernel
theorem dX10_turnToWork_23 : decode cX10_turnToWork 23 = .ok (.goto 7, 3) := by decide +kernel
theorem dX10_turnToWork_26 : decode cX10_turnToWork 26 = .ok (.aload_n 1, 1) := by decide +kernel
theorem dX10_turnToWork_27 : decode cX10_turnToWork 27 = .ok (.getfield 148, 3) := by decide +kernel
theorem dX10_turnToWork_30 : decode cX10_turnToWork 30 = .ok (.iload_n 3, 1) := by decide +kernel
theorem dX10_turnToWork_31 : decode cX10_turnToWork 31 = .ok (.ifCond .eq 10, 3) := by decide +kernel
theorem dX10_turnToWork_34 : decode cX10_turnToWork 34 = .ok (.aload_n 1, 1) := by decide +kernel
theorem dX10_turnToWork_35 : decode cX10_turnToWork 35 = .ok (.getfield 148, 3) := by decide +kernel
theorem dX10_turnToWork_38 : decode cX10_turnToWork 38 = .ok (.goto 7, 3) := by decide +kernel
theorem dX10_turnToWork_41 : decode cX10_turnToWork 41 = .ok (.aload_n 1, 1) := by decide +kernel
theorem dX10_turnToWork_42 : decode cX10_turnToWork 42 = .ok (.getfield 151, 3) := by decide +kernel
theorem dX10_turnToWork_45 : decode cX10_turnToWork 45 = .ok (.invokevirtual 194, 3) := by decide +kernel
theorem dX10_turnToWork_48 : decode cX10_turnToWork 48 = .ok (.iconst 0, 1) := by decide +kernel
theorem dX10_turnToWork_49 : decode cX10_turnToWork 49 = .ok (.istore 4, 2) := by decide +kernel
theorem dX10_turnToWork_51 : decode cX10_turnToWork 51 = .ok (.iload 4, 2) := by decide +kernel
theorem dX10_turnToWork_53 : decode cX10_turnToWork 53 = .ok (.aload_n 0, 1) := by decide +kernel
theorem dX10_turnToWork_54 : decode cX10_turnToWork 54 = .ok (.getfield 16, 3) := by decide +kernel
theorem dX10_turnToWork_57 : decode cX10_turnToWork 57 = .ok (.getfield 151, 3) := by decide +kernel
theorem dX10_turnToWork_60 : decode cX10_turnToWork 60 = .ok (.if_icmp .ge 50, 3) := by decide +kernel
theorem dX10_turnToWork_63 : decode cX10_turnToWork 63 = .ok (.iconst 0, 1) := by decide +kernel
theorem dX10_turnToWork_64 : decode cX10_turnToWork 64 = .ok (.istore 5, 2) := by decide +kernel
theorem dX10_turnToWork_66 : decode cX10_turnToWork 66 = .ok (.iload 5, 2) := by decide +kernel
theorem dX10_turnToWork_68 : decode cX10_turnToWork 68 = .ok (.aload_n 0, 1) := by decide +kernel
theorem dX10_turnToWork_69 : decode cX10_turnToWork 69 = .ok (.getfield 16, 3) := by decide +kernel
theorem dX10_turnToWork_72 : decode cX10_turnToWork 72 = .ok (.getfield 148, 3) := by decide +kernel
theorem dX10_turnToWork_75 : decode cX10_turnToWork 75 = .ok (.if_icmp .ge 29, 3) := by decide +kernel
theorem dX10_turnToWork_78 : decode cX10_turnToWork 78 = .ok (.aload_n 0, 1) := by decide +kernel
theorem dX10_turnToWork_79 : decode cX10_turnToWork 79 = .ok (.getfield 16, 3) := by decide +kernel
theorem dX10_turnToWork_82 : decode cX10_turnToWork 82 = .ok (.iload 5, 2) := by decide +kernel
theorem dX10_turnToWork_84 : decode cX10_turnToWork 84 = .ok (.iload 4, 2) := by decide +kernel
theorem dX10_turnToWork_86 : decode cX10_turnToWork 86 = .ok (.aload_n 1, 1) := by decide +kernel
theorem dX10_turnToWork_87 : decode cX10_turnToWork 87 = .ok (.iload 5, 2) := by decide +kernel
theorem dX10_turnToWork_89 : decode cX10_turnToWork 89 = .ok (.iload 4, 2) := by decide +kernel
theorem dX10_turnToWork_91 : decode cX10_turnToWork 91 = .ok (.iload_n 2, 1) := by decide +kernel
theorem dX10_turnToWork_92 : decode cX10_turnToWork 92 = .ok (.invokestatic 223, 3) := by decide +kernel
theorem dX10_turnToWork_95 : decode cX10_turnToWork 95 = .ok (.invokevirtual 184, 3) := by decide +kernel
theorem dX10_turnToWork_98 : decode cX10_turnToWork 98 = .ok (.iinc 5 1, 3) := by decide +kernel
theorem dX10_turnToWork_101 : decode cX10_turnToWork 101 = .ok (.goto (-35), 3) := by decide +kernel
theorem dX10_turnToWork_104 : decode cX10_turnToWork 104 = .ok (.iinc 4 1, 3) := by decide +kernel
theorem dX10_turnToWork_107 : decode cX10_turnToWork 107 = .ok (.goto (-56), 3) := by decide +kernel
theorem dX10_turnToWork_110 : decode cX10_turnToWork 110 = .ok (.return_, 1) := by decide +kernel
theorem dX10_turnedShade_0 : decode cX10_turnedShade 0 = .ok (.iload_n 3, 1) := by decide +kernel
theorem dX10_turnedShade_1 : decode cX10_turnedShade 1 = .ok (.tableswitch 77 1 4 #[31, 45, 59, 66], 31) := by decide +kernel
theorem dX10_turnedShade_32 : decode cX10_turnedShade 32 = .ok (.aload_n 0, 1) := by decide +kernel
theorem dX10_turnedShade_33 : decode cX10_turnedShade 33 = .ok (.aload_n 0, 1) := by decide +kernel
theorem dX10_turnedShade_34 : decode cX10_turnedShade 34 = .ok (.getfield 148, 3) := by decide +kernel
theorem dX10_turnedShade_37 : decode cX10_turnedShade 37 = .ok (.iconst 1, 1) := by decide +kernel
theorem dX10_turnedShade_38 : decode cX10_turnedShade 38 = .ok (.isub, 1) := by decide +kernel
theorem dX10_turnedShade_39 : decode cX10_turnedShade 39 = .ok (.iload_n 1, 1) := by decide +kernel
theorem dX10_turnedShade_40 : decode cX10_turnedShade 40 = .ok (.isub, 1) := by decide +kernel
theorem dX10_turnedShade_41 : decode cX10_turnedShade 41 = .ok (.iload_n 2, 1) := by decide +kernel
theorem dX10_turnedShade_42 : decode cX10_turnedShade 42 = .ok (.invokevirtual 174, 3) := by decide +kernel
theorem dX10_turnedShade_45 : decode cX10_turnedShade 45 = .ok (.ireturn, 1) := by decide +kernel
theorem dX10_turnedShade_46 : decode cX10_turnedShade 46 = .ok (.aload_n 0, 1) := by decide +kernel
theorem dX10_turnedShade_47 : decode cX10_turnedShade 47 = .ok (.iload_n 1, 1) := by decide +kernel
theorem dX10_turnedShade_48 : decode cX10_turnedShade 48 = .ok (.aload_n 0, 1) := by decide +kernel
theorem dX10_turnedShade_49 : decode cX10_turnedShade 49 = .ok (.getfield 151, 3) := by decide +kernel
theorem dX10_turnedShade_52 : decode cX10_turnedShade 52 = .ok (.iconst 1, 1) := by decide +kernel
theorem dX10_turnedShade_53 : decode cX10_turnedShade 53 = .ok (.isub, 1) := by decide +kernel
theorem dX10_turnedShade_54 : decode cX10_turnedShade 54 = .ok (.iload_n 2, 1) := by decide +kernel
theorem dX10_turnedShade_55 : decode cX10_turnedShade 55 = .ok (.isub, 1) := by decide +kernel
theorem dX10_turnedShade_56 : decode cX10_turnedShade 56 = .ok (.invokevirtual 174, 3) := by decide +kernel
theorem dX10_turnedShade_59 : decode cX10_turnedShade 59 = .ok (.ireturn, 1) := by decide +kernel
theorem dX10_turnedShade_60 : decode cX10_turnedShade 60 = .ok (.aload_n 0, 1) := by decide +kernel
theorem dX10_turnedShade_61 : decode cX10_turnedShade 61 = .ok (.iload_n 2, 1) := by decide +kernel
theorem dX10_turnedShade_62 : decode cX10_turnedShade 62 = .ok (.iload_n 1, 1) := by decide +kernel
theorem dX10_turnedShade_63 : decode cX10_turnedShade 63 = .ok (.invokevirtual 174, 3) := by decide +kernel
theorem dX10_turnedShade_66 : decode cX10_turnedShade 66 = .ok (.ireturn, 1) := by decide +kernel
theorem dX10_turnedShade_67 : decode cX10_turnedShade 67 = .ok (.sipush 255, 3) := by decide +kernel
theorem dX10_turnedShade_70 : decode cX10_turnedShade 70 = .ok (.aload_n 0, 1) := by decide +kernel
theorem dX10_turnedShade_71 : decode cX10_turnedShade 71 = .ok (.iload_n 1, 1) := by decide +kernel
theorem dX10_turnedShade_72 : decode cX10_turnedShade 72 = .ok (.iload_n 2, 1) := by decide +kernel
theorem dX10_turnedShade_73 : decode cX10_turnedShade 73 = .ok (.invokevirtual 174, 3) := by decide +kernel
theorem dX10_turnedShade_76 : decode cX10_turnedShade 76 = .ok (.isub, 1) := by decide +kernel
theorem dX10_turnedShade_77 : decode cX10_turnedShade 77 = .ok (.ireturn, 1) := by decide +kernel
theorem dX10_turnedShade_78 : decode cX10_turnedShade 78 = .ok (.aload_n 0, 1) := by decide +kernel
theorem dX10_turnedShade_79 : decode cX10_turnedShade 79 = .ok (.iload_n 1, 1) := by decide +kernel
theorem dX10_turnedShade_80 : decode cX10_turnedShade 80 = .ok (.iload_n 2, 1) := by decide +kernel
theorem dX10_turnedShade_81 : decode cX10_turnedShade 81 = .ok (.invokevirtual 174, 3) := by decide +kernel
theorem dX10_turnedShade_84 : decode cX10_turnedShade 84 = .ok (.ireturn, 1) := by decide +kernel
theorem dX10_grid_0 : decode cX10_grid 0 = .ok (.aload_n 0, 1) := by decide +kernel
theorem dX10_grid_1 : decode cX10_grid 1 = .ok (.aload_n 0, 1) := by decide +kernel
theorem dX10_grid_2 : decode cX10_grid 2 = .ok (.iload_n 1, 1) := by decide +kernel
theorem dX10_grid_3 : decode cX10_grid 3 = .ok (.invokevirtual 145, 3) := by decide +kernel
theorem dX10_grid_6 : decode cX10_grid 6 = .ok (.ifCond .eq 11, 3) := by decide +kernel
theorem dX10_grid_9 : decode cX10_grid 9 = .ok (.aload_n 0, 1) := by decide +kernel
theorem dX10_grid_10 : decode cX10_grid 10 = .ok (.iload_n 2, 1) := by decide +kernel
theorem dX10_grid_11 : decode cX10_grid 11 = .ok (.invokevirtual 145, 3) := by decide +kernel
theorem dX10_grid_14 : decode cX10_grid 14 = .ok (.ifCond .ne 7, 3) := by decide +kernel
theorem dX10_grid_17 : decode cX10_grid 17 = .ok (.iconst 1, 1) := by decide +kernel
theorem dX10_grid_18 : decode cX10_grid 18 = .ok (.goto 30, 3) := by decide +kernel
theorem dX10_grid_21 : decode cX10_grid 21 = .ok (.iload_n 3, 1) := by decide +kernel
theorem dX10_grid_22 : decode cX10_grid 22 = .ok (.iload 4, 2) := by decide +kernel
theorem dX10_grid_24 : decode cX10_grid 24 = .ok (.invokestatic 227, 3) := by decide +kernel
theorem dX10_grid_27 : decode cX10_grid 27 = .ok (.ifCond .ne 7, 3) := by decide +kernel
theorem dX10_grid_30 : decode cX10_grid 30 = .ok (.iconst 2, 1) := by decide +kernel
theorem dX10_grid_31 : decode cX10_grid 31 = .ok (.goto 17, 3) := by decide +kernel
theorem dX10_grid_34 : decode cX10_grid 34 = .ok (.aload_n 0, 1) := by decide +kernel
theorem dX10_grid_35 : decode cX10_grid 35 = .ok (.iload_n 1, 1) := by decide +kernel
theorem dX10_grid_36 : decode cX10_grid 36 = .ok (.iload_n 2, 1) := by decide +kernel
theorem dX10_grid_37 : decode cX10_grid 37 = .ok (.invokevirtual 231, 3) := by decide +kernel
theorem dX10_grid_40 : decode cX10_grid 40 = .ok (.ifCond .ne 7, 3) := by decide +kernel
theorem dX10_grid_43 : decode cX10_grid 43 = .ok (.iconst 5, 1) := by decide +kernel
theorem dX10_grid_44 : decode cX10_grid 44 = .ok (.goto 4, 3) := by decide +kernel
theorem dX10_grid_47 : decode cX10_grid 47 = .ok (.iconst 0, 1) := by decide +kernel
theorem dX10_grid_48 : decode cX10_grid 48 = .ok (.invokevirtual 105, 3) := by decide +kernel
theorem dX10_grid_51 : decode cX10_grid 51 = .ok (.ifCond .eq 5, 3) := by decide +kernel
theorem dX10_grid_54 : decode cX10_grid 54 = .ok (.iconst (-1), 1) := by decide +kernel
theorem dX10_grid_55 : decode cX10_grid 55 = .ok (.ireturn, 1) := by decide +kernel
theorem dX10_grid_56 : decode cX10_grid 56 = .ok (.aload_n 0, 1) := by decide +kernel
theorem dX10_grid_57 : decode cX10_grid 57 = .ok (.getfield 54, 3) := by decide +kernel
theorem dX10_grid_60 : decode cX10_grid 60 = .ok (.aload_n 0, 1) := by decide +kernel
theorem dX10_grid_61 : decode cX10_grid 61 = .ok (.getfield 11, 3) := by decide +kernel
theorem dX10_grid_64 : decode cX10_grid 64 = .ok (.iload_n 1, 1) := by decide +kernel
theorem dX10_grid_65 : decode cX10_grid 65 = .ok (.aaload, 1) := by decide +kernel
theorem dX10_grid_66 : decode cX10_grid 66 = .ok (.aload_n 0, 1) := by decide +kernel
theorem dX10_grid_67 : decode cX10_grid 67 = .ok (.getfield 11, 3) := by decide +kernel
theorem dX10_grid_70 : decode cX10_grid 70 = .ok (.iload_n 2, 1) := by decide +kernel
theorem dX10_grid_71 : decode cX10_grid 71 = .ok (.aaload, 1) := by decide +kernel
theorem dX10_grid_72 : decode cX10_grid 72 = .ok (.iload_n 3, 1) := by decide +kernel
theorem dX10_grid_73 : decode cX10_grid 73 = .ok (.iload 4, 2) := by decide +kernel
theorem dX10_grid_75 : decode cX10_grid 75 = .ok (.iconst 0, 1) := by decide +kernel
theorem dX10_grid_76 : decode cX10_grid 76 = .ok (.invokevirtual 234, 3) := by decide +kernel
theorem dX10_grid_79 : decode cX10_grid 79 = .ok (.aload_n 0, 1) := by decide +kernel
theorem dX10_grid_80 : decode cX10_grid 80 = .ok (.getfield 61, 3) := by decide +kernel
theorem dX10_grid_83 : decode cX10_grid 83 = .ok (.aload_n 0, 1) := by decide +kernel
theorem dX10_grid_84 : decode cX10_grid 84 = .ok (.getfield 11, 3) := by decide +kernel
theorem dX10_grid_87 : decode cX10_grid 87 = .ok (.iload_n 2, 1) := by decide +kernel
theorem dX10_grid_88 : decode cX10_grid 88 = .ok (.aaload, 1) := by decide +kernel
theorem dX10_grid_89 : decode cX10_grid 89 = .ok (.iload_n 3, 1) := by decide +kernel
theorem dX10_grid_90 : decode cX10_grid 90 = .ok (.iload 4, 2) := by decide +kernel
theorem dX10_grid_92 : decode cX10_grid 92 = .ok (.invokevirtual 238, 3) := by decide +kernel
theorem dX10_grid_95 : decode cX10_grid 95 = .ok (.aload_n 0, 1) := by decide +kernel
theorem dX10_grid_96 : decode cX10_grid 96 = .ok (.getfield 61, 3) := by decide +kernel
theorem dX10_grid_99 : decode cX10_grid 99 = .ok (.invokevirtual 241, 3) := by decide +kernel
theorem dX10_grid_102 : decode cX10_grid 102 = .ok (.ireturn, 1) := by decide +kernel
theorem dX10_gridded_0 : decode cX10_gridded 0 = .ok (.aload_n 0, 1) := by decide +kernel
theorem dX10_gridded_1 : decode cX10_gridded 1 = .ok (.aload_n 0, 1) := by decide +kernel
theorem dX10_gridded_2 : decode cX10_gridded 2 = .ok (.getfield 54, 3) := by decide +kernel
theorem dX10_gridded_5 : decode cX10_gridded 5 = .ok (.invokevirtual 242, 3) := by decide +kernel
theorem dX10_gridded_8 : decode cX10_gridded 8 = .ok (.ifCond .eq 16, 3) := by decide +kernel
theorem dX10_gridded_11 : decode cX10_gridded 11 = .ok (.iload_n 1, 1) := by decide +kernel
theorem dX10_gridded_12 : decode cX10_gridded 12 = .ok (.iconst 0, 1) := by decide +kernel
theorem dX10_gridded_13 : decode cX10_gridded 13 = .ok (.iconst 5, 1) := by decide +kernel
theorem dX10_gridded_14 : decode cX10_gridded 14 = .ok (.invokestatic 101, 3) := by decide +kernel
theorem dX10_gridded_17 : decode cX10_gridded 17 = .ok (.ifCond .eq 7, 3) := by decide +kernel
theorem dX10_gridded_20 : decode cX10_gridded 20 = .ok (.iconst 0, 1) := by decide +kernel
theorem dX10_gridded_21 : decode cX10_gridded 21 = .ok (.goto 4, 3) := by decide +kernel
theorem dX10_gridded_24 : decode cX10_gridded 24 = .ok (.iconst 1, 1) := by decide +kernel
theorem dX10_gridded_25 : decode cX10_gridded 25 = .ok (.invokevirtual 105, 3) := by decide +kernel
theorem dX10_gridded_28 : decode cX10_gridded 28 = .ok (.ifCond .eq 5, 3) := by decide +kernel
theorem dX10_gridded_31 : decode cX10_gridded 31 = .ok (.iconst (-1), 1) := by decide +kernel
theorem dX10_gridded_32 : decode cX10_gridded 32 = .ok (.ireturn, 1) := by decide +kernel
theorem dX10_gridded_33 : decode cX10_gridded 33 = .ok (.iload_n 1, 1) := by decide +kernel
theorem dX10_gridded_34 : decode cX10_gridded 34 = .ok (.lookupswitch 58 #[(0, 34), (1, 42), (5, 50)], 34) := by decide +kernel
theorem dX10_gridded_68 : decode cX10_gridded 68 = .ok (.aload_n 0, 1) := by decide +kernel
theorem dX10_gridded_69 : decode cX10_gridded 69 = .ok (.getfield 54, 3) := by decide +kernel
theorem dX10_gridded_72 : decode cX10_gridded 72 = .ok (.getfield 246, 3) := by decide +kernel
theorem dX10_gridded_75 : decode cX10_gridded 75 = .ok (.ireturn, 1) := by decide +kernel
theorem dX10_gridded_76 : decode cX10_gridded 76 = .ok (.aload_n 0, 1) := by decide +kernel
theorem dX10_gridded_77 : decode cX10_gridded 77 = .ok (.getfield 54, 3) := by decide +kernel
theorem dX10_gridded_80 : decode cX10_gridded 80 = .ok (.getfield 249, 3) := by decide +kernel
theorem dX10_gridded_83 : decode cX10_gridded 83 = .ok (.ireturn, 1) := by decide +kernel
theorem dX10_gridded_84 : decode cX10_gridded 84 = .ok (.aload_n 0, 1) := by decide +kernel
theorem dX10_gridded_85 : decode cX10_gridded 85 = .ok (.getfield 61, 3) := by decide +kernel
theorem dX10_gridded_88 : decode cX10_gridded 88 = .ok (.invokevirtual 241, 3) := by decide +kernel
theorem dX10_gridded_91 : decode cX10_gridded 91 = .ok (.ireturn, 1) := by decide +kernel
theorem dX10_gridded_92 : decode cX10_gridded 92 = .ok (.aload_n 0, 1) := by decide +kernel
theorem dX10_gridded_93 : decode cX10_gridded 93 = .ok (.getfield 54, 3) := by decide +kernel
theorem dX10_gridded_96 : decode cX10_gridded 96 = .ok (.iload_n 1, 1) := by decide +kernel
theorem dX10_gridded_97 : decode cX10_gridded 97 = .ok (.iconst 2, 1) := by decide +kernel
theorem dX10_gridded_98 : decode cX10_gridded 98 = .ok (.isub, 1) := by decide +kernel
theorem dX10_gridded_99 : decode cX10_gridded 99 = .ok (.invokevirtual 252, 3) := by decide +kernel
theorem dX10_gridded_102 : decode cX10_gridded 102 = .ok (.ireturn, 1) := by decide +kernel
theorem dX10_node_0 : decode cX10_node 0 = .ok (.aload_n 0, 1) := by decide +kernel
theorem dX10_node_1 : decode cX10_node 1 = .ok (.aload_n 0, 1) := by decide +kernel
theorem dX10_node_2 : decode cX10_node 2 = .ok (.getfield 54, 3) := by decide +kernel
theorem dX10_node_5 : decode cX10_node 5 = .ok (.invokevirtual 242, 3) := by decide +kernel
theorem dX10_node_8 : decode cX10_node 8 = .ok (.ifCond .eq 17, 3) := by decide +kernel
theorem dX10_node_11 : decode cX10_node 11 = .ok (.iload 4, 2) := by decide +kernel
theorem dX10_node_13 : decode cX10_node 13 = .ok (.iconst 0, 1) := by decide +kernel
theorem dX10_node_14 : decode cX10_node 14 = .ok (.iconst 1, 1) := by decide +kernel
theorem dX10_node_15 : decode cX10_node 15 = .ok (.invokestatic 101, 3) := by decide +kernel
theorem dX10_node_18 : decode cX10_node 18 = .ok (.ifCond .eq 7, 3) := by decide +kernel
theorem dX10_node_21 : decode cX10_node 21 = .ok (.iconst 0, 1) := by decide +kernel
theorem dX10_node_22 : decode cX10_node 22 = .ok (.goto 4, 3) := by decide +kernel
theorem dX10_node_25 : decode cX10_node 25 = .ok (.iconst 1, 1) := by decide +kernel
theorem dX10_node_26 : decode cX10_node 26 = .ok (.invokevirtual 105, 3) := by decide +kernel
theorem dX10_node_29 : decode cX10_node 29 = .ok (.ifCond .eq 7, 3) := by decide +kernel
theorem dX10_node_32 : decode cX10_node 32 = .ok (.ldc2_w 255, 3) := by decide +kernel
theorem dX10_node_35 : decode cX10_node 35 = .ok (.lreturn, 1) := by decide +kernel
theorem dX10_node_36 : decode cX10_node 36 = .ok (.aload_n 0, 1) := by decide +kernel
theorem dX10_node_37 : decode cX10_node 37 = .ok (.getfield 54, 3) := by decide +kernel
theorem dX10_node_40 : decode cX10_node 40 = .ok (.iload_n 1, 1) := by decide +kernel
theorem dX10_node_41 : decode cX10_node 41 = .ok (.iload_n 2, 1) := by decide +kernel
theorem dX10_node_42 : decode cX10_node 42 = .ok (.iload_n 3, 1) := by decide +kernel
theorem dX10_node_43 : decode cX10_node 43 = .ok (.iload 4, 2) := by decide +kernel
theorem dX10_node_45 : decode cX10_node 45 = .ok (.iconst 1, 1) := by decide +kernel
theorem dX10_node_46 : decode cX10_node 46 = .ok (.if_icmp .ne 7, 3) := by decide +kernel
theorem dX10_node_49 : decode cX10_node 49 = .ok (.iconst 1, 1) := by decide +kernel
theorem dX10_node_50 : decode cX10_node 50 = .ok (.goto 4, 3) := by decide +kernel
theorem dX10_node_53 : decode cX10_node 53 = .ok (.iconst 0, 1) := by decide +kernel
theorem dX10_node_54 : decode cX10_node 54 = .ok (.invokevirtual 257, 3) := by decide +kernel
theorem dX10_node_57 : decode cX10_node 57 = .ok (.lreturn, 1) := by decide +kernel
theorem dX10_nth_0 : decode cX10_nth 0 = .ok (.aload_n 0, 1) := by decide +kernel
theorem dX10_nth_1 : decode cX10_nth 1 = .ok (.aload_n 0, 1) := by decide +kernel
theorem dX10_nth_2 : decode cX10_nth 2 = .ok (.getfield 54, 3) := by decide +kernel
theorem dX10_nth_5 : decode cX10_nth 5 = .ok (.invokevirtual 242, 3) := by decide +kernel
theorem dX10_nth_8 : decode cX10_nth 8 = .ok (.ifCond .eq 20, 3) := by decide +kernel
theorem dX10_nth_11 : decode cX10_nth 11 = .ok (.iload_n 2, 1) := by decide +kernel
theorem dX10_nth_12 : decode cX10_nth 12 = .ok (.iconst 0, 1) := by decide +kernel
theorem dX10_nth_13 : decode cX10_nth 13 = .ok (.iconst 2, 1) := by decide +kernel
theorem dX10_nth_14 : decode cX10_nth 14 = .ok (.invokestatic 101, 3) := by decide +kernel
theorem dX10_nth_17 : decode cX10_nth 17 = .ok (.ifCond .eq 11, 3) := by decide +kernel
theorem dX10_nth_20 : decode cX10_nth 20 = .ok (.iload_n 1, 1) := by decide +kernel
theorem dX10_nth_21 : decode cX10_nth 21 = .ok (.ifCond .lt 7, 3) := by decide +kernel
theorem dX10_nth_24 : decode cX10_nth 24 = .ok (.iconst 0, 1) := by decide +kernel
theorem dX10_nth_25 : decode cX10_nth 25 = .ok (.goto 4, 3) := by decide +kernel
theorem dX10_nth_28 : decode cX10_nth 28 = .ok (.iconst 1, 1) := by decide +kernel
theorem dX10_nth_29 : decode cX10_nth 29 = .ok (.invokevirtual 105, 3) := by decide +kernel
theorem dX10_nth_32 : decode cX10_nth 32 = .ok (.ifCond .eq 5, 3) := by decide +kernel
theorem dX10_nth_35 : decode cX10_nth 35 = .ok (.iconst (-1), 1) := by decide +kernel
theorem dX10_nth_36 : decode cX10_nth 36 = .ok (.ireturn, 1) := by decide +kernel
theorem dX10_nth_37 : decode cX10_nth 37 = .ok (.aload_n 0, 1) := by decide +kernel
theorem dX10_nth_38 : decode cX10_nth 38 = .ok (.getfield 61, 3) := by decide +kernel
theorem dX10_nth_41 : decode cX10_nth 41 = .ok (.iload_n 1, 1) := by decide +kernel
theorem dX10_nth_42 : decode cX10_nth 42 = .ok (.iload_n 2, 1) := by decide +kernel
theorem dX10_nth_43 : decode cX10_nth 43 = .ok (.invokevirtual 261, 3) := by decide +kernel
theorem dX10_nth_46 : decode cX10_nth 46 = .ok (.ireturn, 1) := by decide +kernel
theorem dX10_total_0 : decode cX10_total 0 = .ok (.aload_n 0, 1) := by decide +kernel
theorem dX10_total_1 : decode cX10_total 1 = .ok (.aload_n 0, 1) := by decide +kernel
theorem dX10_total_2 : decode cX10_total 2 = .ok (.getfield 54, 3) := by decide +kernel
theorem dX10_total_5 : decode cX10_total 5 = .ok (.invokevirtual 242, 3) := by decide +kernel
theorem dX10_total_8 : decode cX10_total 8 = .ok (.ifCond .eq 16, 3) := by decide +kernel
theorem dX10_total_11 : decode cX10_total 11 = .ok (.iload_n 1, 1) := by decide +kernel
theorem dX10_total_12 : decode cX10_total 12 = .ok (.iconst 0, 1) := by decide +kernel
theorem dX10_total_13 : decode cX10_total 13 = .ok (.iconst 1, 1) := by decide +kernel
theorem dX10_total_14 : decode cX10_total 14 = .ok (.invokestatic 101, 3) := by decide +kernel
theorem dX10_total_17 : decode cX10_total 17 = .ok (.ifCond .eq 7, 3) := by decide +kernel
theorem dX10_total_20 : decode cX10_total 20 = .ok (.iconst 0, 1) := by decide +kernel
theorem dX10_total_21 : decode cX10_total 21 = .ok (.goto 4, 3) := by decide +kernel
theorem dX10_total_24 : decode cX10_total 24 = .ok (.iconst 1, 1) := by decide +kernel
theorem dX10_total_25 : decode cX10_total 25 = .ok (.invokevirtual 105, 3) := by decide +kernel
theorem dX10_total_28 : decode cX10_total 28 = .ok (.ifCond .eq 7, 3) := by decide +kernel
theorem dX10_total_31 : decode cX10_total 31 = .ok (.ldc2_w 255, 3) := by decide +kernel
theorem dX10_total_34 : decode cX10_total 34 = .ok (.lreturn, 1) := by decide +kernel
theorem dX10_total_35 : decode cX10_total 35 = .ok (.aload_n 0, 1) := by decide +kernel
theorem dX10_total_36 : decode cX10_total 36 = .ok (.getfield 54, 3) := by decide +kernel
theorem dX10_total_39 : decode cX10_total 39 = .ok (.iload_n 1, 1) := by decide +kernel
theorem dX10_total_40 : decode cX10_total 40 = .ok (.iconst 1, 1) := by decide +kernel
theorem dX10_total_41 : decode cX10_total 41 = .ok (.if_icmp .ne 7, 3) := by decide +kernel
theorem dX10_total_44 : decode cX10_total 44 = .ok (.iconst 1, 1) := by decide +kernel
theorem dX10_total_45 : decode cX10_total 45 = .ok (.goto 4, 3) := by decide +kernel
theorem dX10_total_48 : decode cX10_total 48 = .ok (.iconst 0, 1) := by decide +kernel
theorem dX10_total_49 : decode cX10_total 49 = .ok (.invokevirtual 264, 3) := by decide +kernel
theorem dX10_total_52 : decode cX10_total 52 = .ok (.lreturn, 1) := by decide +kernel
theorem dX10_blur_0 : decode cX10_blur 0 = .ok (.aload_n 0, 1) := by decide +kernel
theorem dX10_blur_1 : decode cX10_blur 1 = .ok (.aload_n 0, 1) := by decide +kernel
theorem dX10_blur_2 : decode cX10_blur 2 = .ok (.getfield 54, 3) := by decide +kernel
theorem dX10_blur_5 : decode cX10_blur 5 = .ok (.invokevirtual 242, 3) := by decide +kernel
theorem dX10_blur_8 : decode cX10_blur 8 = .ok (.ifCond .eq 12, 3) := by decide +kernel
theorem dX10_blur_11 : decode cX10_blur 11 = .ok (.iload_n 1, 1) := by decide +kernel
theorem dX10_blur_12 : decode cX10_blur 12 = .ok (.iconst 0, 1) := by decide +kernel
theorem dX10_blur_13 : decode cX10_blur 13 = .ok (.iconst 2, 1) := by decide +kernel
theorem dX10_blur_14 : decode cX10_blur 14 = .ok (.invokestatic 101, 3) := by decide +kernel
theorem dX10_blur_17 : decode cX10_blur 17 = .ok (.ifCond .ne 7, 3) := by decide +kernel
theorem dX10_blur_20 : decode cX10_blur 20 = .ok (.iconst 1, 1) := by decide +kernel
theorem dX10_blur_21 : decode cX10_blur 21 = .ok (.goto 20, 3) := by decide +kernel
theorem dX10_blur_24 : decode cX10_blur 24 = .ok (.aload_n 0, 1) := by decide +kernel
theorem dX10_blur_25 : decode cX10_blur 25 = .ok (.getfield 54, 3) := by decide +kernel
theorem dX10_blur_28 : decode cX10_blur 28 = .ok (.iload_n 1, 1) := by decide +kernel
theorem dX10_blur_29 : decode cX10_blur 29 = .ok (.invokevirtual 252, 3) := by decide +kernel
theorem dX10_blur_32 : decode cX10_blur 32 = .ok (.iconst 3, 1) := by decide +kernel
theorem dX10_blur_33 : decode cX10_blur 33 = .ok (.if_icmp .lt 7, 3) := by decide +kernel
theorem dX10_blur_36 : decode cX10_blur 36 = .ok (.iconst 3, 1) := by decide +kernel
theorem dX10_blur_37 : decode cX10_blur 37 = .ok (.goto 4, 3) := by decide +kernel
theorem dX10_blur_40 : decode cX10_blur 40 = .ok (.iconst 0, 1) := by decide +kernel
theorem dX10_blur_41 : decode cX10_blur 41 = .ok (.invokevirtual 105, 3) := by decide +kernel
theorem dX10_blur_44 : decode cX10_blur 44 = .ok (.ifCond .eq 5, 3) := by decide +kernel
theorem dX10_blur_47 : decode cX10_blur 47 = .ok (.iconst (-1), 1) := by decide +kernel
theorem dX10_blur_48 : decode cX10_blur 48 = .ok (.ireturn, 1) := by decide +kernel
theorem dX10_blur_49 : decode cX10_blur 49 = .ok (.aload_n 0, 1) := by decide +kernel
theorem dX10_blur_50 : decode cX10_blur 50 = .ok (.getfield 54, 3) := by decide +kernel
theorem dX10_blur_53 : decode cX10_blur 53 = .ok (.iload_n 1, 1) := by decide +kernel
theorem dX10_blur_54 : decode cX10_blur 54 = .ok (.invokevirtual 268, 3) := by decide +kernel
theorem dX10_blur_57 : decode cX10_blur 57 = .ok (.aload_n 0, 1) := by decide +kernel
theorem dX10_blur_58 : decode cX10_blur 58 = .ok (.getfield 61, 3) := by decide +kernel
theorem dX10_blur_61 : decode cX10_blur 61 = .ok (.iload_n 1, 1) := by decide +kernel
theorem dX10_blur_62 : decode cX10_blur 62 = .ok (.invokevirtual 271, 3) := by decide +kernel
theorem dX10_blur_65 : decode cX10_blur 65 = .ok (.aload_n 0, 1) := by decide +kernel
theorem dX10_blur_66 : decode cX10_blur 66 = .ok (.getfield 61, 3) := by decide +kernel
theorem dX10_blur_69 : decode cX10_blur 69 = .ok (.invokevirtual 241, 3) := by decide +kernel
theorem dX10_blur_72 : decode cX10_blur 72 = .ok (.ireturn, 1) := by decide +kernel
theorem dX10_read_0 : decode cX10_read 0 = .ok (.aload_n 0, 1) := by decide +kernel
theorem dX10_read_1 : decode cX10_read 1 = .ok (.aload_n 0, 1) := by decide +kernel
theorem dX10_read_2 : decode cX10_read 2 = .ok (.getfield 54, 3) := by decide +kernel
theorem dX10_read_5 : decode cX10_read 5 = .ok (.iload_n 1, 1) := by decide +kernel
theorem dX10_read_6 : decode cX10_read 6 = .ok (.iload_n 2, 1) := by decide +kernel
theorem dX10_read_7 : decode cX10_read 7 = .ok (.invokevirtual 274, 3) := by decide +kernel
theorem dX10_read_10 : decode cX10_read 10 = .ok (.ifCond .eq 13, 3) := by decide +kernel
theorem dX10_read_13 : decode cX10_read 13 = .ok (.iload 4, 2) := by decide +kernel
theorem dX10_read_15 : decode cX10_read 15 = .ok (.iconst 0, 1) := by decide +kernel
theorem dX10_read_16 : decode cX10_read 16 = .ok (.iconst 1, 1) := by decide +kernel
theorem dX10_read_17 : decode cX10_read 17 = .ok (.invokestatic 101, 3) := by decide +kernel
theorem dX10_read_20 : decode cX10_read 20 = .ok (.ifCond .ne 7, 3) := by decide +kernel
theorem dX10_read_23 : decode cX10_read 23 = .ok (.iconst 1, 1) := by decide +kernel
theorem dX10_read_24 : decode cX10_read 24 = .ok (.goto 15, 3) := by decide +kernel
theorem dX10_read_27 : decode cX10_read 27 = .ok (.iload_n 3, 1) := by decide +kernel
theorem dX10_read_28 : decode cX10_read 28 = .ok (.invokestatic 178, 3) := by decide +kernel
theorem dX10_read_31 : decode cX10_read 31 = .ok (.ifCond .ne 7, 3) := by decide +kernel
theorem dX10_read_34 : decode cX10_read 34 = .ok (.iconst 2, 1) := by decide +kernel
theorem dX10_read_35 : decode cX10_read 35 = .ok (.goto 4, 3) := by decide +kernel
theorem dX10_read_38 : decode cX10_read 38 = .ok (.iconst 0, 1) := by decide +kernel
theorem dX10_read_39 : decode cX10_read 39 = .ok (.invokevirtual 105, 3) := by decide +kernel
theorem dX10_read_42 : decode cX10_read 42 = .ok (.ifCond .eq 7, 3) := by decide +kernel
theorem dX10_read_45 : decode cX10_read 45 = .ok (.ldc2_w 255, 3) := by decide +kernel
theorem dX10_read_48 : decode cX10_read 48 = .ok (.lreturn, 1) := by decide +kernel
theorem dX10_read_49 : decode cX10_read 49 = .ok (.aload_n 0, 1) := by decide +kernel
theorem dX10_read_50 : decode cX10_read 50 = .ok (.getfield 54, 3) := by decide +kernel
theorem dX10_read_53 : decode cX10_read 53 = .ok (.iload_n 1, 1) := by decide +kernel
theorem dX10_read_54 : decode cX10_read 54 = .ok (.iload_n 2, 1) := by decide +kernel
theorem dX10_read_55 : decode cX10_read 55 = .ok (.iload_n 3, 1) := by decide +kernel
theorem dX10_read_56 : decode cX10_read 56 = .ok (.invokevirtual 276, 3) := by decide +kernel
theorem dX10_read_59 : decode cX10_read 59 = .ok (.aload_n 0, 1) := by decide +kernel
theorem dX10_read_60 : decode cX10_read 60 = .ok (.getfield 54, 3) := by decide +kernel
theorem dX10_read_63 : decode cX10_read 63 = .ok (.getfield 279, 3) := by decide +kernel
theorem dX10_read_66 : decode cX10_read 66 = .ok (.aload_n 0, 1) := by decide +kernel
theorem dX10_read_67 : decode cX10_read 67 = .ok (.getfield 54, 3) := by decide +kernel
theorem dX10_read_70 : decode cX10_read 70 = .ok (.getfield 283, 3) := by decide +kernel
theorem dX10_read_73 : decode cX10_read 73 = .ok (.invokestatic 286, 3) := by decide +kernel
theorem dX10_read_76 : decode cX10_read 76 = .ok (.lstore 5, 2) := by decide +kernel
theorem dX10_read_78 : decode cX10_read 78 = .ok (.aload_n 0, 1) := by decide +kernel
theorem dX10_read_79 : decode cX10_read 79 = .ok (.aload_n 0, 1) := by decide +kernel
theorem dX10_read_80 : decode cX10_read 80 = .ok (.getfield 54, 3) := by decide +kernel
theorem dX10_read_83 : decode cX10_read 83 = .ok (.getfield 283, 3) := by decide +kernel
theorem dX10_read_86 : decode cX10_read 86 = .ok (.lconst 0, 1) := by decide +kernel
theorem dX10_read_87 : decode cX10_read 87 = .ok (.lcmp, 1) := by decide +kernel
theorem dX10_read_88 : decode cX10_read 88 = .ok (.ifCond .eq 10, 3) := by decide +kernel
theorem dX10_read_91 : decode cX10_read 91 = .ok (.lload 5, 2) := by decide +kernel
theorem dX10_read_93 : decode cX10_read 93 = .ok (.lconst 0, 1) := by decide +kernel
theorem dX10_read_94 : decode cX10_read 94 = .ok (.lcmp, 1) := by decide +kernel
theorem dX10_read_95 : decode cX10_read 95 = .ok (.ifCond .gt 7, 3) := by decide +kernel
theorem dX10_read_98 : decode cX10_read 98 = .ok (.iconst 5, 1) := by decide +kernel
theorem dX10_read_99 : decode cX10_read 99 = .ok (.goto 4, 3) := by decide +kernel
theorem dX10_read_102 : decode cX10_read 102 = .ok (.iconst 0, 1) := by decide +kernel
theorem dX10_read_103 : decode cX10_read 103 = .ok (.invokevirtual 105, 3) := by decide +kernel
theorem dX10_read_106 : decode cX10_read 106 = .ok (.ifCond .eq 7, 3) := by decide +kernel
theorem dX10_read_109 : decode cX10_read 109 = .ok (.ldc2_w 255, 3) := by decide +kernel
theorem dX10_read_112 : decode cX10_read 112 = .ok (.lreturn, 1) := by decide +kernel
theorem dX10_read_113 : decode cX10_read 113 = .ok (.iload 4, 2) := by decide +kernel
theorem dX10_read_115 : decode cX10_read 115 = .ok (.ifCond .ne 13, 3) := by decide +kernel
theorem dX10_read_118 : decode cX10_read 118 = .ok (.aload_n 0, 1) := by decide +kernel
theorem dX10_read_119 : decode cX10_read 119 = .ok (.getfield 54, 3) := by decide +kernel
theorem dX10_read_122 : decode cX10_read 122 = .ok (.getfield 279, 3) := by decide +kernel
theorem dX10_read_125 : decode cX10_read 125 = .ok (.goto 10, 3) := by decide +kernel
theorem dX10_read_128 : decode cX10_read 128 = .ok (.aload_n 0, 1) := by decide +kernel
theorem dX10_read_129 : decode cX10_read 129 = .ok (.getfield 54, 3) := by decide +kernel
theorem dX10_read_132 : decode cX10_read 132 = .ok (.getfield 283, 3) := by decide +kernel
theorem dX10_read_135 : decode cX10_read 135 = .ok (.lload 5, 2) := by decide +kernel
theorem dX10_read_137 : decode cX10_read 137 = .ok (.ldiv, 1) := by decide +kernel
theorem dX10_read_138 : decode cX10_read 138 = .ok (.lreturn, 1) := by decide +kernel
theorem dX10_readShade_0 : decode cX10_readShade 0 = .ok (.aload_n 0, 1) := by decide +kernel
theorem dX10_readShade_1 : decode cX10_readShade 1 = .ok (.aload_n 0, 1) := by decide +kernel
theorem dX10_readShade_2 : decode cX10_readShade 2 = .ok (.getfield 54, 3) := by decide +kernel
theorem dX10_readShade_5 : decode cX10_readShade 5 = .ok (.iload_n 1, 1) := by decide +kernel
theorem dX10_readShade_6 : decode cX10_readShade 6 = .ok (.iload_n 2, 1) := by decide +kernel
theorem dX10_readShade_7 : decode cX10_readShade 7 = .ok (.invokevirtual 274, 3) := by decide +kernel
theorem dX10_readShade_10 : decode cX10_readShade 10 = .ok (.ifCond .eq 7, 3) := by decide +kernel
theorem dX10_readShade_13 : decode cX10_readShade 13 = .ok (.iconst 0, 1) := by decide +kernel
theorem dX10_readShade_14 : decode cX10_readShade 14 = .ok (.goto 4, 3) := by decide +kernel
theorem dX10_readShade_17 : decode cX10_readShade 17 = .ok (.iconst 1, 1) := by decide +kernel
theorem dX10_readShade_18 : decode cX10_readShade 18 = .ok (.invokevirtual 105, 3) := by decide +kernel
theorem dX10_readShade_21 : decode cX10_readShade 21 = .ok (.ifCond .eq 5, 3) := by decide +kernel
theorem dX10_readShade_24 : decode cX10_readShade 24 = .ok (.iconst (-1), 1) := by decide +kernel
theorem dX10_readShade_25 : decode cX10_readShade 25 = .ok (.ireturn, 1) := by decide +kernel
theorem dX10_readShade_26 : decode cX10_readShade 26 = .ok (.aload_n 0, 1) := by decide +kernel
theorem dX10_readShade_27 : decode cX10_readShade 27 = .ok (.getfield 54, 3) := by decide +kernel
theorem dX10_readShade_30 : decode cX10_readShade 30 = .ok (.iload_n 1, 1) := by decide +kernel
theorem dX10_readShade_31 : decode cX10_readShade 31 = .ok (.iload_n 2, 1) := by decide +kernel
theorem dX10_readShade_32 : decode cX10_readShade 32 = .ok (.invokevirtual 290, 3) := by decide +kernel
theorem dX10_readShade_35 : decode cX10_readShade 35 = .ok (.ireturn, 1) := by decide +kernel
theorem dX10_commonDivisor_0 : decode cX10_commonDivisor 0 = .ok (.lload_n 0, 1) := by decide +kernel
theorem dX10_commonDivisor_1 : decode cX10_commonDivisor 1 = .ok (.lstore 4, 2) := by decide +kernel
theorem dX10_commonDivisor_3 : decode cX10_commonDivisor 3 = .ok (.lload_n 2, 1) := by decide +kernel
theorem dX10_commonDivisor_4 : decode cX10_commonDivisor 4 = .ok (.lstore 6, 2) := by decide +kernel
theorem dX10_commonDivisor_6 : decode cX10_commonDivisor 6 = .ok (.iconst 0, 1) := by decide +kernel
theorem dX10_commonDivisor_7 : decode cX10_commonDivisor 7 = .ok (.istore 8, 2) := by decide +kernel
theorem dX10_commonDivisor_9 : decode cX10_commonDivisor 9 = .ok (.iload 8, 2) := by decide +kernel
theorem dX10_commonDivisor_11 : decode cX10_commonDivisor 11 = .ok (.sipush 200, 3) := by decide +kernel
theorem dX10_commonDivisor_14 : decode cX10_commonDivisor 14 = .ok (.if_icmp .ge 31, 3) := by decide +kernel
theorem dX10_commonDivisor_17 : decode cX10_commonDivisor 17 = .ok (.lload 6, 2) := by decide +kernel
theorem dX10_commonDivisor_19 : decode cX10_commonDivisor 19 = .ok (.lconst 0, 1) := by decide +kernel
theorem dX10_commonDivisor_20 : decode cX10_commonDivisor 20 = .ok (.lcmp, 1) := by decide +kernel
theorem dX10_commonDivisor_21 : decode cX10_commonDivisor 21 = .ok (.ifCond .le 24, 3) := by decide +kernel
theorem dX10_commonDivisor_24 : decode cX10_commonDivisor 24 = .ok (.lload 4, 2) := by decide +kernel
theorem dX10_commonDivisor_26 : decode cX10_commonDivisor 26 = .ok (.lload 6, 2) := by decide +kernel
theorem dX10_commonDivisor_28 : decode cX10_commonDivisor 28 = .ok (.lrem, 1) := by decide +kernel
theorem dX10_commonDivisor_29 : decode cX10_commonDivisor 29 = .ok (.lstore 9, 2) := by decide +kernel
theorem dX10_commonDivisor_31 : decode cX10_commonDivisor 31 = .ok (.lload 6, 2) := by decide +kernel
theorem dX10_commonDivisor_33 : decode cX10_commonDivisor 33 = .ok (.lstore 4, 2) := by decide +kernel
theorem dX10_commonDivisor_35 : decode cX10_commonDivisor 35 = .ok (.lload 9, 2) := by decide +kernel
theorem dX10_commonDivisor_37 : decode cX10_commonDivisor 37 = .ok (.lstore 6, 2) := by decide +kernel
theorem dX10_commonDivisor_39 : decode cX10_commonDivisor 39 = .ok (.iinc 8 1, 3) := by decide +kernel
theorem dX10_commonDivisor_42 : decode cX10_commonDivisor 42 = .ok (.goto (-33), 3) := by decide +kernel
theorem dX10_commonDivisor_45 : decode cX10_commonDivisor 45 = .ok (.lload 4, 2) := by decide +kernel
theorem dX10_commonDivisor_47 : decode cX10_commonDivisor 47 = .ok (.lreturn, 1) := by decide +kernel
theorem dX10_smooth_0 : decode cX10_smooth 0 = .ok (.aload_n 0, 1) := by decide +kernel
theorem dX10_smooth_1 : decode cX10_smooth 1 = .ok (.iload_n 1, 1) := by decide +kernel
theorem dX10_smooth_2 : decode cX10_smooth 2 = .ok (.invokestatic 191, 3) := by decide +kernel
theorem dX10_smooth_5 : decode cX10_smooth 5 = .ok (.ifCond .eq 19, 3) := by decide +kernel
theorem dX10_smooth_8 : decode cX10_smooth 8 = .ok (.aload_n 0, 1) := by decide +kernel
theorem dX10_smooth_9 : decode cX10_smooth 9 = .ok (.iload_n 2, 1) := by decide +kernel
theorem dX10_smooth_10 : decode cX10_smooth 10 = .ok (.invokevirtual 145, 3) := by decide +kernel
theorem dX10_smooth_13 : decode cX10_smooth 13 = .ok (.ifCond .eq 11, 3) := by decide +kernel
theorem dX10_smooth_16 : decode cX10_smooth 16 = .ok (.aload_n 0, 1) := by decide +kernel
theorem dX10_smooth_17 : decode cX10_smooth 17 = .ok (.iload_n 3, 1) := by decide +kernel
theorem dX10_smooth_18 : decode cX10_smooth 18 = .ok (.invokevirtual 145, 3) := by decide +kernel
theorem dX10_smooth_21 : decode cX10_smooth 21 = .ok (.ifCond .ne 7, 3) := by decide +kernel
theorem dX10_smooth_24 : decode cX10_smooth 24 = .ok (.iconst 1, 1) := by decide +kernel
theorem dX10_smooth_25 : decode cX10_smooth 25 = .ok (.goto 39, 3) := by decide +kernel
theorem dX10_smooth_28 : decode cX10_smooth 28 = .ok (.iload 4, 2) := by decide +kernel
theorem dX10_smooth_30 : decode cX10_smooth 30 = .ok (.iload 5, 2) := by decide +kernel
theorem dX10_smooth_32 : decode cX10_smooth 32 = .ok (.invokestatic 227, 3) := by decide +kernel
theorem dX10_smooth_35 : decode cX10_smooth 35 = .ok (.ifCond .eq 11, 3) := by decide +kernel
theorem dX10_smooth_38 : decode cX10_smooth 38 = .ok (.iload 6, 2) := by decide +kernel
theorem dX10_smooth_40 : decode cX10_smooth 40 = .ok (.invokestatic 293, 3) := by decide +kernel
theorem dX10_smooth_43 : decode cX10_smooth 43 = .ok (.ifCond .ne 7, 3) := by decide +kernel
theorem dX10_smooth_46 : decode cX10_smooth 46 = .ok (.iconst 2, 1) := by decide +kernel
theorem dX10_smooth_47 : decode cX10_smooth 47 = .ok (.goto 17, 3) := by decide +kernel
theorem dX10_smooth_50 : decode cX10_smooth 50 = .ok (.aload_n 0, 1) := by decide +kernel
theorem dX10_smooth_51 : decode cX10_smooth 51 = .ok (.iload_n 2, 1) := by decide +kernel
theorem dX10_smooth_52 : decode cX10_smooth 52 = .ok (.iload_n 3, 1) := by decide +kernel
theorem dX10_smooth_53 : decode cX10_smooth 53 = .ok (.invokevirtual 231, 3) := by decide +kernel
theorem dX10_smooth_56 : decode cX10_smooth 56 = .ok (.ifCond .ne 7, 3) := by decide +kernel
theorem dX10_smooth_59 : decode cX10_smooth 59 = .ok (.iconst 5, 1) := by decide +kernel
theorem dX10_smooth_60 : decode cX10_smooth 60 = .ok (.goto 4, 3) := by decide +kernel
theorem dX10_smooth_63 : decode cX10_smooth 63 = .ok (.iconst 0, 1) := by decide +kernel
theorem dX10_smooth_64 : decode cX10_smooth 64 = .ok (.invokevirtual 105, 3) := by decide +kernel
theorem dX10_smooth_67 : decode cX10_smooth 67 = .ok (.ifCond .eq 5, 3) := by decide +kernel
theorem dX10_smooth_70 : decode cX10_smooth 70 = .ok (.iconst (-1), 1) := by decide +kernel
theorem dX10_smooth_71 : decode cX10_smooth 71 = .ok (.ireturn, 1) := by decide +kernel
theorem dX10_smooth_72 : decode cX10_smooth 72 = .ok (.aload_n 0, 1) := by decide +kernel
theorem dX10_smooth_73 : decode cX10_smooth 73 = .ok (.aload_n 0, 1) := by decide +kernel
theorem dX10_smooth_74 : decode cX10_smooth 74 = .ok (.getfield 11, 3) := by decide +kernel
theorem dX10_smooth_77 : decode cX10_smooth 77 = .ok (.iload_n 2, 1) := by decide +kernel
theorem dX10_smooth_78 : decode cX10_smooth 78 = .ok (.aaload, 1) := by decide +kernel
theorem dX10_smooth_79 : decode cX10_smooth 79 = .ok (.aload_n 0, 1) := by decide +kernel
theorem dX10_smooth_80 : decode cX10_smooth 80 = .ok (.getfield 11, 3) := by decide +kernel
theorem dX10_smooth_83 : decode cX10_smooth 83 = .ok (.iload_n 3, 1) := by decide +kernel
theorem dX10_smooth_84 : decode cX10_smooth 84 = .ok (.aaload, 1) := by decide +kernel
theorem dX10_smooth_85 : decode cX10_smooth 85 = .ok (.iload 4, 2) := by decide +kernel
theorem dX10_smooth_87 : decode cX10_smooth 87 = .ok (.iload 5, 2) := by decide +kernel
theorem dX10_smooth_89 : decode cX10_smooth 89 = .ok (.iload 6, 2) := by decide +kernel
theorem dX10_smooth_91 : decode cX10_smooth 91 = .ok (.invokevirtual 296, 3) := by decide +kernel
theorem dX10_smooth_94 : decode cX10_smooth 94 = .ok (.aload_n 0, 1) := by decide +kernel
theorem dX10_smooth_95 : decode cX10_smooth 95 = .ok (.iload_n 1, 1) := by decide +kernel
theorem dX10_smooth_96 : decode cX10_smooth 96 = .ok (.iload_n 2, 1) := by decide +kernel
theorem dX10_smooth_97 : decode cX10_smooth 97 = .ok (.invokevirtual 220, 3) := by decide +kernel
theorem dX10_smooth_100 : decode cX10_smooth 100 = .ok (.ireturn, 1) := by decide +kernel
theorem dX10_box_0 : decode cX10_box 0 = .ok (.aload_n 0, 1) := by decide +kernel
theorem dX10_box_1 : decode cX10_box 1 = .ok (.iload_n 1, 1) := by decide +kernel
theorem dX10_box_2 : decode cX10_box 2 = .ok (.iload_n 2, 1) := by decide +kernel
theorem dX10_box_3 : decode cX10_box 3 = .ok (.iload_n 3, 1) := by decide +kernel
theorem dX10_box_4 : decode cX10_box 4 = .ok (.iconst 0, 1) := by decide +kernel
theorem dX10_box_5 : decode cX10_box 5 = .ok (.invokevirtual 299, 3) := by decide +kernel
theorem dX10_box_8 : decode cX10_box 8 = .ok (.ireturn, 1) := by decide +kernel
theorem dX10_median_0 : decode cX10_median 0 = .ok (.aload_n 0, 1) := by decide +kernel
theorem dX10_median_1 : decode cX10_median 1 = .ok (.iload_n 1, 1) := by decide +kernel
theorem dX10_median_2 : decode cX10_median 2 = .ok (.iload_n 2, 1) := by decide +kernel
theorem dX10_median_3 : decode cX10_median 3 = .ok (.iload_n 3, 1) := by decide +kernel
theorem dX10_median_4 : decode cX10_median 4 = .ok (.iconst 1, 1) := by decide +kernel
theorem dX10_median_5 : decode cX10_median 5 = .ok (.invokevirtual 299, 3) := by decide +kernel
theorem dX10_median_8 : decode cX10_median 8 = .ok (.ireturn, 1) := by decide +kernel
theorem dX10_mix_0 : decode cX10_mix 0 = .ok (.aload_n 0, 1) := by decide +kernel
theorem dX10_mix_1 : decode cX10_mix 1 = .ok (.iload_n 1, 1) := by decide +kernel
theorem dX10_mix_2 : decode cX10_mix 2 = .ok (.invokestatic 191, 3) := by decide +kernel
theorem dX10_mix_5 : decode cX10_mix 5 = .ok (.ifCond .eq 19, 3) := by decide +kernel
theorem dX10_mix_8 : decode cX10_mix 8 = .ok (.aload_n 0, 1) := by decide +kernel
theorem dX10_mix_9 : decode cX10_mix 9 = .ok (.iload_n 2, 1) := by decide +kernel
theorem dX10_mix_10 : decode cX10_mix 10 = .ok (.invokevirtual 145, 3) := by decide +kernel
theorem dX10_mix_13 : decode cX10_mix 13 = .ok (.ifCond .eq 11, 3) := by decide +kernel
theorem dX10_mix_16 : decode cX10_mix 16 = .ok (.aload_n 0, 1) := by decide +kernel
theorem dX10_mix_17 : decode cX10_mix 17 = .ok (.iload_n 3, 1) := by decide +kernel
theorem dX10_mix_18 : decode cX10_mix 18 = .ok (.invokevirtual 145, 3) := by decide +kernel
theorem dX10_mix_21 : decode cX10_mix 21 = .ok (.ifCond .ne 7, 3) := by decide +kernel
theorem dX10_mix_24 : decode cX10_mix 24 = .ok (.iconst 1, 1) := by decide +kernel
theorem dX10_mix_25 : decode cX10_mix 25 = .ok (.goto 32, 3) := by decide +kernel
theorem dX10_mix_28 : decode cX10_mix 28 = .ok (.iload 4, 2) := by decide +kernel
theorem dX10_mix_30 : decode cX10_mix 30 = .ok (.iconst 0, 1) := by decide +kernel
theorem dX10_mix_31 : decode cX10_mix 31 = .ok (.bipush 100, 2) := by decide +kernel
theorem dX10_mix_33 : decode cX10_mix 33 = .ok (.invokestatic 101, 3) := by decide +kernel
theorem dX10_mix_36 : decode cX10_mix 36 = .ok (.ifCond .ne 7, 3) := by decide +kernel
theorem dX10_mix_39 : decode cX10_mix 39 = .ok (.iconst 2, 1) := by decide +kernel
theorem dX10_mix_40 : decode cX10_mix 40 = .ok (.goto 17, 3) := by decide +kernel
theorem dX10_mix_43 : decode cX10_mix 43 = .ok (.aload_n 0, 1) := by decide +kernel
theorem dX10_mix_44 : decode cX10_mix 44 = .ok (.iload_n 2, 1) := by decide +kernel
theorem dX10_mix_45 : decode cX10_mix 45 = .ok (.iload_n 3, 1) := by decide +kernel
theorem dX10_mix_46 : decode cX10_mix 46 = .ok (.invokevirtual 231, 3) := by decide +kernel
theorem dX10_mix_49 : decode cX10_mix 49 = .ok (.ifCond .ne 7, 3) := by decide +kernel
theorem dX10_mix_52 : decode cX10_mix 52 = .ok (.iconst 5, 1) := by decide +kernel
theorem dX10_mix_53 : decode cX10_mix 53 = .ok (.goto 4, 3) := by decide +kernel
theorem dX10_mix_56 : decode cX10_mix 56 = .ok (.iconst 0, 1) := by decide +kernel
theorem dX10_mix_57 : decode cX10_mix 57 = .ok (.invokevirtual 105, 3) := by decide +kernel
theorem dX10_mix_60 : decode cX10_mix 60 = .ok (.ifCond .eq 5, 3) := by decide +kernel
theorem dX10_mix_63 : decode cX10_mix 63 = .ok (.iconst 0, 1) := by decide +kernel
theorem dX10_mix_64 : decode cX10_mix 64 = .ok (.ireturn, 1) := by decide +kernel
theorem dX10_mix_65 : decode cX10_mix 65 = .ok (.aload_n 0, 1) := by decide +kernel
theorem dX10_mix_66 : decode cX10_mix 66 = .ok (.getfield 16, 3) := by decide +kernel
theorem dX10_mix_69 : decode cX10_mix 69 = .ok (.aload_n 0, 1) := by decide +kernel
theorem dX10_mix_70 : decode cX10_mix 70 = .ok (.getfield 11, 3) := by decide +kernel
theorem dX10_mix_73 : decode cX10_mix 73 = .ok (.iload_n 2, 1) := by decide +kernel
theorem dX10_mix_74 : decode cX10_mix 74 = .ok (.aaload, 1) := by decide +kernel
theorem dX10_mix_75 : decode cX10_mix 75 = .ok (.invokevirtual 137, 3) := by decide +kernel
theorem dX10_mix_78 : decode cX10_mix 78 = .ok (.aload_n 0, 1) := by decide +kernel
theorem dX10_mix_79 : decode cX10_mix 79 = .ok (.getfield 11, 3) := by decide +kernel
theorem dX10_mix_82 : decode cX10_mix 82 = .ok (.iload_n 3, 1) := by decide +kernel
theorem dX10_mix_83 : decode cX10_mix 83 = .ok (.aaload, 1) := by decide +kernel
theorem dX10_mix_84 : decode cX10_mix 84 = .ok (.astore 5, 2) := by decide +kernel
theorem dX10_mix_86 : decode cX10_mix 86 = .ok (.iconst 0, 1) := by decide +kernel
theorem dX10_mix_87 : decode cX10_mix 87 = .ok (.istore 6, 2) := by decide +kernel
theorem dX10_mix_89 : decode cX10_mix 89 = .ok (.iload 6, 2) := by decide +kernel
theorem dX10_mix_91 : decode cX10_mix 91 = .ok (.aload_n 0, 1) := by decide +kernel
theorem dX10_mix_92 : decode cX10_mix 92 = .ok (.getfield 16, 3) := by decide +kernel
theorem dX10_mix_95 : decode cX10_mix 95 = .ok (.invokevirtual 212, 3) := by decide +kernel
theorem dX10_mix_98 : decode cX10_mix 98 = .ok (.if_icmp .ge 58, 3) := by decide +kernel
theorem dX10_mix_101 : decode cX10_mix 101 = .ok (.iload 4, 2) := by decide +kernel
theorem dX10_mix_103 : decode cX10_mix 103 = .ok (.aload_n 0, 1) := by decide +kernel
theorem dX10_mix_104 : decode cX10_mix 104 = .ok (.getfield 16, 3) := by decide +kernel
theorem dX10_mix_107 : decode cX10_mix 107 = .ok (.getfield 198, 3) := by decide +kernel
theorem dX10_mix_110 : decode cX10_mix 110 = .ok (.iload 6, 2) := by decide +kernel
theorem dX10_mix_112 : decode cX10_mix 112 = .ok (.iaload, 1) := by decide +kernel
theorem dX10_mix_113 : decode cX10_mix 113 = .ok (.imul, 1) := by decide +kernel
theorem dX10_mix_114 : decode cX10_mix 114 = .ok (.bipush 100, 2) := by decide +kernel
theorem dX10_mix_116 : decode cX10_mix 116 = .ok (.iload 4, 2) := by decide +kernel
theorem dX10_mix_118 : decode cX10_mix 118 = .ok (.isub, 1) := by decide +kernel
theorem dX10_mix_119 : decode cX10_mix 119 = .ok (.aload 5, 2) := by decide +kernel
theorem dX10_mix_121 : decode cX10_mix 121 = .ok (.getfield 198, 3) := by decide +kernel
theorem dX10_mix_124 : decode cX10_mix 124 = .ok (.iload 6, 2) := by decide +kernel
theorem dX10_mix_126 : decode cX10_mix 126 = .ok (.iaload, 1) := by decide +kernel
theorem dX10_mix_127 : decode cX10_mix 127 = .ok (.imul, 1) := by decide +kernel
theorem dX10_mix_128 : decode cX10_mix 128 = .ok (.iadd, 1) := by decide +kernel
theorem dX10_mix_129 : decode cX10_mix 129 = .ok (.istore 7, 2) := by decide +kernel
theorem dX10_mix_131 : decode cX10_mix 131 = .ok (.aload_n 0, 1) := by decide +kernel
theorem dX10_mix_132 : decode cX10_mix 132 = .ok (.getfield 16, 3) := by decide +kernel
theorem dX10_mix_135 : decode cX10_mix 135 = .ok (.getfield 198, 3) := by decide +kernel
theorem dX10_mix_138 : decode cX10_mix 138 = .ok (.iload 6, 2) := by decide +kernel
theorem dX10_mix_140 : decode cX10_mix 140 = .ok (.iload 7, 2) := by decide +kernel
theorem dX10_mix_142 : decode cX10_mix 142 = .ok (.i2l, 1) := by decide +kernel
theorem dX10_mix_143 : decode cX10_mix 143 = .ok (.ldc2_w 303, 3) := by decide +kernel
theorem dX10_mix_146 : decode cX10_mix 146 = .ok (.invokestatic 305, 3) := by decide +kernel
theorem dX10_mix_149 : decode cX10_mix 149 = .ok (.iastore, 1) := by decide +kernel
theorem dX10_mix_150 : decode cX10_mix 150 = .ok (.iinc 6 1, 3) := by decide +kernel
theorem dX10_mix_153 : decode cX10_mix 153 = .ok (.goto (-64), 3) := by decide +kernel
theorem dX10_mix_156 : decode cX10_mix 156 = .ok (.aload_n 0, 1) := by decide +kernel
theorem dX10_mix_157 : decode cX10_mix 157 = .ok (.iload_n 1, 1) := by decide +kernel
theorem dX10_mix_158 : decode cX10_mix 158 = .ok (.invokevirtual 188, 3) := by decide +kernel
theorem dX10_mix_161 : decode cX10_mix 161 = .ok (.iconst 1, 1) := by decide +kernel
theorem dX10_mix_162 : decode cX10_mix 162 = .ok (.ireturn, 1) := by decide +kernel
theorem dX10_above_0 : decode cX10_above 0 = .ok (.aload_n 0, 1) := by decide +kernel
theorem dX10_above_1 : decode cX10_above 1 = .ok (.iload_n 1, 1) := by decide +kernel
theorem dX10_above_2 : decode cX10_above 2 = .ok (.invokestatic 191, 3) := by decide +kernel
theorem dX10_above_5 : decode cX10_above 5 = .ok (.ifCond .eq 19, 3) := by decide +kernel
theorem dX10_above_8 : decode cX10_above 8 = .ok (.aload_n 0, 1) := by decide +kernel
theorem dX10_above_9 : decode cX10_above 9 = .ok (.iload_n 2, 1) := by decide +kernel
theorem dX10_above_10 : decode cX10_above 10 = .ok (.invokevirtual 145, 3) := by decide +kernel
theorem dX10_above_13 : decode cX10_above 13 = .ok (.ifCond .eq 11, 3) := by decide +kernel
theorem dX10_above_16 : decode cX10_above 16 = .ok (.aload_n 0, 1) := by decide +kernel
theorem dX10_above_17 : decode cX10_above 17 = .ok (.iload_n 3, 1) := by decide +kernel
theorem dX10_above_18 : decode cX10_above 18 = .ok (.invokevirtual 145, 3) := by decide +kernel
theorem dX10_above_21 : decode cX10_above 21 = .ok (.ifCond .ne 7, 3) := by decide +kernel
theorem dX10_above_24 : decode cX10_above 24 = .ok (.iconst 1, 1) := by decide +kernel
theorem dX10_above_25 : decode cX10_above 25 = .ok (.goto 17, 3) := by decide +kernel
theorem dX10_above_28 : decode cX10_above 28 = .ok (.aload_n 0, 1) := by decide +kernel
theorem dX10_above_29 : decode cX10_above 29 = .ok (.iload_n 2, 1) := by decide +kernel
theorem dX10_above_30 : decode cX10_above 30 = .ok (.iload_n 3, 1) := by decide +kernel
theorem dX10_above_31 : decode cX10_above 31 = .ok (.invokevirtual 231, 3) := by decide +kernel
theorem dX10_above_34 : decode cX10_above 34 = .ok (.ifCond .ne 7, 3) := by decide +kernel
theorem dX10_above_37 : decode cX10_above 37 = .ok (.iconst 5, 1) := by decide +kernel
theorem dX10_above_38 : decode cX10_above 38 = .ok (.goto 4, 3) := by decide +kernel
theorem dX10_above_41 : decode cX10_above 41 = .ok (.iconst 0, 1) := by decide +kernel
theorem dX10_above_42 : decode cX10_above 42 = .ok (.invokevirtual 105, 3) := by decide +kernel
theorem dX10_above_45 : decode cX10_above 45 = .ok (.ifCond .eq 5, 3) := by decide +kernel
theorem dX10_above_48 : decode cX10_above 48 = .ok (.iconst (-1), 1) := by decide +kernel
theorem dX10_above_49 : decode cX10_above 49 = .ok (.ireturn, 1) := by decide +kernel
theorem dX10_above_50 : decode cX10_above 50 = .ok (.aload_n 0, 1) := by decide +kernel
theorem dX10_above_51 : decode cX10_above 51 = .ok (.getfield 16, 3) := by decide +kernel
theorem dX10_above_54 : decode cX10_above 54 = .ok (.aload_n 0, 1) := by decide +kernel
theorem dX10_above_55 : decode cX10_above 55 = .ok (.getfield 11, 3) := by decide +kernel
theorem dX10_above_58 : decode cX10_above 58 = .ok (.iload_n 2, 1) := by decide +kernel
theorem dX10_above_59 : decode cX10_above 59 = .ok (.aaload, 1) := by decide +kernel
theorem dX10_above_60 : decode cX10_above 60 = .ok (.invokevirtual 137, 3) := by decide +kernel
theorem dX10_above_63 : decode cX10_above 63 = .ok (.aload_n 0, 1) := by decide +kernel
theorem dX10_above_64 : decode cX10_above 64 = .ok (.getfield 11, 3) := by decide +kernel
theorem dX10_above_67 : decode cX10_above 67 = .ok (.iload_n 3, 1) := by decide +kernel
theorem dX10_above_68 : decode cX10_above 68 = .ok (.aaload, 1) := by decide +kernel
theorem dX10_above_69 : decode cX10_above 69 = .ok (.astore 4, 2) := by decide +kernel
theorem dX10_above_71 : decode cX10_above 71 = .ok (.iconst 0, 1) := by decide +kernel
theorem dX10_above_72 : decode cX10_above 72 = .ok (.istore 5, 2) := by decide +kernel
theorem dX10_above_74 : decode cX10_above 74 = .ok (.iconst 0, 1) := by decide +kernel
theorem dX10_above_75 : decode cX10_above 75 = .ok (.istore 6, 2) := by decide +kernel
theorem dX10_above_77 : decode cX10_above 77 = .ok (.iload 6, 2) := by decide +kernel
theorem dX10_above_79 : decode cX10_above 79 = .ok (.aload_n 0, 1) := by decide +kernel
theorem dX10_above_80 : decode cX10_above 80 = .ok (.getfield 16, 3) := by decide +kernel
theorem dX10_above_83 : decode cX10_above 83 = .ok (.invokevirtual 212, 3) := by decide +kernel
theorem dX10_above_86 : decode cX10_above 86 = .ok (.if_icmp .ge 67, 3) := by decide +kernel
theorem dX10_above_89 : decode cX10_above 89 = .ok (.sipush 128, 3) := by decide +kernel
theorem dX10_above_92 : decode cX10_above 92 = .ok (.aload_n 0, 1) := by decide +kernel
theorem dX10_above_93 : decode cX10_above 93 = .ok (.getfield 16, 3) := by decide +kernel
theorem dX10_above_96 : decode cX10_above 96 = .ok (.getfield 198, 3) := by decide +kernel
theorem dX10_above_99 : decode cX10_above 99 = .ok (.iload 6, 2) := by decide +kernel
theorem dX10_above_101 : decode cX10_above 101 = .ok (.iaload, 1) := by decide +kernel
theorem dX10_above_102 : decode cX10_above 102 = .ok (.iadd, 1) := by decide +kernel
theorem dX10_above_103 : decode cX10_above 103 = .ok (.aload 4, 2) := by decide +kernel
theorem dX10_above_105 : decode cX10_above 105 = .ok (.getfield 198, 3) := by decide +kernel
theorem dX10_above_108 : decode cX10_above 108 = .ok (.iload 6, 2) := by decide +kernel
theorem dX10_above_110 : decode cX10_above 110 = .ok (.iaload, 1) := by decide +kernel
theorem dX10_above_111 : decode cX10_above 111 = .ok (.isub, 1) := by decide +kernel
theorem dX10_above_112 : decode cX10_above 112 = .ok (.istore 7, 2) := by decide +kernel
theorem dX10_above_114 : decode cX10_above 114 = .ok (.aload_n 0, 1) := by decide +kernel
theorem dX10_above_115 : decode cX10_above 115 = .ok (.getfield 16, 3) := by decide +kernel
theorem dX10_above_118 : decode cX10_above 118 = .ok (.getfield 198, 3) := by decide +kernel
theorem dX10_above_121 : decode cX10_above 121 = .ok (.iload 6, 2) := by decide +kernel
theorem dX10_above_123 : decode cX10_above 123 = .ok (.iload 7, 2) := by decide +kernel
theorem dX10_above_125 : decode cX10_above 125 = .ok (.invokestatic 216, 3) := by decide +kernel
theorem dX10_above_128 : decode cX10_above 128 = .ok (.iastore, 1) := by decide +kernel
theorem dX10_above_129 : decode cX10_above 129 = .ok (.iload 5, 2) := by decide +kernel
theorem dX10_above_131 : decode cX10_above 131 = .ok (.iload 7, 2) := by decide +kernel
theorem dX10_above_133 : decode cX10_above 133 = .ok (.invokestatic 178, 3) := by decide +kernel
theorem dX10_above_136 : decode cX10_above 136 = .ok (.ifCond .eq 7, 3) := by decide +kernel
theorem dX10_above_139 : decode cX10_above 139 = .ok (.iconst 0, 1) := by decide +kernel
theorem dX10_above_140 : decode cX10_above 140 = .ok (.goto 4, 3) := by decide +kernel
theorem dX10_above_143 : decode cX10_above 143 = .ok (.iconst 1, 1) := by decide +kernel
theorem dX10_above_144 : decode cX10_above 144 = .ok (.iadd, 1) := by decide +kernel
theorem dX10_above_145 : decode cX10_above 145 = .ok (.istore 5, 2) := by decide +kernel
theorem dX10_above_147 : decode cX10_above 147 = .ok (.iinc 6 1, 3) := by decide +kernel
theorem dX10_above_150 : decode cX10_above 150 = .ok (.goto (-73), 3) := by decide +kernel
theorem dX10_above_153 : decode cX10_above 153 = .ok (.aload_n 0, 1) := by decide +kernel
theorem dX10_above_154 : decode cX10_above 154 = .ok (.iload_n 1, 1) := by decide +kernel
theorem dX10_above_155 : decode cX10_above 155 = .ok (.invokevirtual 188, 3) := by decide +kernel
theorem dX10_above_158 : decode cX10_above 158 = .ok (.iload 5, 2) := by decide +kernel
theorem dX10_above_160 : decode cX10_above 160 = .ok (.ireturn, 1) := by decide +kernel
theorem dX10_levels_0 : decode cX10_levels 0 = .ok (.aload_n 0, 1) := by decide +kernel
theorem dX10_levels_1 : decode cX10_levels 1 = .ok (.iload_n 1, 1) := by decide +kernel
theorem dX10_levels_2 : decode cX10_levels 2 = .ok (.invokestatic 191, 3) := by decide +kernel
theorem dX10_levels_5 : decode cX10_levels 5 = .ok (.ifCond .eq 11, 3) := by decide +kernel
theorem dX10_levels_8 : decode cX10_levels 8 = .ok (.aload_n 0, 1) := by decide +kernel
theorem dX10_levels_9 : decode cX10_levels 9 = .ok (.iload_n 2, 1) := by decide +kernel
theorem dX10_levels_10 : decode cX10_levels 10 = .ok (.invokevirtual 145, 3) := by decide +kernel
theorem dX10_levels_13 : decode cX10_levels 13 = .ok (.ifCond .ne 7, 3) := by decide +kernel
theorem dX10_levels_16 : decode cX10_levels 16 = .ok (.iconst 1, 1) := by decide +kernel
theorem dX10_levels_17 : decode cX10_levels 17 = .ok (.goto 18, 3) := by decide +kernel
theorem dX10_levels_20 : decode cX10_levels 20 = .ok (.iload_n 3, 1) := by decide +kernel
theorem dX10_levels_21 : decode cX10_levels 21 = .ok (.iconst 2, 1) := by decide +kernel
theorem dX10_levels_22 : decode cX10_levels 22 = .ok (.bipush 64, 2) := by decide +kernel
theorem dX10_levels_24 : decode cX10_levels 24 = .ok (.invokestatic 101, 3) := by decide +kernel
theorem dX10_levels_27 : decode cX10_levels 27 = .ok (.ifCond .ne 7, 3) := by decide +kernel
theorem dX10_levels_30 : decode cX10_levels 30 = .ok (.iconst 2, 1) := by decide +kernel
theorem dX10_levels_31 : decode cX10_levels 31 = .ok (.goto 4, 3) := by decide +kernel
theorem dX10_levels_34 : decode cX10_levels 34 = .ok (.iconst 0, 1) := by decide +kernel
theorem dX10_levels_35 : decode cX10_levels 35 = .ok (.invokevirtual 105, 3) := by decide +kernel
theorem dX10_levels_38 : decode cX10_levels 38 = .ok (.ifCond .eq 5, 3) := by decide +kernel
theorem dX10_levels_41 : decode cX10_levels 41 = .ok (.iconst (-1), 1) := by decide +kernel
theorem dX10_levels_42 : decode cX10_levels 42 = .ok (.ireturn, 1) := by decide +kernel
theorem dX10_levels_43 : decode cX10_levels 43 = .ok (.aload_n 0, 1) := by decide +kernel
theorem dX10_levels_44 : decode cX10_levels 44 = .ok (.getfield 16, 3) := by decide +kernel
theorem dX10_levels_47 : decode cX10_levels 47 = .ok (.aload_n 0, 1) := by decide +kernel
theorem dX10_levels_48 : decode cX10_levels 48 = .ok (.getfield 11, 3) := by decide +kernel
theorem dX10_levels_51 : decode cX10_levels 51 = .ok (.iload_n 2, 1) := by decide +kernel
theorem dX10_levels_52 : decode cX10_levels 52 = .ok (.aaload, 1) := by decide +kernel
theorem dX10_levels_53 : decode cX10_levels 53 = .ok (.invokevirtual 137, 3) := by decide +kernel
theorem dX10_levels_56 : decode cX10_levels 56 = .ok (.iconst 0, 1) := by decide +kernel
theorem dX10_levels_57 : decode cX10_levels 57 = .ok (.istore 4, 2) := by decide +kernel
theorem dX10_levels_59 : decode cX10_levels 59 = .ok (.iload 4, 2) := by decide +kernel
theorem dX10_levels_61 : decode cX10_levels 61 = .ok (.aload_n 0, 1) := by decide +kernel
theorem dX10_levels_62 : decode cX10_levels 62 = .ok (.getfield 16, 3) := by decide +kernel
theorem dX10_levels_65 : decode cX10_levels 65 = .ok (.invokevirtual 212, 3) := by decide +kernel
theorem dX10_levels_68 : decode cX10_levels 68 = .ok (.if_icmp .ge 47, 3) := by decide +kernel
theorem dX10_levels_71 : decode cX10_levels 71 = .ok (.aload_n 0, 1) := by decide +kernel
theorem dX10_levels_72 : decode cX10_levels 72 = .ok (.getfield 16, 3) := by decide +kernel
theorem dX10_levels_75 : decode cX10_levels 75 = .ok (.getfield 198, 3) := by decide +kernel
theorem dX10_levels_78 : decode cX10_levels 78 = .ok (.iload 4, 2) := by decide +kernel
theorem dX10_levels_80 : decode cX10_levels 80 = .ok (.iaload, 1) := by decide +kernel
theorem dX10_levels_81 : decode cX10_levels 81 = .ok (.iload_n 3, 1) := by decide +kernel
theorem dX10_levels_82 : decode cX10_levels 82 = .ok (.imul, 1) := by decide +kernel
theorem dX10_levels_83 : decode cX10_levels 83 = .ok (.sipush 256, 3) := by decide +kernel
theorem dX10_levels_86 : decode cX10_levels 86 = .ok (.idiv, 1) := by decide +kernel
theorem dX10_levels_87 : decode cX10_levels 87 = .ok (.istore 5, 2) := by decide +kernel
theorem dX10_levels_89 : decode cX10_levels 89 = .ok (.aload_n 0, 1) := by decide +kernel
theorem dX10_levels_90 : decode cX10_levels 90 = .ok (.getfield 16, 3) := by decide +kernel
theorem dX10_levels_93 : decode cX10_levels 93 = .ok (.getfield 198, 3) := by decide +kernel
theorem dX10_levels_96 : decode cX10_levels 96 = .ok (.iload 4, 2) := by decide +kernel
theorem dX10_levels_98 : decode cX10_levels 98 = .ok (.sipush 255, 3) := by decide +kernel
theorem dX10_levels_101 : decode cX10_levels 101 = .ok (.iload 5, 2) := by decide +kernel
theorem dX10_levels_103 : decode cX10_levels 103 = .ok (.imul, 1) := by decide +kernel
theorem dX10_levels_104 : decode cX10_levels 104 = .ok (.iload_n 3, 1) := by decide +kernel
theorem dX10_levels_105 : decode cX10_levels 105 = .ok (.iconst 1, 1) := by decide +kernel
theorem dX10_levels_106 : decode cX10_levels 106 = .ok (.isub, 1) := by decide +kernel
theorem dX10_levels_107 : decode cX10_levels 107 = .ok (.idiv, 1) := by decide +kernel
theorem dX10_levels_108 : decode cX10_levels 108 = .ok (.iastore, 1) := by decide +kernel
theorem dX10_levels_109 : decode cX10_levels 109 = .ok (.iinc 4 1, 3) := by decide +kernel
theorem dX10_levels_112 : decode cX10_levels 112 = .ok (.goto (-53), 3) := by decide +kernel
theorem dX10_levels_115 : decode cX10_levels 115 = .ok (.aload_n 0, 1) := by decide +kernel
theorem dX10_levels_116 : decode cX10_levels 116 = .ok (.iload_n 1, 1) := by decide +kernel
theorem dX10_levels_117 : decode cX10_levels 117 = .ok (.iload_n 2, 1) := by decide +kernel
theorem dX10_levels_118 : decode cX10_levels 118 = .ok (.invokevirtual 220, 3) := by decide +kernel
theorem dX10_levels_121 : decode cX10_levels 121 = .ok (.ireturn, 1) := by decide +kernel
theorem dX10_stretch_0 : decode cX10_stretch 0 = .ok (.aload_n 0, 1) := by decide +kernel
theorem dX10_stretch_1 : decode cX10_stretch 1 = .ok (.iload_n 1, 1) := by decide +kernel
theorem dX10_stretch_2 : decode cX10_stretch 2 = .ok (.invokestatic 191, 3) := by decide +kernel
theorem dX10_stretch_5 : decode cX10_stretch 5 = .ok (.ifCond .eq 11, 3) := by decide +kernel
theorem dX10_stretch_8 : decode cX10_stretch 8 = .ok (.aload_n 0, 1) := by decide +kernel
theorem dX10_stretch_9 : decode cX10_stretch 9 = .ok (.iload_n 2, 1) := by decide +kernel
theorem dX10_stretch_10 : decode cX10_stretch 10 = .ok (.invokevirtual 145, 3) := by decide +kernel
theorem dX10_stretch_13 : decode cX10_stretch 13 = .ok (.ifCond .ne 7, 3) := by decide +kernel
theorem dX10_stretch_16 : decode cX10_stretch 16 = .ok (.iconst 1, 1) := by decide +kernel
theorem dX10_stretch_17 : decode cX10_stretch 17 = .ok (.goto 29, 3) := by decide +kernel
theorem dX10_stretch_20 : decode cX10_stretch 20 = .ok (.aload_n 0, 1) := by decide +kernel
theorem dX10_stretch_21 : decode cX10_stretch 21 = .ok (.getfield 11, 3) := by decide +kernel
theorem dX10_stretch_24 : decode cX10_stretch 24 = .ok (.iload_n 2, 1) := by decide +kernel
theorem dX10_stretch_25 : decode cX10_stretch 25 = .ok (.aaload, 1) := by decide +kernel
theorem dX10_stretch_26 : decode cX10_stretch 26 = .ok (.invokevirtual 154, 3) := by decide +kernel
theorem dX10_stretch_29 : decode cX10_stretch 29 = .ok (.aload_n 0, 1) := by decide +kernel
theorem dX10_stretch_30 : decode cX10_stretch 30 = .ok (.getfield 11, 3) := by decide +kernel
theorem dX10_stretch_33 : decode cX10_stretch 33 = .ok (.iload_n 2, 1) := by decide +kernel
theorem dX10_stretch_34 : decode cX10_stretch 34 = .ok (.aaload, 1) := by decide +kernel
theorem dX10_stretch_35 : decode cX10_stretch 35 = .ok (.invokevirtual 158, 3) := by decide +kernel
theorem dX10_stretch_38 : decode cX10_stretch 38 = .ok (.if_icmp .lt 7, 3) := by decide +kernel
theorem dX10_stretch_41 : decode cX10_stretch 41 = .ok (.iconst 5, 1) := by decide +kernel
theorem dX10_stretch_42 : decode cX10_stretch 42 = .ok (.goto 4, 3) := by decide +kernel
theorem dX10_stretch_45 : decode cX10_stretch 45 = .ok (.iconst 0, 1) := by decide +kernel
theorem dX10_stretch_46 : decode cX10_stretch 46 = .ok (.invokevirtual 105, 3) := by decide +kernel
theorem dX10_stretch_49 : decode cX10_stretch 49 = .ok (.ifCond .eq 5, 3) := by decide +kernel
theorem dX10_stretch_52 : decode cX10_stretch 52 = .ok (.iconst (-1), 1) := by decide +kernel
theorem dX10_stretch_53 : decode cX10_stretch 53 = .ok (.ireturn, 1) := by decide +kernel
theorem dX10_stretch_54 : decode cX10_stretch 54 = .ok (.aload_n 0, 1) := by decide +kernel
theorem dX10_stretch_55 : decode cX10_stretch 55 = .ok (.getfield 11, 3) := by decide +kernel
theorem dX10_stretch_58 : decode cX10_stretch 58 = .ok (.iload_n 2, 1) := by decide +kernel
theorem dX10_stretch_59 : decode cX10_stretch 59 = .ok (.aaload, 1) := by decide +kernel
theorem dX10_stretch_60 : decode cX10_stretch 60 = .ok (.invokevirtual 154, 3) := by decide +kernel
theorem dX10_stretch_63 : decode cX10_stretch 63 = .ok (.istore_n 3, 1) := by decide +kernel
theorem dX10_stretch_64 : decode cX10_stretch 64 = .ok (.aload_n 0, 1) := by decide +kernel
theorem dX10_stretch_65 : decode cX10_stretch 65 = .ok (.getfield 11, 3) := by decide +kernel
theorem dX10_stretch_68 : decode cX10_stretch 68 = .ok (.iload_n 2, 1) := by decide +kernel
theorem dX10_stretch_69 : decode cX10_stretch 69 = .ok (.aaload, 1) := by decide +kernel
theorem dX10_stretch_70 : decode cX10_stretch 70 = .ok (.invokevirtual 158, 3) := by decide +kernel
theorem dX10_stretch_73 : decode cX10_stretch 73 = .ok (.iload_n 3, 1) := by decide +kernel
theorem dX10_stretch_74 : decode cX10_stretch 74 = .ok (.isub, 1) := by decide +kernel
theorem dX10_stretch_75 : decode cX10_stretch 75 = .ok (.istore 4, 2) := by decide +kernel
theorem dX10_stretch_77 : decode cX10_stretch 77 = .ok (.aload_n 0, 1) := by decide +kernel
theorem dX10_stretch_78 : decode cX10_stretch 78 = .ok (.getfield 16, 3) := by decide +kernel
theorem dX10_stretch_81 : decode cX10_stretch 81 = .ok (.aload_n 0, 1) := by decide +kernel
theorem dX10_stretch_82 : decode cX10_stretch 82 = .ok (.getfield 11, 3) := by decide +kernel
theorem dX10_stretch_85 : decode cX10_stretch 85 = .ok (.iload_n 2, 1) := by decide +kernel
theorem dX10_stretch_86 : decode cX10_stretch 86 = .ok (.aaload, 1) := by decide +kernel
theorem dX10_stretch_87 : decode cX10_stretch 87 = .ok (.invokevirtual 137, 3) := by decide +kernel
theorem dX10_stretch_90 : decode cX10_stretch 90 = .ok (.iconst 0, 1) := by decide +kernel
theorem dX10_stretch_91 : decode cX10_stretch 91 = .ok (.istore 5, 2) := by decide +kernel
theorem dX10_stretch_93 : decode cX10_stretch 93 = .ok (.iload 5, 2) := by decide +kernel
theorem dX10_stretch_95 : decode cX10_stretch 95 = .ok (.aload_n 0, 1) := by decide +kernel
theorem dX10_stretch_96 : decode cX10_stretch 96 = .ok (.getfield 16, 3) := by decide +kernel
theorem dX10_stretch_99 : decode cX10_stretch 99 = .ok (.invokevirtual 212, 3) := by decide +kernel
theorem dX10_stretch_102 : decode cX10_stretch 102 = .ok (.if_icmp .ge 43, 3) := by decide +kernel
theorem dX10_stretch_105 : decode cX10_stretch 105 = .ok (.iload 4, 2) := by decide +kernel
theorem dX10_stretch_107 : decode cX10_stretch 107 = .ok (.ifCond .le 38, 3) := by decide +kernel
theorem dX10_stretch_110 : decode cX10_stretch 110 = .ok (.aload_n 0, 1) := by decide +kernel
theorem dX10_stretch_111 : decode cX10_stretch 111 = .ok (.getfield 16, 3) := by decide +kernel
theorem dX10_stretch_114 : decode cX10_stretch 114 = .ok (.getfield 198, 3) := by decide +kernel
theorem dX10_stretch_117 : decode cX10_stretch 117 = .ok (.iload 5, 2) := by decide +kernel
theorem dX10_stretch_119 : decode cX10_stretch 119 = .ok (.sipush 255, 3) := by decide +kernel
theorem dX10_stretch_122 : decode cX10_stretch 122 = .ok (.aload_n 0, 1) := by decide +kernel
theorem dX10_stretch_123 : decode cX10_stretch 123 = .ok (.getfield 16, 3) := by decide +kernel
theorem dX10_stretch_126 : decode cX10_stretch 126 = .ok (.getfield 198, 3) := by decide +kernel
theorem dX10_stretch_129 : decode cX10_stretch 129 = .ok (.iload 5, 2) := by decide +kernel
theorem dX10_stretch_131 : decode cX10_stretch 131 = .ok (.iaload, 1) := by decide +kernel
theorem dX10_stretch_132 : decode cX10_stretch 132 = .ok (.iload_n 3, 1) := by decide +kernel
theorem dX10_stretch_133 : decode cX10_stretch 133 = .ok (.isub, 1) := by decide +kernel
theorem dX10_stretch_134 : decode cX10_stretch 134 = .ok (.imul, 1) := by decide +kernel
theorem dX10_stretch_135 : decode cX10_stretch 135 = .ok (.iload 4, 2) := by decide +kernel
theorem dX10_stretch_137 : decode cX10_stretch 137 = .ok (.idiv, 1) := by decide +kernel
theorem dX10_stretch_138 : decode cX10_stretch 138 = .ok (.iastore, 1) := by decide +kernel
theorem dX10_stretch_139 : decode cX10_stretch 139 = .ok (.iinc 5 1, 3) := by decide +kernel
theorem dX10_stretch_142 : decode cX10_stretch 142 = .ok (.goto (-49), 3) := by decide +kernel
theorem dX10_stretch_145 : decode cX10_stretch 145 = .ok (.aload_n 0, 1) := by decide +kernel
theorem dX10_stretch_146 : decode cX10_stretch 146 = .ok (.iload_n 1, 1) := by decide +kernel
theorem dX10_stretch_147 : decode cX10_stretch 147 = .ok (.iload_n 2, 1) := by decide +kernel
theorem dX10_stretch_148 : decode cX10_stretch 148 = .ok (.invokevirtual 220, 3) := by decide +kernel
theorem dX10_stretch_151 : decode cX10_stretch 151 = .ok (.ireturn, 1) := by decide +kernel
theorem dX10_larger_0 : decode cX10_larger 0 = .ok (.aload_n 0, 1) := by decide +kernel
theorem dX10_larger_1 : decode cX10_larger 1 = .ok (.iload_n 1, 1) := by decide +kernel
theorem dX10_larger_2 : decode cX10_larger 2 = .ok (.invokestatic 191, 3) := by decide +kernel
theorem dX10_larger_5 : decode cX10_larger 5 = .ok (.ifCond .eq 11, 3) := by decide +kernel
theorem dX10_larger_8 : decode cX10_larger 8 = .ok (.aload_n 0, 1) := by decide +kernel
theorem dX10_larger_9 : decode cX10_larger 9 = .ok (.iload_n 2, 1) := by decide +kernel
theorem dX10_larger_10 : decode cX10_larger 10 = .ok (.invokevirtual 145, 3) := by decide +kernel
theorem dX10_larger_13 : decode cX10_larger 13 = .ok (.ifCond .ne 7, 3) := by decide +kernel
theorem dX10_larger_16 : decode cX10_larger 16 = .ok (.iconst 1, 1) := by decide +kernel
theorem dX10_larger_17 : decode cX10_larger 17 = .ok (.goto 53, 3) := by decide +kernel
theorem dX10_larger_20 : decode cX10_larger 20 = .ok (.iload_n 3, 1) := by decide +kernel
theorem dX10_larger_21 : decode cX10_larger 21 = .ok (.iconst 2, 1) := by decide +kernel
theorem dX10_larger_22 : decode cX10_larger 22 = .ok (.iconst 4, 1) := by decide +kernel
theorem dX10_larger_23 : decode cX10_larger 23 = .ok (.invokestatic 101, 3) := by decide +kernel
theorem dX10_larger_26 : decode cX10_larger 26 = .ok (.ifCond .ne 7, 3) := by decide +kernel
theorem dX10_larger_29 : decode cX10_larger 29 = .ok (.iconst 2, 1) := by decide +kernel
theorem dX10_larger_30 : decode cX10_larger 30 = .ok (.goto 40, 3) := by decide +kernel
theorem dX10_larger_33 : decode cX10_larger 33 = .ok (.aload_n 0, 1) := by decide +kernel
theorem dX10_larger_34 : decode cX10_larger 34 = .ok (.getfield 11, 3) := by decide +kernel
theorem dX10_larger_37 : decode cX10_larger 37 = .ok (.iload_n 2, 1) := by decide +kernel
theorem dX10_larger_38 : decode cX10_larger 38 = .ok (.aaload, 1) := by decide +kernel
theorem dX10_larger_39 : decode cX10_larger 39 = .ok (.getfield 148, 3) := by decide +kernel
theorem dX10_larger_42 : decode cX10_larger 42 = .ok (.iload_n 3, 1) := by decide +kernel
theorem dX10_larger_43 : decode cX10_larger 43 = .ok (.imul, 1) := by decide +kernel
theorem dX10_larger_44 : decode cX10_larger 44 = .ok (.bipush 16, 2) := by decide +kernel
theorem dX10_larger_46 : decode cX10_larger 46 = .ok (.if_icmp .gt 19, 3) := by decide +kernel
theorem dX10_larger_49 : decode cX10_larger 49 = .ok (.aload_n 0, 1) := by decide +kernel
theorem dX10_larger_50 : decode cX10_larger 50 = .ok (.getfield 11, 3) := by decide +kernel
theorem dX10_larger_53 : decode cX10_larger 53 = .ok (.iload_n 2, 1) := by decide +kernel
theorem dX10_larger_54 : decode cX10_larger 54 = .ok (.aaload, 1) := by decide +kernel
theorem dX10_larger_55 : decode cX10_larger 55 = .ok (.getfield 151, 3) := by decide +kernel
theorem dX10_larger_58 : decode cX10_larger 58 = .ok (.iload_n 3, 1) := by decide +kernel
theorem dX10_larger_59 : decode cX10_larger 59 = .ok (.imul, 1) := by decide +kernel
theorem dX10_larger_60 : decode cX10_larger 60 = .ok (.bipush 12, 2) := by decide +kernel
theorem dX10_larger_62 : decode cX10_larger 62 = .ok (.if_icmp .le 7, 3) := by decide +kernel
theorem dX10_larger_65 : decode cX10_larger 65 = .ok (.iconst 3, 1) := by decide +kernel
theorem dX10_larger_66 : decode cX10_larger 66 = .ok (.goto 4, 3) := by decide +kernel
theorem dX10_larger_69 : decode cX10_larger 69 = .ok (.iconst 0, 1) := by decide +kernel
theorem dX10_larger_70 : decode cX10_larger 70 = .ok (.invokevirtual 105, 3) := by decide +kernel
theorem dX10_larger_73 : decode cX10_larger 73 = .ok (.ifCond .eq 5, 3) := by decide +kernel
theorem dX10_larger_76 : decode cX10_larger 76 = .ok (.iconst 0, 1) := by decide +kernel
theorem dX10_larger_77 : decode cX10_larger 77 = .ok (.ireturn, 1) := by decide +kernel
theorem dX10_larger_78 : decode cX10_larger 78 = .ok (.aload_n 0, 1) := by decide +kernel
theorem dX10_larger_79 : decode cX10_larger 79 = .ok (.getfield 11, 3) := by decide +kernel
theorem dX10_larger_82 : decode cX10_larger 82 = .ok (.iload_n 2, 1) := by decide +kernel
theorem dX10_larger_83 : decode cX10_larger 83 = .ok (.aaload, 1) := by decide +kernel
theorem dX10_larger_84 : decode cX10_larger 84 = .ok (.astore 4, 2) := by decide +kernel
theorem dX10_larger_86 : decode cX10_larger 86 = .ok (.aload_n 0, 1) := by decide +kernel
theorem dX10_larger_87 : decode cX10_larger 87 = .ok (.getfield 16, 3) := by decide +kernel
theorem dX10_larger_90 : decode cX10_larger 90 = .ok (.aload 4, 2) := by decide +kernel
theorem dX10_larger_92 : decode cX10_larger 92 = .ok (.getfield 148, 3) := by decide +kernel
theorem dX10_larger_95 : decode cX10_larger 95 = .ok (.iload_n 3, 1) := by decide +kernel
theorem dX10_larger_96 : decode cX10_larger 96 = .ok (.imul, 1) := by decide +kernel
theorem dX10_larger_97 : decode cX10_larger 97 = .ok (.aload 4, 2) := by decide +kernel
theorem dX10_larger_99 : decode cX10_larger 99 = .ok (.getfield 151, 3) := by decide +kernel
theorem dX10_larger_102 : decode cX10_larger 102 = .ok (.iload_n 3, 1) := by decide +kernel
theorem dX10_larger_103 : decode cX10_larger 103 = .ok (.imul, 1) := by decide +kernel
theorem dX10_larger_104 : decode cX10_larger 104 = .ok (.invokevirtual 194, 3) := by decide +kernel
theorem dX10_larger_107 : decode cX10_larger 107 = .ok (.iconst 0, 1) := by decide +kernel
theorem dX10_larger_108 : decode cX10_larger 108 = .ok (.istore 5, 2) := by decide +kernel
theorem dX10_larger_110 : decode cX10_larger 110 = .ok (.iload 5, 2) := by decide +kernel
theorem dX10_larger_112 : decode cX10_larger 112 = .ok (.aload_n 0, 1) := by decide +kernel
theorem dX10_larger_113 : decode cX10_larger 113 = .ok (.getfield 16, 3) := by decide +kernel
theorem dX10_larger_116 : decode cX10_larger 116 = .ok (.getfield 151, 3) := by decide +kernel
theorem dX10_larger_119 : decode cX10_larger 119 = .ok (.if_icmp .ge 54, 3) := by decide +kernel
theorem dX10_larger_122 : decode cX10_larger 122 = .ok (.iconst 0, 1) := by decide +kernel
theorem dX10_larger_123 : decode cX10_larger 123 = .ok (.istore 6, 2) := by decide +kernel
theorem dX10_larger_125 : decode cX10_larger 125 = .ok (.iload 6, 2) := by decide +kernel
theorem dX10_larger_127 : decode cX10_larger 127 = .ok (.aload_n 0, 1) := by decide +kernel
theorem dX10_larger_128 : decode cX10_larger 128 = .ok (.getfield 16, 3) := by decide +kernel
theorem dX10_larger_131 : decode cX10_larger 131 = .ok (.getfield 148, 3) := by decide +kernel
theorem dX10_larger_134 : decode cX10_larger 134 = .ok (.if_icmp .ge 33, 3) := by decide +kernel
theorem dX10_larger_137 : decode cX10_larger 137 = .ok (.aload_n 0, 1) := by decide +kernel
theorem dX10_larger_138 : decode cX10_larger 138 = .ok (.getfield 16, 3) := by decide +kernel
theorem dX10_larger_141 : decode cX10_larger 141 = .ok (.iload 6, 2) := by decide +kernel
theorem dX10_larger_143 : decode cX10_larger 143 = .ok (.iload 5, 2) := by decide +kernel
theorem dX10_larger_145 : decode cX10_larger 145 = .ok (.aload 4, 2) := by decide +kernel
theorem dX10_larger_147 : decode cX10_larger 147 = .ok (.iload 6, 2) := by decide +kernel
theorem dX10_larger_149 : decode cX10_larger 149 = .ok (.iload_n 3, 1) := by decide +kernel
theorem dX10_larger_150 : decode cX10_larger 150 = .ok (.idiv, 1) := by decide +kernel
theorem dX10_larger_151 : decode cX10_larger 151 = .ok (.iload 5, 2) := by decide +kernel
theorem dX10_larger_153 : decode cX10_larger 153 = .ok (.iload_n 3, 1) := by decide +kernel
theorem dX10_larger_154 : decode cX10_larger 154 = .ok (.idiv, 1) := by decide +kernel
theorem dX10_larger_155 : decode cX10_larger 155 = .ok (.invokevirtual 174, 3) := by decide +kernel
theorem dX10_larger_158 : decode cX10_larger 158 = .ok (.invokevirtual 184, 3) := by decide +kernel
theorem dX10_larger_161 : decode cX10_larger 161 = .ok (.iinc 6 1, 3) := by decide +kernel
theorem dX10_larger_164 : decode cX10_larger 164 = .ok (.goto (-39), 3) := by decide +kernel
theorem dX10_larger_167 : decode cX10_larger 167 = .ok (.iinc 5 1, 3) := by decide +kernel
theorem dX10_larger_170 : decode cX10_larger 170 = .ok (.goto (-60), 3) := by decide +kernel
theorem dX10_larger_173 : decode cX10_larger 173 = .ok (.aload_n 0, 1) := by decide +kernel
theorem dX10_larger_174 : decode cX10_larger 174 = .ok (.iload_n 1, 1) := by decide +kernel
theorem dX10_larger_175 : decode cX10_larger 175 = .ok (.invokevirtual 188, 3) := by decide +kernel
theorem dX10_larger_178 : decode cX10_larger 178 = .ok (.iconst 1, 1) := by decide +kernel
theorem dX10_larger_179 : decode cX10_larger 179 = .ok (.ireturn, 1) := by decide +kernel
theorem dX10_smaller_0 : decode cX10_smaller 0 = .ok (.aload_n 0, 1) := by decide +kernel
theorem dX10_smaller_1 : decode cX10_smaller 1 = .ok (.iload_n 1, 1) := by decide +kernel
theorem dX10_smaller_2 : decode cX10_smaller 2 = .ok (.invokestatic 191, 3) := by decide +kernel
theorem dX10_smaller_5 : decode cX10_smaller 5 = .ok (.ifCond .eq 11, 3) := by decide +kernel
theorem dX10_smaller_8 : decode cX10_smaller 8 = .ok (.aload_n 0, 1) := by decide +kernel
theorem dX10_smaller_9 : decode cX10_smaller 9 = .ok (.iload_n 2, 1) := by decide +kernel
theorem dX10_smaller_10 : decode cX10_smaller 10 = .ok (.invokevirtual 145, 3) := by decide +kernel
theorem dX10_smaller_13 : decode cX10_smaller 13 = .ok (.ifCond .ne 7, 3) := by decide +kernel
theorem dX10_smaller_16 : decode cX10_smaller 16 = .ok (.iconst 1, 1) := by decide +kernel
theorem dX10_smaller_17 : decode cX10_smaller 17 = .ok (.goto 47, 3) := by decide +kernel
theorem dX10_smaller_20 : decode cX10_smaller 20 = .ok (.iload_n 3, 1) := by decide +kernel
theorem dX10_smaller_21 : decode cX10_smaller 21 = .ok (.iconst 2, 1) := by decide +kernel
theorem dX10_smaller_22 : decode cX10_smaller 22 = .ok (.iconst 4, 1) := by decide +kernel
theorem dX10_smaller_23 : decode cX10_smaller 23 = .ok (.invokestatic 101, 3) := by decide +kernel
theorem dX10_smaller_26 : decode cX10_smaller 26 = .ok (.ifCond .ne 7, 3) := by decide +kernel
theorem dX10_smaller_29 : decode cX10_smaller 29 = .ok (.iconst 2, 1) := by decide +kernel
theorem dX10_smaller_30 : decode cX10_smaller 30 = .ok (.goto 34, 3) := by decide +kernel
theorem dX10_smaller_33 : decode cX10_smaller 33 = .ok (.aload_n 0, 1) := by decide +kernel
theorem dX10_smaller_34 : decode cX10_smaller 34 = .ok (.getfield 11, 3) := by decide +kernel
theorem dX10_smaller_37 : decode cX10_smaller 37 = .ok (.iload_n 2, 1) := by decide +kernel
theorem dX10_smaller_38 : decode cX10_smaller 38 = .ok (.aaload, 1) := by decide +kernel
theorem dX10_smaller_39 : decode cX10_smaller 39 = .ok (.getfield 148, 3) := by decide +kernel
theorem dX10_smaller_42 : decode cX10_smaller 42 = .ok (.iload_n 3, 1) := by decide +kernel
theorem dX10_smaller_43 : decode cX10_smaller 43 = .ok (.if_icmp .lt 16, 3) := by decide +kernel
theorem dX10_smaller_46 : decode cX10_smaller 46 = .ok (.aload_n 0, 1) := by decide +kernel
theorem dX10_smaller_47 : decode cX10_smaller 47 = .ok (.getfield 11, 3) := by decide +kernel
theorem dX10_smaller_50 : decode cX10_smaller 50 = .ok (.iload_n 2, 1) := by decide +kernel
theorem dX10_smaller_51 : decode cX10_smaller 51 = .ok (.aaload, 1) := by decide +kernel
theorem dX10_smaller_52 : decode cX10_smaller 52 = .ok (.getfield 151, 3) := by decide +kernel
theorem dX10_smaller_55 : decode cX10_smaller 55 = .ok (.iload_n 3, 1) := by decide +kernel
theorem dX10_smaller_56 : decode cX10_smaller 56 = .ok (.if_icmp .ge 7, 3) := by decide +kernel
theorem dX10_smaller_59 : decode cX10_smaller 59 = .ok (.iconst 5, 1) := by decide +kernel
theorem dX10_smaller_60 : decode cX10_smaller 60 = .ok (.goto 4, 3) := by decide +kernel
theorem dX10_smaller_63 : decode cX10_smaller 63 = .ok (.iconst 0, 1) := by decide +kernel
theorem dX10_smaller_64 : decode cX10_smaller 64 = .ok (.invokevirtual 105, 3) := by decide +kernel
theorem dX10_smaller_67 : decode cX10_smaller 67 = .ok (.ifCond .eq 5, 3) := by decide +kernel
theorem dX10_smaller_70 : decode cX10_smaller 70 = .ok (.iconst 0, 1) := by decide +kernel
theorem dX10_smaller_71 : decode cX10_smaller 71 = .ok (.ireturn, 1) := by decide +kernel
theorem dX10_smaller_72 : decode cX10_smaller 72 = .ok (.aload_n 0, 1) := by decide +kernel
theorem dX10_smaller_73 : decode cX10_smaller 73 = .ok (.getfield 11, 3) := by decide +kernel
theorem dX10_smaller_76 : decode cX10_smaller 76 = .ok (.iload_n 2, 1) := by decide +kernel
theorem dX10_smaller_77 : decode cX10_smaller 77 = .ok (.aaload, 1) := by decide +kernel
theorem dX10_smaller_78 : decode cX10_smaller 78 = .ok (.astore 4, 2) := by decide +kernel
theorem dX10_smaller_80 : decode cX10_smaller 80 = .ok (.aload_n 0, 1) := by decide +kernel
theorem dX10_smaller_81 : decode cX10_smaller 81 = .ok (.getfield 16, 3) := by decide +kernel
theorem dX10_smaller_84 : decode cX10_smaller 84 = .ok (.aload 4, 2) := by decide +kernel
theorem dX10_smaller_86 : decode cX10_smaller 86 = .ok (.getfield 148, 3) := by decide +kernel
theorem dX10_smaller_89 : decode cX10_smaller 89 = .ok (.iload_n 3, 1) := by decide +kernel
theorem dX10_smaller_90 : decode cX10_smaller 90 = .ok (.idiv, 1) := by decide +kernel
theorem dX10_smaller_91 : decode cX10_smaller 91 = .ok (.aload 4, 2) := by decide +kernel
theorem dX10_smaller_93 : decode cX10_smaller 93 = .ok (.getfield 151, 3) := by decide +kernel
theorem dX10_smaller_96 : decode cX10_smaller 96 = .ok (.iload_n 3, 1) := by decide +kernel
theorem dX10_smaller_97 : decode cX10_smaller 97 = .ok (.idiv, 1) := by decide +kernel
theorem dX10_smaller_98 : decode cX10_smaller 98 = .ok (.invokevirtual 194, 3) := by decide +kernel
theorem dX10_smaller_101 : decode cX10_smaller 101 = .ok (.iconst 0, 1) := by decide +kernel
theorem dX10_smaller_102 : decode cX10_smaller 102 = .ok (.istore 5, 2) := by decide +kernel
theorem dX10_smaller_104 : decode cX10_smaller 104 = .ok (.iload 5, 2) := by decide +kernel
theorem dX10_smaller_106 : decode cX10_smaller 106 = .ok (.aload_n 0, 1) := by decide +kernel
theorem dX10_smaller_107 : decode cX10_smaller 107 = .ok (.getfield 16, 3) := by decide +kernel
theorem dX10_smaller_110 : decode cX10_smaller 110 = .ok (.getfield 151, 3) := by decide +kernel
theorem dX10_smaller_113 : decode cX10_smaller 113 = .ok (.if_icmp .ge 60, 3) := by decide +kernel
theorem dX10_smaller_116 : decode cX10_smaller 116 = .ok (.iconst 0, 1) := by decide +kernel
theorem dX10_smaller_117 : decode cX10_smaller 117 = .ok (.istore 6, 2) := by decide +kernel
theorem dX10_smaller_119 : decode cX10_smaller 119 = .ok (.iload 6, 2) := by decide +kernel
theorem dX10_smaller_121 : decode cX10_smaller 121 = .ok (.aload_n 0, 1) := by decide +kernel
theorem dX10_smaller_122 : decode cX10_smaller 122 = .ok (.getfield 16, 3) := by decide +kernel
theorem dX10_smaller_125 : decode cX10_smaller 125 = .ok (.getfield 148, 3) := by decide +kernel
theorem dX10_smaller_128 : decode cX10_smaller 128 = .ok (.if_icmp .ge 39, 3) := by decide +kernel
theorem dX10_smaller_131 : decode cX10_smaller 131 = .ok (.aload_n 0, 1) := by decide +kernel
theorem dX10_smaller_132 : decode cX10_smaller 132 = .ok (.getfield 16, 3) := by decide +kernel
theorem dX10_smaller_135 : decode cX10_smaller 135 = .ok (.iload 6, 2) := by decide +kernel
theorem dX10_smaller_137 : decode cX10_smaller 137 = .ok (.iload 5, 2) := by decide +kernel
theorem dX10_smaller_139 : decode cX10_smaller 139 = .ok (.aload_n 0, 1) := by decide +kernel
theorem dX10_smaller_140 : decode cX10_smaller 140 = .ok (.aload 4, 2) := by decide +kernel
theorem dX10_smaller_142 : decode cX10_smaller 142 = .ok (.iload 6, 2) := by decide +kernel
theorem dX10_smaller_144 : decode cX10_smaller 144 = .ok (.iload_n 3, 1) := by decide +kernel
theorem dX10_smaller_145 : decode cX10_smaller 145 = .ok (.imul, 1) := by decide +kernel
theorem dX10_smaller_146 : decode cX10_smaller 146 = .ok (.iload 5, 2) := by decide +kernel
theorem dX10_smaller_148 : decode cX10_smaller 148 = .ok (.iload_n 3, 1) := by decide +kernel
theorem dX10_smaller_149 : decode cX10_smaller 149 = .ok (.imul, 1) := by decide +kernel
theorem dX10_smaller_150 : decode cX10_smaller 150 = .ok (.iload_n 3, 1) := by decide +kernel
theorem dX10_smaller_151 : decode cX10_smaller 151 = .ok (.iload_n 3, 1) := by decide +kernel
theorem dX10_smaller_152 : decode cX10_smaller 152 = .ok (.invokevirtual 309, 3) := by decide +kernel
theorem dX10_smaller_155 : decode cX10_smaller 155 = .ok (.invokevirtual 313, 3) := by decide +kernel
theorem dX10_smaller_158 : decode cX10_smaller 158 = .ok (.invokevirtual 184, 3) := by decide +kernel
theorem dX10_smaller_161 : decode cX10_smaller 161 = .ok (.iinc 6 1, 3) := by decide +kernel
theorem dX10_smaller_164 : decode cX10_smaller 164 = .ok (.goto (-45), 3) := by decide +kernel
theorem dX10_smaller_167 : decode cX10_smaller 167 = .ok (.iinc 5 1, 3) := by decide +kernel
theorem dX10_smaller_170 : decode cX10_smaller 170 = .ok (.goto (-66), 3) := by decide +kernel
theorem dX10_smaller_173 : decode cX10_smaller 173 = .ok (.aload_n 0, 1) := by decide +kernel
theorem dX10_smaller_174 : decode cX10_smaller 174 = .ok (.iload_n 1, 1) := by decide +kernel
theorem dX10_smaller_175 : decode cX10_smaller 175 = .ok (.invokevirtual 188, 3) := by decide +kernel
theorem dX10_smaller_178 : decode cX10_smaller 178 = .ok (.iconst 1, 1) := by decide +kernel
theorem dX10_smaller_179 : decode cX10_smaller 179 = .ok (.ireturn, 1) := by decide +kernel
