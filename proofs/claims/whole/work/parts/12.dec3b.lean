theorem dX10_rests_0 : decode cX10_rests 0 = .ok (.aload_n 0, 1) := by decide +kernel
theorem dX10_rests_1 : decode cX10_rests 1 = .ok (.aload_n 0, 1) := by decide +kernel
theorem dX10_rests_2 : decode cX10_rests 2 = .ok (.iload_n 1, 1) := by decide +kernel
theorem dX10_rests_3 : decode cX10_rests 3 = .ok (.invokevirtual 145, 3) := by decide +kernel
theorem dX10_rests_6 : decode cX10_rests 6 = .ok (.ifCond .ne 7, 3) := by decide +kernel
theorem dX10_rests_9 : decode cX10_rests 9 = .ok (.iconst 1, 1) := by decide +kernel
theorem dX10_rests_10 : decode cX10_rests 10 = .ok (.goto 24, 3) := by decide +kernel
theorem dX10_rests_13 : decode cX10_rests 13 = .ok (.iload_n 2, 1) := by decide +kernel
theorem dX10_rests_14 : decode cX10_rests 14 = .ok (.iload_n 3, 1) := by decide +kernel
theorem dX10_rests_15 : decode cX10_rests 15 = .ok (.invokestatic 227, 3) := by decide +kernel
theorem dX10_rests_18 : decode cX10_rests 18 = .ok (.ifCond .eq 11, 3) := by decide +kernel
theorem dX10_rests_21 : decode cX10_rests 21 = .ok (.iload 4, 2) := by decide +kernel
theorem dX10_rests_23 : decode cX10_rests 23 = .ok (.invokestatic 293, 3) := by decide +kernel
theorem dX10_rests_26 : decode cX10_rests 26 = .ok (.ifCond .ne 7, 3) := by decide +kernel
theorem dX10_rests_29 : decode cX10_rests 29 = .ok (.iconst 2, 1) := by decide +kernel
theorem dX10_rests_30 : decode cX10_rests 30 = .ok (.goto 4, 3) := by decide +kernel
theorem dX10_rests_33 : decode cX10_rests 33 = .ok (.iconst 0, 1) := by decide +kernel
theorem dX10_rests_34 : decode cX10_rests 34 = .ok (.invokevirtual 105, 3) := by decide +kernel
theorem dX10_rests_37 : decode cX10_rests 37 = .ok (.ifCond .eq 5, 3) := by decide +kernel
theorem dX10_rests_40 : decode cX10_rests 40 = .ok (.iconst (-1), 1) := by decide +kernel
theorem dX10_rests_41 : decode cX10_rests 41 = .ok (.ireturn, 1) := by decide +kernel
theorem dX10_rests_42 : decode cX10_rests 42 = .ok (.aload_n 0, 1) := by decide +kernel
theorem dX10_rests_43 : decode cX10_rests 43 = .ok (.getfield 20, 3) := by decide +kernel
theorem dX10_rests_46 : decode cX10_rests 46 = .ok (.aload_n 0, 1) := by decide +kernel
theorem dX10_rests_47 : decode cX10_rests 47 = .ok (.getfield 11, 3) := by decide +kernel
theorem dX10_rests_50 : decode cX10_rests 50 = .ok (.iload_n 1, 1) := by decide +kernel
theorem dX10_rests_51 : decode cX10_rests 51 = .ok (.aaload, 1) := by decide +kernel
theorem dX10_rests_52 : decode cX10_rests 52 = .ok (.invokevirtual 137, 3) := by decide +kernel
theorem dX10_rests_55 : decode cX10_rests 55 = .ok (.iconst 0, 1) := by decide +kernel
theorem dX10_rests_56 : decode cX10_rests 56 = .ok (.istore 5, 2) := by decide +kernel
theorem dX10_rests_58 : decode cX10_rests 58 = .ok (.iload 5, 2) := by decide +kernel
theorem dX10_rests_60 : decode cX10_rests 60 = .ok (.bipush 20, 2) := by decide +kernel
theorem dX10_rests_62 : decode cX10_rests 62 = .ok (.if_icmp .ge 53, 3) := by decide +kernel
theorem dX10_rests_65 : decode cX10_rests 65 = .ok (.aload_n 0, 1) := by decide +kernel
theorem dX10_rests_66 : decode cX10_rests 66 = .ok (.aload_n 0, 1) := by decide +kernel
theorem dX10_rests_67 : decode cX10_rests 67 = .ok (.getfield 20, 3) := by decide +kernel
theorem dX10_rests_70 : decode cX10_rests 70 = .ok (.aload_n 0, 1) := by decide +kernel
theorem dX10_rests_71 : decode cX10_rests 71 = .ok (.getfield 20, 3) := by decide +kernel
theorem dX10_rests_74 : decode cX10_rests 74 = .ok (.iload_n 2, 1) := by decide +kernel
theorem dX10_rests_75 : decode cX10_rests 75 = .ok (.iload_n 3, 1) := by decide +kernel
theorem dX10_rests_76 : decode cX10_rests 76 = .ok (.iload 4, 2) := by decide +kernel
theorem dX10_rests_78 : decode cX10_rests 78 = .ok (.invokevirtual 296, 3) := by decide +kernel
theorem dX10_rests_81 : decode cX10_rests 81 = .ok (.aload_n 0, 1) := by decide +kernel
theorem dX10_rests_82 : decode cX10_rests 82 = .ok (.getfield 16, 3) := by decide +kernel
theorem dX10_rests_85 : decode cX10_rests 85 = .ok (.aload_n 0, 1) := by decide +kernel
theorem dX10_rests_86 : decode cX10_rests 86 = .ok (.getfield 20, 3) := by decide +kernel
theorem dX10_rests_89 : decode cX10_rests 89 = .ok (.invokestatic 316, 3) := by decide +kernel
theorem dX10_rests_92 : decode cX10_rests 92 = .ok (.ifCond .ne 6, 3) := by decide +kernel
theorem dX10_rests_95 : decode cX10_rests 95 = .ok (.iload 5, 2) := by decide +kernel
theorem dX10_rests_97 : decode cX10_rests 97 = .ok (.ireturn, 1) := by decide +kernel
theorem dX10_rests_98 : decode cX10_rests 98 = .ok (.aload_n 0, 1) := by decide +kernel
theorem dX10_rests_99 : decode cX10_rests 99 = .ok (.getfield 20, 3) := by decide +kernel
theorem dX10_rests_102 : decode cX10_rests 102 = .ok (.aload_n 0, 1) := by decide +kernel
theorem dX10_rests_103 : decode cX10_rests 103 = .ok (.getfield 16, 3) := by decide +kernel
theorem dX10_rests_106 : decode cX10_rests 106 = .ok (.invokevirtual 137, 3) := by decide +kernel
theorem dX10_rests_109 : decode cX10_rests 109 = .ok (.iinc 5 1, 3) := by decide +kernel
theorem dX10_rests_112 : decode cX10_rests 112 = .ok (.goto (-54), 3) := by decide +kernel
theorem dX10_rests_115 : decode cX10_rests 115 = .ok (.bipush (-2), 2) := by decide +kernel
theorem dX10_rests_117 : decode cX10_rests 117 = .ok (.ireturn, 1) := by decide +kernel
theorem dX10_edges_0 : decode cX10_edges 0 = .ok (.aload_n 0, 1) := by decide +kernel
theorem dX10_edges_1 : decode cX10_edges 1 = .ok (.aload_n 0, 1) := by decide +kernel
theorem dX10_edges_2 : decode cX10_edges 2 = .ok (.iload_n 1, 1) := by decide +kernel
theorem dX10_edges_3 : decode cX10_edges 3 = .ok (.invokevirtual 145, 3) := by decide +kernel
theorem dX10_edges_6 : decode cX10_edges 6 = .ok (.ifCond .ne 7, 3) := by decide +kernel
theorem dX10_edges_9 : decode cX10_edges 9 = .ok (.iconst 1, 1) := by decide +kernel
theorem dX10_edges_10 : decode cX10_edges 10 = .ok (.goto 15, 3) := by decide +kernel
theorem dX10_edges_13 : decode cX10_edges 13 = .ok (.iload_n 2, 1) := by decide +kernel
theorem dX10_edges_14 : decode cX10_edges 14 = .ok (.invokestatic 178, 3) := by decide +kernel
theorem dX10_edges_17 : decode cX10_edges 17 = .ok (.ifCond .ne 7, 3) := by decide +kernel
theorem dX10_edges_20 : decode cX10_edges 20 = .ok (.iconst 2, 1) := by decide +kernel
theorem dX10_edges_21 : decode cX10_edges 21 = .ok (.goto 4, 3) := by decide +kernel
theorem dX10_edges_24 : decode cX10_edges 24 = .ok (.iconst 0, 1) := by decide +kernel
theorem dX10_edges_25 : decode cX10_edges 25 = .ok (.invokevirtual 105, 3) := by decide +kernel
theorem dX10_edges_28 : decode cX10_edges 28 = .ok (.ifCond .eq 5, 3) := by decide +kernel
theorem dX10_edges_31 : decode cX10_edges 31 = .ok (.iconst (-1), 1) := by decide +kernel
theorem dX10_edges_32 : decode cX10_edges 32 = .ok (.ireturn, 1) := by decide +kernel
theorem dX10_edges_33 : decode cX10_edges 33 = .ok (.aload_n 0, 1) := by decide +kernel
theorem dX10_edges_34 : decode cX10_edges 34 = .ok (.getfield 11, 3) := by decide +kernel
theorem dX10_edges_37 : decode cX10_edges 37 = .ok (.iload_n 1, 1) := by decide +kernel
theorem dX10_edges_38 : decode cX10_edges 38 = .ok (.aaload, 1) := by decide +kernel
theorem dX10_edges_39 : decode cX10_edges 39 = .ok (.aload_n 0, 1) := by decide +kernel
theorem dX10_edges_40 : decode cX10_edges 40 = .ok (.getfield 11, 3) := by decide +kernel
theorem dX10_edges_43 : decode cX10_edges 43 = .ok (.iload_n 1, 1) := by decide +kernel
theorem dX10_edges_44 : decode cX10_edges 44 = .ok (.aaload, 1) := by decide +kernel
theorem dX10_edges_45 : decode cX10_edges 45 = .ok (.iload_n 2, 1) := by decide +kernel
theorem dX10_edges_46 : decode cX10_edges 46 = .ok (.invokestatic 320, 3) := by decide +kernel
theorem dX10_edges_49 : decode cX10_edges 49 = .ok (.ireturn, 1) := by decide +kernel
theorem dX10_kept_0 : decode cX10_kept 0 = .ok (.aload_n 0, 1) := by decide +kernel
theorem dX10_kept_1 : decode cX10_kept 1 = .ok (.aload_n 0, 1) := by decide +kernel
theorem dX10_kept_2 : decode cX10_kept 2 = .ok (.iload_n 1, 1) := by decide +kernel
theorem dX10_kept_3 : decode cX10_kept 3 = .ok (.invokevirtual 145, 3) := by decide +kernel
theorem dX10_kept_6 : decode cX10_kept 6 = .ok (.ifCond .eq 11, 3) := by decide +kernel
theorem dX10_kept_9 : decode cX10_kept 9 = .ok (.aload_n 0, 1) := by decide +kernel
theorem dX10_kept_10 : decode cX10_kept 10 = .ok (.iload_n 2, 1) := by decide +kernel
theorem dX10_kept_11 : decode cX10_kept 11 = .ok (.invokevirtual 145, 3) := by decide +kernel
theorem dX10_kept_14 : decode cX10_kept 14 = .ok (.ifCond .ne 7, 3) := by decide +kernel
theorem dX10_kept_17 : decode cX10_kept 17 = .ok (.iconst 1, 1) := by decide +kernel
theorem dX10_kept_18 : decode cX10_kept 18 = .ok (.goto 46, 3) := by decide +kernel
theorem dX10_kept_21 : decode cX10_kept 21 = .ok (.iload_n 3, 1) := by decide +kernel
theorem dX10_kept_22 : decode cX10_kept 22 = .ok (.iload 4, 2) := by decide +kernel
theorem dX10_kept_24 : decode cX10_kept 24 = .ok (.invokestatic 227, 3) := by decide +kernel
theorem dX10_kept_27 : decode cX10_kept 27 = .ok (.ifCond .eq 19, 3) := by decide +kernel
theorem dX10_kept_30 : decode cX10_kept 30 = .ok (.iload 5, 2) := by decide +kernel
theorem dX10_kept_32 : decode cX10_kept 32 = .ok (.invokestatic 293, 3) := by decide +kernel
theorem dX10_kept_35 : decode cX10_kept 35 = .ok (.ifCond .eq 11, 3) := by decide +kernel
theorem dX10_kept_38 : decode cX10_kept 38 = .ok (.iload 6, 2) := by decide +kernel
theorem dX10_kept_40 : decode cX10_kept 40 = .ok (.invokestatic 178, 3) := by decide +kernel
theorem dX10_kept_43 : decode cX10_kept 43 = .ok (.ifCond .ne 7, 3) := by decide +kernel
theorem dX10_kept_46 : decode cX10_kept 46 = .ok (.iconst 2, 1) := by decide +kernel
theorem dX10_kept_47 : decode cX10_kept 47 = .ok (.goto 17, 3) := by decide +kernel
theorem dX10_kept_50 : decode cX10_kept 50 = .ok (.aload_n 0, 1) := by decide +kernel
theorem dX10_kept_51 : decode cX10_kept 51 = .ok (.iload_n 1, 1) := by decide +kernel
theorem dX10_kept_52 : decode cX10_kept 52 = .ok (.iload_n 2, 1) := by decide +kernel
theorem dX10_kept_53 : decode cX10_kept 53 = .ok (.invokevirtual 231, 3) := by decide +kernel
theorem dX10_kept_56 : decode cX10_kept 56 = .ok (.ifCond .ne 7, 3) := by decide +kernel
theorem dX10_kept_59 : decode cX10_kept 59 = .ok (.iconst 5, 1) := by decide +kernel
theorem dX10_kept_60 : decode cX10_kept 60 = .ok (.goto 4, 3) := by decide +kernel
theorem dX10_kept_63 : decode cX10_kept 63 = .ok (.iconst 0, 1) := by decide +kernel
theorem dX10_kept_64 : decode cX10_kept 64 = .ok (.invokevirtual 105, 3) := by decide +kernel
theorem dX10_kept_67 : decode cX10_kept 67 = .ok (.ifCond .eq 5, 3) := by decide +kernel
theorem dX10_kept_70 : decode cX10_kept 70 = .ok (.iconst (-1), 1) := by decide +kernel
theorem dX10_kept_71 : decode cX10_kept 71 = .ok (.ireturn, 1) := by decide +kernel
theorem dX10_kept_72 : decode cX10_kept 72 = .ok (.aload_n 0, 1) := by decide +kernel
theorem dX10_kept_73 : decode cX10_kept 73 = .ok (.aload_n 0, 1) := by decide +kernel
theorem dX10_kept_74 : decode cX10_kept 74 = .ok (.getfield 11, 3) := by decide +kernel
theorem dX10_kept_77 : decode cX10_kept 77 = .ok (.iload_n 1, 1) := by decide +kernel
theorem dX10_kept_78 : decode cX10_kept 78 = .ok (.aaload, 1) := by decide +kernel
theorem dX10_kept_79 : decode cX10_kept 79 = .ok (.aload_n 0, 1) := by decide +kernel
theorem dX10_kept_80 : decode cX10_kept 80 = .ok (.getfield 11, 3) := by decide +kernel
theorem dX10_kept_83 : decode cX10_kept 83 = .ok (.iload_n 2, 1) := by decide +kernel
theorem dX10_kept_84 : decode cX10_kept 84 = .ok (.aaload, 1) := by decide +kernel
theorem dX10_kept_85 : decode cX10_kept 85 = .ok (.iload_n 3, 1) := by decide +kernel
theorem dX10_kept_86 : decode cX10_kept 86 = .ok (.iload 4, 2) := by decide +kernel
theorem dX10_kept_88 : decode cX10_kept 88 = .ok (.iload 5, 2) := by decide +kernel
theorem dX10_kept_90 : decode cX10_kept 90 = .ok (.invokevirtual 296, 3) := by decide +kernel
theorem dX10_kept_93 : decode cX10_kept 93 = .ok (.aload_n 0, 1) := by decide +kernel
theorem dX10_kept_94 : decode cX10_kept 94 = .ok (.getfield 11, 3) := by decide +kernel
theorem dX10_kept_97 : decode cX10_kept 97 = .ok (.iload_n 1, 1) := by decide +kernel
theorem dX10_kept_98 : decode cX10_kept 98 = .ok (.aaload, 1) := by decide +kernel
theorem dX10_kept_99 : decode cX10_kept 99 = .ok (.aload_n 0, 1) := by decide +kernel
theorem dX10_kept_100 : decode cX10_kept 100 = .ok (.getfield 16, 3) := by decide +kernel
theorem dX10_kept_103 : decode cX10_kept 103 = .ok (.iload 6, 2) := by decide +kernel
theorem dX10_kept_105 : decode cX10_kept 105 = .ok (.invokestatic 320, 3) := by decide +kernel
theorem dX10_kept_108 : decode cX10_kept 108 = .ok (.ireturn, 1) := by decide +kernel
theorem dX10_flat_0 : decode cX10_flat 0 = .ok (.aload_n 0, 1) := by decide +kernel
theorem dX10_flat_1 : decode cX10_flat 1 = .ok (.aload_n 0, 1) := by decide +kernel
theorem dX10_flat_2 : decode cX10_flat 2 = .ok (.iload_n 1, 1) := by decide +kernel
theorem dX10_flat_3 : decode cX10_flat 3 = .ok (.invokevirtual 145, 3) := by decide +kernel
theorem dX10_flat_6 : decode cX10_flat 6 = .ok (.ifCond .ne 7, 3) := by decide +kernel
theorem dX10_flat_9 : decode cX10_flat 9 = .ok (.iconst 1, 1) := by decide +kernel
theorem dX10_flat_10 : decode cX10_flat 10 = .ok (.goto 28, 3) := by decide +kernel
theorem dX10_flat_13 : decode cX10_flat 13 = .ok (.iload_n 2, 1) := by decide +kernel
theorem dX10_flat_14 : decode cX10_flat 14 = .ok (.iload_n 3, 1) := by decide +kernel
theorem dX10_flat_15 : decode cX10_flat 15 = .ok (.invokestatic 227, 3) := by decide +kernel
theorem dX10_flat_18 : decode cX10_flat 18 = .ok (.ifCond .eq 15, 3) := by decide +kernel
theorem dX10_flat_21 : decode cX10_flat 21 = .ok (.iload 4, 2) := by decide +kernel
theorem dX10_flat_23 : decode cX10_flat 23 = .ok (.iconst 1, 1) := by decide +kernel
theorem dX10_flat_24 : decode cX10_flat 24 = .ok (.sipush 255, 3) := by decide +kernel
theorem dX10_flat_27 : decode cX10_flat 27 = .ok (.invokestatic 101, 3) := by decide +kernel
theorem dX10_flat_30 : decode cX10_flat 30 = .ok (.ifCond .ne 7, 3) := by decide +kernel
theorem dX10_flat_33 : decode cX10_flat 33 = .ok (.iconst 2, 1) := by decide +kernel
theorem dX10_flat_34 : decode cX10_flat 34 = .ok (.goto 4, 3) := by decide +kernel
theorem dX10_flat_37 : decode cX10_flat 37 = .ok (.iconst 0, 1) := by decide +kernel
theorem dX10_flat_38 : decode cX10_flat 38 = .ok (.invokevirtual 105, 3) := by decide +kernel
theorem dX10_flat_41 : decode cX10_flat 41 = .ok (.ifCond .eq 5, 3) := by decide +kernel
theorem dX10_flat_44 : decode cX10_flat 44 = .ok (.iconst (-1), 1) := by decide +kernel
theorem dX10_flat_45 : decode cX10_flat 45 = .ok (.ireturn, 1) := by decide +kernel
theorem dX10_flat_46 : decode cX10_flat 46 = .ok (.iconst 0, 1) := by decide +kernel
theorem dX10_flat_47 : decode cX10_flat 47 = .ok (.istore 5, 2) := by decide +kernel
theorem dX10_flat_49 : decode cX10_flat 49 = .ok (.iload 5, 2) := by decide +kernel
theorem dX10_flat_51 : decode cX10_flat 51 = .ok (.iconst 3, 1) := by decide +kernel
theorem dX10_flat_52 : decode cX10_flat 52 = .ok (.if_icmp .gt 48, 3) := by decide +kernel
theorem dX10_flat_55 : decode cX10_flat 55 = .ok (.aload_n 0, 1) := by decide +kernel
theorem dX10_flat_56 : decode cX10_flat 56 = .ok (.aload_n 0, 1) := by decide +kernel
theorem dX10_flat_57 : decode cX10_flat 57 = .ok (.getfield 11, 3) := by decide +kernel
theorem dX10_flat_60 : decode cX10_flat 60 = .ok (.iload_n 1, 1) := by decide +kernel
theorem dX10_flat_61 : decode cX10_flat 61 = .ok (.aaload, 1) := by decide +kernel
theorem dX10_flat_62 : decode cX10_flat 62 = .ok (.aload_n 0, 1) := by decide +kernel
theorem dX10_flat_63 : decode cX10_flat 63 = .ok (.getfield 11, 3) := by decide +kernel
theorem dX10_flat_66 : decode cX10_flat 66 = .ok (.iload_n 1, 1) := by decide +kernel
theorem dX10_flat_67 : decode cX10_flat 67 = .ok (.aaload, 1) := by decide +kernel
theorem dX10_flat_68 : decode cX10_flat 68 = .ok (.iload_n 2, 1) := by decide +kernel
theorem dX10_flat_69 : decode cX10_flat 69 = .ok (.iload_n 3, 1) := by decide +kernel
theorem dX10_flat_70 : decode cX10_flat 70 = .ok (.iload 5, 2) := by decide +kernel
theorem dX10_flat_72 : decode cX10_flat 72 = .ok (.invokevirtual 296, 3) := by decide +kernel
theorem dX10_flat_75 : decode cX10_flat 75 = .ok (.aload_n 0, 1) := by decide +kernel
theorem dX10_flat_76 : decode cX10_flat 76 = .ok (.getfield 16, 3) := by decide +kernel
theorem dX10_flat_79 : decode cX10_flat 79 = .ok (.aload_n 0, 1) := by decide +kernel
theorem dX10_flat_80 : decode cX10_flat 80 = .ok (.getfield 16, 3) := by decide +kernel
theorem dX10_flat_83 : decode cX10_flat 83 = .ok (.iload 4, 2) := by decide +kernel
theorem dX10_flat_85 : decode cX10_flat 85 = .ok (.invokestatic 320, 3) := by decide +kernel
theorem dX10_flat_88 : decode cX10_flat 88 = .ok (.ifCond .ne 6, 3) := by decide +kernel
theorem dX10_flat_91 : decode cX10_flat 91 = .ok (.iload 5, 2) := by decide +kernel
theorem dX10_flat_93 : decode cX10_flat 93 = .ok (.ireturn, 1) := by decide +kernel
theorem dX10_flat_94 : decode cX10_flat 94 = .ok (.iinc 5 1, 3) := by decide +kernel
theorem dX10_flat_97 : decode cX10_flat 97 = .ok (.goto (-48), 3) := by decide +kernel
theorem dX10_flat_100 : decode cX10_flat 100 = .ok (.bipush (-2), 2) := by decide +kernel
theorem dX10_flat_102 : decode cX10_flat 102 = .ok (.ireturn, 1) := by decide +kernel
theorem dX10_smoothToWork_0 : decode cX10_smoothToWork 0 = .ok (.aload_n 0, 1) := by decide +kernel
theorem dX10_smoothToWork_1 : decode cX10_smoothToWork 1 = .ok (.getfield 65, 3) := by decide +kernel
theorem dX10_smoothToWork_4 : decode cX10_smoothToWork 4 = .ok (.aload_n 1, 1) := by decide +kernel
theorem dX10_smoothToWork_5 : decode cX10_smoothToWork 5 = .ok (.aload_n 2, 1) := by decide +kernel
theorem dX10_smoothToWork_6 : decode cX10_smoothToWork 6 = .ok (.iload_n 3, 1) := by decide +kernel
theorem dX10_smoothToWork_7 : decode cX10_smoothToWork 7 = .ok (.iload 4, 2) := by decide +kernel
theorem dX10_smoothToWork_9 : decode cX10_smoothToWork 9 = .ok (.iload 5, 2) := by decide +kernel
theorem dX10_smoothToWork_11 : decode cX10_smoothToWork 11 = .ok (.invokevirtual 234, 3) := by decide +kernel
theorem dX10_smoothToWork_14 : decode cX10_smoothToWork 14 = .ok (.aload_n 0, 1) := by decide +kernel
theorem dX10_smoothToWork_15 : decode cX10_smoothToWork 15 = .ok (.getfield 16, 3) := by decide +kernel
theorem dX10_smoothToWork_18 : decode cX10_smoothToWork 18 = .ok (.aload_n 1, 1) := by decide +kernel
theorem dX10_smoothToWork_19 : decode cX10_smoothToWork 19 = .ok (.getfield 148, 3) := by decide +kernel
theorem dX10_smoothToWork_22 : decode cX10_smoothToWork 22 = .ok (.aload_n 1, 1) := by decide +kernel
theorem dX10_smoothToWork_23 : decode cX10_smoothToWork 23 = .ok (.getfield 151, 3) := by decide +kernel
theorem dX10_smoothToWork_26 : decode cX10_smoothToWork 26 = .ok (.invokevirtual 194, 3) := by decide +kernel
theorem dX10_smoothToWork_29 : decode cX10_smoothToWork 29 = .ok (.iconst 0, 1) := by decide +kernel
theorem dX10_smoothToWork_30 : decode cX10_smoothToWork 30 = .ok (.istore 6, 2) := by decide +kernel
theorem dX10_smoothToWork_32 : decode cX10_smoothToWork 32 = .ok (.iload 6, 2) := by decide +kernel
theorem dX10_smoothToWork_34 : decode cX10_smoothToWork 34 = .ok (.aload_n 0, 1) := by decide +kernel
theorem dX10_smoothToWork_35 : decode cX10_smoothToWork 35 = .ok (.getfield 16, 3) := by decide +kernel
theorem dX10_smoothToWork_38 : decode cX10_smoothToWork 38 = .ok (.getfield 151, 3) := by decide +kernel
theorem dX10_smoothToWork_41 : decode cX10_smoothToWork 41 = .ok (.if_icmp .ge 52, 3) := by decide +kernel
theorem dX10_smoothToWork_44 : decode cX10_smoothToWork 44 = .ok (.iconst 0, 1) := by decide +kernel
theorem dX10_smoothToWork_45 : decode cX10_smoothToWork 45 = .ok (.istore 7, 2) := by decide +kernel
theorem dX10_smoothToWork_47 : decode cX10_smoothToWork 47 = .ok (.iload 7, 2) := by decide +kernel
theorem dX10_smoothToWork_49 : decode cX10_smoothToWork 49 = .ok (.aload_n 0, 1) := by decide +kernel
theorem dX10_smoothToWork_50 : decode cX10_smoothToWork 50 = .ok (.getfield 16, 3) := by decide +kernel
theorem dX10_smoothToWork_53 : decode cX10_smoothToWork 53 = .ok (.getfield 148, 3) := by decide +kernel
theorem dX10_smoothToWork_56 : decode cX10_smoothToWork 56 = .ok (.if_icmp .ge 31, 3) := by decide +kernel
theorem dX10_smoothToWork_59 : decode cX10_smoothToWork 59 = .ok (.aload_n 0, 1) := by decide +kernel
theorem dX10_smoothToWork_60 : decode cX10_smoothToWork 60 = .ok (.getfield 16, 3) := by decide +kernel
theorem dX10_smoothToWork_63 : decode cX10_smoothToWork 63 = .ok (.iload 7, 2) := by decide +kernel
theorem dX10_smoothToWork_65 : decode cX10_smoothToWork 65 = .ok (.iload 6, 2) := by decide +kernel
theorem dX10_smoothToWork_67 : decode cX10_smoothToWork 67 = .ok (.aload_n 0, 1) := by decide +kernel
theorem dX10_smoothToWork_68 : decode cX10_smoothToWork 68 = .ok (.getfield 65, 3) := by decide +kernel
theorem dX10_smoothToWork_71 : decode cX10_smoothToWork 71 = .ok (.iload 7, 2) := by decide +kernel
theorem dX10_smoothToWork_73 : decode cX10_smoothToWork 73 = .ok (.iload 6, 2) := by decide +kernel
theorem dX10_smoothToWork_75 : decode cX10_smoothToWork 75 = .ok (.invokevirtual 290, 3) := by decide +kernel
theorem dX10_smoothToWork_78 : decode cX10_smoothToWork 78 = .ok (.invokevirtual 184, 3) := by decide +kernel
theorem dX10_smoothToWork_81 : decode cX10_smoothToWork 81 = .ok (.iinc 7 1, 3) := by decide +kernel
theorem dX10_smoothToWork_84 : decode cX10_smoothToWork 84 = .ok (.goto (-37), 3) := by decide +kernel
theorem dX10_smoothToWork_87 : decode cX10_smoothToWork 87 = .ok (.iinc 6 1, 3) := by decide +kernel
theorem dX10_smoothToWork_90 : decode cX10_smoothToWork 90 = .ok (.goto (-58), 3) := by decide +kernel
theorem dX10_smoothToWork_93 : decode cX10_smoothToWork 93 = .ok (.return_, 1) := by decide +kernel
theorem dX10_actAround_0 : decode cX10_actAround 0 = .ok (.aload_n 0, 1) := by decide +kernel
theorem dX10_actAround_1 : decode cX10_actAround 1 = .ok (.iload_n 1, 1) := by decide +kernel
theorem dX10_actAround_2 : decode cX10_actAround 2 = .ok (.invokestatic 191, 3) := by decide +kernel
theorem dX10_actAround_5 : decode cX10_actAround 5 = .ok (.ifCond .eq 11, 3) := by decide +kernel
theorem dX10_actAround_8 : decode cX10_actAround 8 = .ok (.aload_n 0, 1) := by decide +kernel
theorem dX10_actAround_9 : decode cX10_actAround 9 = .ok (.iload_n 2, 1) := by decide +kernel
theorem dX10_actAround_10 : decode cX10_actAround 10 = .ok (.invokevirtual 145, 3) := by decide +kernel
theorem dX10_actAround_13 : decode cX10_actAround 13 = .ok (.ifCond .ne 7, 3) := by decide +kernel
theorem dX10_actAround_16 : decode cX10_actAround 16 = .ok (.iconst 1, 1) := by decide +kernel
theorem dX10_actAround_17 : decode cX10_actAround 17 = .ok (.goto 17, 3) := by decide +kernel
theorem dX10_actAround_20 : decode cX10_actAround 20 = .ok (.iload_n 3, 1) := by decide +kernel
theorem dX10_actAround_21 : decode cX10_actAround 21 = .ok (.iconst 0, 1) := by decide +kernel
theorem dX10_actAround_22 : decode cX10_actAround 22 = .ok (.iconst 4, 1) := by decide +kernel
theorem dX10_actAround_23 : decode cX10_actAround 23 = .ok (.invokestatic 101, 3) := by decide +kernel
theorem dX10_actAround_26 : decode cX10_actAround 26 = .ok (.ifCond .ne 7, 3) := by decide +kernel
theorem dX10_actAround_29 : decode cX10_actAround 29 = .ok (.iconst 2, 1) := by decide +kernel
theorem dX10_actAround_30 : decode cX10_actAround 30 = .ok (.goto 4, 3) := by decide +kernel
theorem dX10_actAround_33 : decode cX10_actAround 33 = .ok (.iconst 0, 1) := by decide +kernel
theorem dX10_actAround_34 : decode cX10_actAround 34 = .ok (.invokevirtual 105, 3) := by decide +kernel
theorem dX10_actAround_37 : decode cX10_actAround 37 = .ok (.ifCond .eq 5, 3) := by decide +kernel
theorem dX10_actAround_40 : decode cX10_actAround 40 = .ok (.iconst (-1), 1) := by decide +kernel
theorem dX10_actAround_41 : decode cX10_actAround 41 = .ok (.ireturn, 1) := by decide +kernel
theorem dX10_actAround_42 : decode cX10_actAround 42 = .ok (.aload_n 0, 1) := by decide +kernel
theorem dX10_actAround_43 : decode cX10_actAround 43 = .ok (.getfield 11, 3) := by decide +kernel
theorem dX10_actAround_46 : decode cX10_actAround 46 = .ok (.iload_n 2, 1) := by decide +kernel
theorem dX10_actAround_47 : decode cX10_actAround 47 = .ok (.aaload, 1) := by decide +kernel
theorem dX10_actAround_48 : decode cX10_actAround 48 = .ok (.astore 5, 2) := by decide +kernel
theorem dX10_actAround_50 : decode cX10_actAround 50 = .ok (.aload_n 0, 1) := by decide +kernel
theorem dX10_actAround_51 : decode cX10_actAround 51 = .ok (.getfield 16, 3) := by decide +kernel
theorem dX10_actAround_54 : decode cX10_actAround 54 = .ok (.aload 5, 2) := by decide +kernel
theorem dX10_actAround_56 : decode cX10_actAround 56 = .ok (.getfield 148, 3) := by decide +kernel
theorem dX10_actAround_59 : decode cX10_actAround 59 = .ok (.aload 5, 2) := by decide +kernel
theorem dX10_actAround_61 : decode cX10_actAround 61 = .ok (.getfield 151, 3) := by decide +kernel
theorem dX10_actAround_64 : decode cX10_actAround 64 = .ok (.invokevirtual 194, 3) := by decide +kernel
theorem dX10_actAround_67 : decode cX10_actAround 67 = .ok (.iconst 0, 1) := by decide +kernel
theorem dX10_actAround_68 : decode cX10_actAround 68 = .ok (.istore 6, 2) := by decide +kernel
theorem dX10_actAround_70 : decode cX10_actAround 70 = .ok (.iload 6, 2) := by decide +kernel
theorem dX10_actAround_72 : decode cX10_actAround 72 = .ok (.aload 5, 2) := by decide +kernel
theorem dX10_actAround_74 : decode cX10_actAround 74 = .ok (.getfield 151, 3) := by decide +kernel
theorem dX10_actAround_77 : decode cX10_actAround 77 = .ok (.if_icmp .ge 70, 3) := by decide +kernel
theorem dX10_actAround_80 : decode cX10_actAround 80 = .ok (.iconst 0, 1) := by decide +kernel
theorem dX10_actAround_81 : decode cX10_actAround 81 = .ok (.istore 7, 2) := by decide +kernel
theorem dX10_actAround_83 : decode cX10_actAround 83 = .ok (.iload 7, 2) := by decide +kernel
theorem dX10_actAround_85 : decode cX10_actAround 85 = .ok (.aload 5, 2) := by decide +kernel
theorem dX10_actAround_87 : decode cX10_actAround 87 = .ok (.getfield 148, 3) := by decide +kernel
theorem dX10_actAround_90 : decode cX10_actAround 90 = .ok (.if_icmp .ge 51, 3) := by decide +kernel
theorem dX10_actAround_93 : decode cX10_actAround 93 = .ok (.aload_n 0, 1) := by decide +kernel
theorem dX10_actAround_94 : decode cX10_actAround 94 = .ok (.aload 5, 2) := by decide +kernel
theorem dX10_actAround_96 : decode cX10_actAround 96 = .ok (.iload 7, 2) := by decide +kernel
theorem dX10_actAround_98 : decode cX10_actAround 98 = .ok (.iload 6, 2) := by decide +kernel
theorem dX10_actAround_100 : decode cX10_actAround 100 = .ok (.iload_n 3, 1) := by decide +kernel
theorem dX10_actAround_101 : decode cX10_actAround 101 = .ok (.invokevirtual 324, 3) := by decide +kernel
theorem dX10_actAround_104 : decode cX10_actAround 104 = .ok (.astore 8, 2) := by decide +kernel
theorem dX10_actAround_106 : decode cX10_actAround 106 = .ok (.aload_n 0, 1) := by decide +kernel
theorem dX10_actAround_107 : decode cX10_actAround 107 = .ok (.getfield 16, 3) := by decide +kernel
theorem dX10_actAround_110 : decode cX10_actAround 110 = .ok (.iload 7, 2) := by decide +kernel
theorem dX10_actAround_112 : decode cX10_actAround 112 = .ok (.iload 6, 2) := by decide +kernel
theorem dX10_actAround_114 : decode cX10_actAround 114 = .ok (.iload 4, 2) := by decide +kernel
theorem dX10_actAround_116 : decode cX10_actAround 116 = .ok (.ifCond .eq 11, 3) := by decide +kernel
theorem dX10_actAround_119 : decode cX10_actAround 119 = .ok (.aload 8, 2) := by decide +kernel
theorem dX10_actAround_121 : decode cX10_actAround 121 = .ok (.invokevirtual 328, 3) := by decide +kernel
theorem dX10_actAround_124 : decode cX10_actAround 124 = .ok (.goto 8, 3) := by decide +kernel
theorem dX10_actAround_127 : decode cX10_actAround 127 = .ok (.aload 8, 2) := by decide +kernel
theorem dX10_actAround_129 : decode cX10_actAround 129 = .ok (.invokevirtual 313, 3) := by decide +kernel
theorem dX10_actAround_132 : decode cX10_actAround 132 = .ok (.invokevirtual 184, 3) := by decide +kernel
theorem dX10_actAround_135 : decode cX10_actAround 135 = .ok (.iinc 7 1, 3) := by decide +kernel
theorem dX10_actAround_138 : decode cX10_actAround 138 = .ok (.goto (-55), 3) := by decide +kernel
theorem dX10_actAround_141 : decode cX10_actAround 141 = .ok (.iinc 6 1, 3) := by decide +kernel
theorem dX10_actAround_144 : decode cX10_actAround 144 = .ok (.goto (-74), 3) := by decide +kernel
theorem dX10_actAround_147 : decode cX10_actAround 147 = .ok (.aload_n 0, 1) := by decide +kernel
theorem dX10_actAround_148 : decode cX10_actAround 148 = .ok (.iload_n 1, 1) := by decide +kernel
theorem dX10_actAround_149 : decode cX10_actAround 149 = .ok (.iload_n 2, 1) := by decide +kernel
theorem dX10_actAround_150 : decode cX10_actAround 150 = .ok (.invokevirtual 220, 3) := by decide +kernel
theorem dX10_actAround_153 : decode cX10_actAround 153 = .ok (.ireturn, 1) := by decide +kernel
theorem dX10_edgesOfBoth_0 : decode cX10_edgesOfBoth 0 = .ok (.iconst 0, 1) := by decide +kernel
theorem dX10_edgesOfBoth_1 : decode cX10_edgesOfBoth 1 = .ok (.istore_n 3, 1) := by decide +kernel
theorem dX10_edgesOfBoth_2 : decode cX10_edgesOfBoth 2 = .ok (.iconst 0, 1) := by decide +kernel
theorem dX10_edgesOfBoth_3 : decode cX10_edgesOfBoth 3 = .ok (.istore 4, 2) := by decide +kernel
theorem dX10_edgesOfBoth_5 : decode cX10_edgesOfBoth 5 = .ok (.iload 4, 2) := by decide +kernel
theorem dX10_edgesOfBoth_7 : decode cX10_edgesOfBoth 7 = .ok (.aload_n 0, 1) := by decide +kernel
theorem dX10_edgesOfBoth_8 : decode cX10_edgesOfBoth 8 = .ok (.getfield 151, 3) := by decide +kernel
theorem dX10_edgesOfBoth_11 : decode cX10_edgesOfBoth 11 = .ok (.if_icmp .ge 91, 3) := by decide +kernel
theorem dX10_edgesOfBoth_14 : decode cX10_edgesOfBoth 14 = .ok (.iconst 0, 1) := by decide +kernel
theorem dX10_edgesOfBoth_15 : decode cX10_edgesOfBoth 15 = .ok (.istore 5, 2) := by decide +kernel
theorem dX10_edgesOfBoth_17 : decode cX10_edgesOfBoth 17 = .ok (.iload 5, 2) := by decide +kernel
theorem dX10_edgesOfBoth_19 : decode cX10_edgesOfBoth 19 = .ok (.aload_n 0, 1) := by decide +kernel
theorem dX10_edgesOfBoth_20 : decode cX10_edgesOfBoth 20 = .ok (.getfield 148, 3) := by decide +kernel
theorem dX10_edgesOfBoth_23 : decode cX10_edgesOfBoth 23 = .ok (.if_icmp .ge 73, 3) := by decide +kernel
theorem dX10_edgesOfBoth_26 : decode cX10_edgesOfBoth 26 = .ok (.iload_n 3, 1) := by decide +kernel
theorem dX10_edgesOfBoth_27 : decode cX10_edgesOfBoth 27 = .ok (.aload_n 0, 1) := by decide +kernel
theorem dX10_edgesOfBoth_28 : decode cX10_edgesOfBoth 28 = .ok (.iload 5, 2) := by decide +kernel
theorem dX10_edgesOfBoth_30 : decode cX10_edgesOfBoth 30 = .ok (.iload 4, 2) := by decide +kernel
theorem dX10_edgesOfBoth_32 : decode cX10_edgesOfBoth 32 = .ok (.invokevirtual 331, 3) := by decide +kernel
theorem dX10_edgesOfBoth_35 : decode cX10_edgesOfBoth 35 = .ok (.iload_n 2, 1) := by decide +kernel
theorem dX10_edgesOfBoth_36 : decode cX10_edgesOfBoth 36 = .ok (.if_icmp .lt 19, 3) := by decide +kernel
theorem dX10_edgesOfBoth_39 : decode cX10_edgesOfBoth 39 = .ok (.aload_n 1, 1) := by decide +kernel
theorem dX10_edgesOfBoth_40 : decode cX10_edgesOfBoth 40 = .ok (.iload 5, 2) := by decide +kernel
theorem dX10_edgesOfBoth_42 : decode cX10_edgesOfBoth 42 = .ok (.iload 4, 2) := by decide +kernel
theorem dX10_edgesOfBoth_44 : decode cX10_edgesOfBoth 44 = .ok (.invokevirtual 331, 3) := by decide +kernel
theorem dX10_edgesOfBoth_47 : decode cX10_edgesOfBoth 47 = .ok (.iload_n 2, 1) := by decide +kernel
theorem dX10_edgesOfBoth_48 : decode cX10_edgesOfBoth 48 = .ok (.if_icmp .lt 7, 3) := by decide +kernel
theorem dX10_edgesOfBoth_51 : decode cX10_edgesOfBoth 51 = .ok (.iconst 1, 1) := by decide +kernel
theorem dX10_edgesOfBoth_52 : decode cX10_edgesOfBoth 52 = .ok (.goto 4, 3) := by decide +kernel
theorem dX10_edgesOfBoth_55 : decode cX10_edgesOfBoth 55 = .ok (.iconst 0, 1) := by decide +kernel
theorem dX10_edgesOfBoth_56 : decode cX10_edgesOfBoth 56 = .ok (.iadd, 1) := by decide +kernel
theorem dX10_edgesOfBoth_57 : decode cX10_edgesOfBoth 57 = .ok (.istore_n 3, 1) := by decide +kernel
theorem dX10_edgesOfBoth_58 : decode cX10_edgesOfBoth 58 = .ok (.iload_n 3, 1) := by decide +kernel
theorem dX10_edgesOfBoth_59 : decode cX10_edgesOfBoth 59 = .ok (.aload_n 0, 1) := by decide +kernel
theorem dX10_edgesOfBoth_60 : decode cX10_edgesOfBoth 60 = .ok (.iload 5, 2) := by decide +kernel
theorem dX10_edgesOfBoth_62 : decode cX10_edgesOfBoth 62 = .ok (.iload 4, 2) := by decide +kernel
theorem dX10_edgesOfBoth_64 : decode cX10_edgesOfBoth 64 = .ok (.invokevirtual 334, 3) := by decide +kernel
theorem dX10_edgesOfBoth_67 : decode cX10_edgesOfBoth 67 = .ok (.iload_n 2, 1) := by decide +kernel
theorem dX10_edgesOfBoth_68 : decode cX10_edgesOfBoth 68 = .ok (.if_icmp .lt 19, 3) := by decide +kernel
theorem dX10_edgesOfBoth_71 : decode cX10_edgesOfBoth 71 = .ok (.aload_n 1, 1) := by decide +kernel
theorem dX10_edgesOfBoth_72 : decode cX10_edgesOfBoth 72 = .ok (.iload 5, 2) := by decide +kernel
theorem dX10_edgesOfBoth_74 : decode cX10_edgesOfBoth 74 = .ok (.iload 4, 2) := by decide +kernel
theorem dX10_edgesOfBoth_76 : decode cX10_edgesOfBoth 76 = .ok (.invokevirtual 334, 3) := by decide +kernel
theorem dX10_edgesOfBoth_79 : decode cX10_edgesOfBoth 79 = .ok (.iload_n 2, 1) := by decide +kernel
theorem dX10_edgesOfBoth_80 : decode cX10_edgesOfBoth 80 = .ok (.if_icmp .lt 7, 3) := by decide +kernel
theorem dX10_edgesOfBoth_83 : decode cX10_edgesOfBoth 83 = .ok (.iconst 1, 1) := by decide +kernel
theorem dX10_edgesOfBoth_84 : decode cX10_edgesOfBoth 84 = .ok (.goto 4, 3) := by decide +kernel
theorem dX10_edgesOfBoth_87 : decode cX10_edgesOfBoth 87 = .ok (.iconst 0, 1) := by decide +kernel
theorem dX10_edgesOfBoth_88 : decode cX10_edgesOfBoth 88 = .ok (.iadd, 1) := by decide +kernel
theorem dX10_edgesOfBoth_89 : decode cX10_edgesOfBoth 89 = .ok (.istore_n 3, 1) := by decide +kernel
theorem dX10_edgesOfBoth_90 : decode cX10_edgesOfBoth 90 = .ok (.iinc 5 1, 3) := by decide +kernel
theorem dX10_edgesOfBoth_93 : decode cX10_edgesOfBoth 93 = .ok (.goto (-76), 3) := by decide +kernel
theorem dX10_edgesOfBoth_96 : decode cX10_edgesOfBoth 96 = .ok (.iinc 4 1, 3) := by decide +kernel
theorem dX10_edgesOfBoth_99 : decode cX10_edgesOfBoth 99 = .ok (.goto (-94), 3) := by decide +kernel
theorem dX10_edgesOfBoth_102 : decode cX10_edgesOfBoth 102 = .ok (.iload_n 3, 1) := by decide +kernel
theorem dX10_edgesOfBoth_103 : decode cX10_edgesOfBoth 103 = .ok (.ireturn, 1) := by decide +kernel
theorem dX10_apart_0 : decode cX10_apart 0 = .ok (.aload_n 0, 1) := by decide +kernel
theorem dX10_apart_1 : decode cX10_apart 1 = .ok (.aload_n 0, 1) := by decide +kernel
theorem dX10_apart_2 : decode cX10_apart 2 = .ok (.iload_n 1, 1) := by decide +kernel
theorem dX10_apart_3 : decode cX10_apart 3 = .ok (.invokevirtual 145, 3) := by decide +kernel
theorem dX10_apart_6 : decode cX10_apart 6 = .ok (.ifCond .eq 20, 3) := by decide +kernel
theorem dX10_apart_9 : decode cX10_apart 9 = .ok (.aload_n 0, 1) := by decide +kernel
theorem dX10_apart_10 : decode cX10_apart 10 = .ok (.iload_n 2, 1) := by decide +kernel
theorem dX10_apart_11 : decode cX10_apart 11 = .ok (.invokevirtual 145, 3) := by decide +kernel
theorem dX10_apart_14 : decode cX10_apart 14 = .ok (.ifCond .eq 12, 3) := by decide +kernel
theorem dX10_apart_17 : decode cX10_apart 17 = .ok (.iload_n 3, 1) := by decide +kernel
theorem dX10_apart_18 : decode cX10_apart 18 = .ok (.iconst 0, 1) := by decide +kernel
theorem dX10_apart_19 : decode cX10_apart 19 = .ok (.iconst 2, 1) := by decide +kernel
theorem dX10_apart_20 : decode cX10_apart 20 = .ok (.invokestatic 101, 3) := by decide +kernel
theorem dX10_apart_23 : decode cX10_apart 23 = .ok (.ifCond .ne 7, 3) := by decide +kernel
theorem dX10_apart_26 : decode cX10_apart 26 = .ok (.iconst 1, 1) := by decide +kernel
theorem dX10_apart_27 : decode cX10_apart 27 = .ok (.goto 17, 3) := by decide +kernel
theorem dX10_apart_30 : decode cX10_apart 30 = .ok (.aload_n 0, 1) := by decide +kernel
theorem dX10_apart_31 : decode cX10_apart 31 = .ok (.iload_n 1, 1) := by decide +kernel
theorem dX10_apart_32 : decode cX10_apart 32 = .ok (.iload_n 2, 1) := by decide +kernel
theorem dX10_apart_33 : decode cX10_apart 33 = .ok (.invokevirtual 231, 3) := by decide +kernel
theorem dX10_apart_36 : decode cX10_apart 36 = .ok (.ifCond .ne 7, 3) := by decide +kernel
theorem dX10_apart_39 : decode cX10_apart 39 = .ok (.iconst 5, 1) := by decide +kernel
theorem dX10_apart_40 : decode cX10_apart 40 = .ok (.goto 4, 3) := by decide +kernel
theorem dX10_apart_43 : decode cX10_apart 43 = .ok (.iconst 0, 1) := by decide +kernel
theorem dX10_apart_44 : decode cX10_apart 44 = .ok (.invokevirtual 105, 3) := by decide +kernel
theorem dX10_apart_47 : decode cX10_apart 47 = .ok (.ifCond .eq 5, 3) := by decide +kernel
theorem dX10_apart_50 : decode cX10_apart 50 = .ok (.iconst (-1), 1) := by decide +kernel
theorem dX10_apart_51 : decode cX10_apart 51 = .ok (.ireturn, 1) := by decide +kernel
theorem dX10_apart_52 : decode cX10_apart 52 = .ok (.iconst 0, 1) := by decide +kernel
theorem dX10_apart_53 : decode cX10_apart 53 = .ok (.istore 4, 2) := by decide +kernel
theorem dX10_apart_55 : decode cX10_apart 55 = .ok (.iconst 0, 1) := by decide +kernel
theorem dX10_apart_56 : decode cX10_apart 56 = .ok (.istore 5, 2) := by decide +kernel
theorem dX10_apart_58 : decode cX10_apart 58 = .ok (.iconst 0, 1) := by decide +kernel
theorem dX10_apart_59 : decode cX10_apart 59 = .ok (.istore 6, 2) := by decide +kernel
theorem dX10_apart_61 : decode cX10_apart 61 = .ok (.iconst 0, 1) := by decide +kernel
theorem dX10_apart_62 : decode cX10_apart 62 = .ok (.istore 7, 2) := by decide +kernel
theorem dX10_apart_64 : decode cX10_apart 64 = .ok (.iload 7, 2) := by decide +kernel
theorem dX10_apart_66 : decode cX10_apart 66 = .ok (.aload_n 0, 1) := by decide +kernel
theorem dX10_apart_67 : decode cX10_apart 67 = .ok (.getfield 11, 3) := by decide +kernel
theorem dX10_apart_70 : decode cX10_apart 70 = .ok (.iload_n 1, 1) := by decide +kernel
theorem dX10_apart_71 : decode cX10_apart 71 = .ok (.aaload, 1) := by decide +kernel
theorem dX10_apart_72 : decode cX10_apart 72 = .ok (.invokevirtual 212, 3) := by decide +kernel
theorem dX10_apart_75 : decode cX10_apart 75 = .ok (.if_icmp .ge 70, 3) := by decide +kernel
theorem dX10_apart_78 : decode cX10_apart 78 = .ok (.aload_n 0, 1) := by decide +kernel
theorem dX10_apart_79 : decode cX10_apart 79 = .ok (.getfield 11, 3) := by decide +kernel
theorem dX10_apart_82 : decode cX10_apart 82 = .ok (.iload_n 1, 1) := by decide +kernel
theorem dX10_apart_83 : decode cX10_apart 83 = .ok (.aaload, 1) := by decide +kernel
theorem dX10_apart_84 : decode cX10_apart 84 = .ok (.getfield 198, 3) := by decide +kernel
theorem dX10_apart_87 : decode cX10_apart 87 = .ok (.iload 7, 2) := by decide +kernel
theorem dX10_apart_89 : decode cX10_apart 89 = .ok (.iaload, 1) := by decide +kernel
theorem dX10_apart_90 : decode cX10_apart 90 = .ok (.aload_n 0, 1) := by decide +kernel
theorem dX10_apart_91 : decode cX10_apart 91 = .ok (.getfield 11, 3) := by decide +kernel
theorem dX10_apart_94 : decode cX10_apart 94 = .ok (.iload_n 2, 1) := by decide +kernel
theorem dX10_apart_95 : decode cX10_apart 95 = .ok (.aaload, 1) := by decide +kernel
theorem dX10_apart_96 : decode cX10_apart 96 = .ok (.getfield 198, 3) := by decide +kernel
theorem dX10_apart_99 : decode cX10_apart 99 = .ok (.iload 7, 2) := by decide +kernel
theorem dX10_apart_101 : decode cX10_apart 101 = .ok (.iaload, 1) := by decide +kernel
theorem dX10_apart_102 : decode cX10_apart 102 = .ok (.isub, 1) := by decide +kernel
theorem dX10_apart_103 : decode cX10_apart 103 = .ok (.invokestatic 337, 3) := by decide +kernel
theorem dX10_apart_106 : decode cX10_apart 106 = .ok (.istore 8, 2) := by decide +kernel
theorem dX10_apart_108 : decode cX10_apart 108 = .ok (.iload 4, 2) := by decide +kernel
theorem dX10_apart_110 : decode cX10_apart 110 = .ok (.iload 8, 2) := by decide +kernel
theorem dX10_apart_112 : decode cX10_apart 112 = .ok (.ifCond .le 7, 3) := by decide +kernel
theorem dX10_apart_115 : decode cX10_apart 115 = .ok (.iconst 1, 1) := by decide +kernel
theorem dX10_apart_116 : decode cX10_apart 116 = .ok (.goto 4, 3) := by decide +kernel
theorem dX10_apart_119 : decode cX10_apart 119 = .ok (.iconst 0, 1) := by decide +kernel
theorem dX10_apart_120 : decode cX10_apart 120 = .ok (.iadd, 1) := by decide +kernel
theorem dX10_apart_121 : decode cX10_apart 121 = .ok (.istore 4, 2) := by decide +kernel
theorem dX10_apart_123 : decode cX10_apart 123 = .ok (.iload 5, 2) := by decide +kernel
theorem dX10_apart_125 : decode cX10_apart 125 = .ok (.iload 8, 2) := by decide +kernel
theorem dX10_apart_127 : decode cX10_apart 127 = .ok (.iadd, 1) := by decide +kernel
theorem dX10_apart_128 : decode cX10_apart 128 = .ok (.istore 5, 2) := by decide +kernel
theorem dX10_apart_130 : decode cX10_apart 130 = .ok (.iload 6, 2) := by decide +kernel
theorem dX10_apart_132 : decode cX10_apart 132 = .ok (.iload 8, 2) := by decide +kernel
theorem dX10_apart_134 : decode cX10_apart 134 = .ok (.invokestatic 342, 3) := by decide +kernel
theorem dX10_apart_137 : decode cX10_apart 137 = .ok (.istore 6, 2) := by decide +kernel
theorem dX10_apart_139 : decode cX10_apart 139 = .ok (.iinc 7 1, 3) := by decide +kernel
theorem dX10_apart_142 : decode cX10_apart 142 = .ok (.goto (-78), 3) := by decide +kernel
theorem dX10_apart_145 : decode cX10_apart 145 = .ok (.iload_n 3, 1) := by decide +kernel
theorem dX10_apart_146 : decode cX10_apart 146 = .ok (.ifCond .ne 8, 3) := by decide +kernel
theorem dX10_apart_149 : decode cX10_apart 149 = .ok (.iload 4, 2) := by decide +kernel
theorem dX10_apart_151 : decode cX10_apart 151 = .ok (.goto 15, 3) := by decide +kernel
theorem dX10_apart_154 : decode cX10_apart 154 = .ok (.iload_n 3, 1) := by decide +kernel
theorem dX10_apart_155 : decode cX10_apart 155 = .ok (.iconst 1, 1) := by decide +kernel
theorem dX10_apart_156 : decode cX10_apart 156 = .ok (.if_icmp .ne 8, 3) := by decide +kernel
theorem dX10_apart_159 : decode cX10_apart 159 = .ok (.iload 5, 2) := by decide +kernel
theorem dX10_apart_161 : decode cX10_apart 161 = .ok (.goto 5, 3) := by decide +kernel
theorem dX10_apart_164 : decode cX10_apart 164 = .ok (.iload 6, 2) := by decide +kernel
theorem dX10_apart_166 : decode cX10_apart 166 = .ok (.ireturn, 1) := by decide +kernel
theorem dX10_regions_0 : decode cX10_regions 0 = .ok (.aload_n 0, 1) := by decide +kernel
theorem dX10_regions_1 : decode cX10_regions 1 = .ok (.aload_n 0, 1) := by decide +kernel
theorem dX10_regions_2 : decode cX10_regions 2 = .ok (.iload_n 1, 1) := by decide +kernel
theorem dX10_regions_3 : decode cX10_regions 3 = .ok (.invokevirtual 145, 3) := by decide +kernel
theorem dX10_regions_6 : decode cX10_regions 6 = .ok (.ifCond .ne 7, 3) := by decide +kernel
theorem dX10_regions_9 : decode cX10_regions 9 = .ok (.iconst 1, 1) := by decide +kernel
theorem dX10_regions_10 : decode cX10_regions 10 = .ok (.goto 15, 3) := by decide +kernel
theorem dX10_regions_13 : decode cX10_regions 13 = .ok (.iload_n 2, 1) := by decide +kernel
theorem dX10_regions_14 : decode cX10_regions 14 = .ok (.invokestatic 178, 3) := by decide +kernel
theorem dX10_regions_17 : decode cX10_regions 17 = .ok (.ifCond .ne 7, 3) := by decide +kernel
theorem dX10_regions_20 : decode cX10_regions 20 = .ok (.iconst 2, 1) := by decide +kernel
theorem dX10_regions_21 : decode cX10_regions 21 = .ok (.goto 4, 3) := by decide +kernel
theorem dX10_regions_24 : decode cX10_regions 24 = .ok (.iconst 0, 1) := by decide +kernel
theorem dX10_regions_25 : decode cX10_regions 25 = .ok (.invokevirtual 105, 3) := by decide +kernel
theorem dX10_regions_28 : decode cX10_regions 28 = .ok (.ifCond .eq 5, 3) := by decide +kernel
theorem dX10_regions_31 : decode cX10_regions 31 = .ok (.iconst (-1), 1) := by decide +kernel
theorem dX10_regions_32 : decode cX10_regions 32 = .ok (.ireturn, 1) := by decide +kernel
theorem dX10_regions_33 : decode cX10_regions 33 = .ok (.aload_n 0, 1) := by decide +kernel
theorem dX10_regions_34 : decode cX10_regions 34 = .ok (.getfield 78, 3) := by decide +kernel
theorem dX10_regions_37 : decode cX10_regions 37 = .ok (.aload_n 0, 1) := by decide +kernel
theorem dX10_regions_38 : decode cX10_regions 38 = .ok (.getfield 11, 3) := by decide +kernel
theorem dX10_regions_41 : decode cX10_regions 41 = .ok (.iload_n 1, 1) := by decide +kernel
theorem dX10_regions_42 : decode cX10_regions 42 = .ok (.aaload, 1) := by decide +kernel
theorem dX10_regions_43 : decode cX10_regions 43 = .ok (.iload_n 2, 1) := by decide +kernel
theorem dX10_regions_44 : decode cX10_regions 44 = .ok (.invokevirtual 345, 3) := by decide +kernel
theorem dX10_regions_47 : decode cX10_regions 47 = .ok (.aload_n 0, 1) := by decide +kernel
theorem dX10_regions_48 : decode cX10_regions 48 = .ok (.getfield 78, 3) := by decide +kernel
theorem dX10_regions_51 : decode cX10_regions 51 = .ok (.getfield 348, 3) := by decide +kernel
theorem dX10_regions_54 : decode cX10_regions 54 = .ok (.ireturn, 1) := by decide +kernel
theorem dX10_region_0 : decode cX10_region 0 = .ok (.aload_n 0, 1) := by decide +kernel
theorem dX10_region_1 : decode cX10_region 1 = .ok (.aload_n 0, 1) := by decide +kernel
theorem dX10_region_2 : decode cX10_region 2 = .ok (.iload_n 1, 1) := by decide +kernel
theorem dX10_region_3 : decode cX10_region 3 = .ok (.invokevirtual 145, 3) := by decide +kernel
theorem dX10_region_6 : decode cX10_region 6 = .ok (.ifCond .eq 13, 3) := by decide +kernel
theorem dX10_region_9 : decode cX10_region 9 = .ok (.iload 4, 2) := by decide +kernel
theorem dX10_region_11 : decode cX10_region 11 = .ok (.iconst 0, 1) := by decide +kernel
theorem dX10_region_12 : decode cX10_region 12 = .ok (.iconst 4, 1) := by decide +kernel
theorem dX10_region_13 : decode cX10_region 13 = .ok (.invokestatic 101, 3) := by decide +kernel
theorem dX10_region_16 : decode cX10_region 16 = .ok (.ifCond .ne 7, 3) := by decide +kernel
theorem dX10_region_19 : decode cX10_region 19 = .ok (.iconst 1, 1) := by decide +kernel
theorem dX10_region_20 : decode cX10_region 20 = .ok (.goto 15, 3) := by decide +kernel
theorem dX10_region_23 : decode cX10_region 23 = .ok (.iload_n 2, 1) := by decide +kernel
theorem dX10_region_24 : decode cX10_region 24 = .ok (.invokestatic 178, 3) := by decide +kernel
theorem dX10_region_27 : decode cX10_region 27 = .ok (.ifCond .ne 7, 3) := by decide +kernel
theorem dX10_region_30 : decode cX10_region 30 = .ok (.iconst 2, 1) := by decide +kernel
theorem dX10_region_31 : decode cX10_region 31 = .ok (.goto 4, 3) := by decide +kernel
theorem dX10_region_34 : decode cX10_region 34 = .ok (.iconst 0, 1) := by decide +kernel
theorem dX10_region_35 : decode cX10_region 35 = .ok (.invokevirtual 105, 3) := by decide +kernel
theorem dX10_region_38 : decode cX10_region 38 = .ok (.ifCond .eq 5, 3) := by decide +kernel
theorem dX10_region_41 : decode cX10_region 41 = .ok (.iconst (-1), 1) := by decide +kernel
theorem dX10_region_42 : decode cX10_region 42 = .ok (.ireturn, 1) := by decide +kernel
theorem dX10_region_43 : decode cX10_region 43 = .ok (.aload_n 0, 1) := by decide +kernel
theorem dX10_region_44 : decode cX10_region 44 = .ok (.getfield 78, 3) := by decide +kernel
theorem dX10_region_47 : decode cX10_region 47 = .ok (.aload_n 0, 1) := by decide +kernel
theorem dX10_region_48 : decode cX10_region 48 = .ok (.getfield 11, 3) := by decide +kernel
theorem dX10_region_51 : decode cX10_region 51 = .ok (.iload_n 1, 1) := by decide +kernel
theorem dX10_region_52 : decode cX10_region 52 = .ok (.aaload, 1) := by decide +kernel
theorem dX10_region_53 : decode cX10_region 53 = .ok (.iload_n 2, 1) := by decide +kernel
theorem dX10_region_54 : decode cX10_region 54 = .ok (.invokevirtual 345, 3) := by decide +kernel
theorem dX10_region_57 : decode cX10_region 57 = .ok (.aload_n 0, 1) := by decide +kernel
theorem dX10_region_58 : decode cX10_region 58 = .ok (.iload_n 3, 1) := by decide +kernel
theorem dX10_region_59 : decode cX10_region 59 = .ok (.iconst 0, 1) := by decide +kernel
theorem dX10_region_60 : decode cX10_region 60 = .ok (.aload_n 0, 1) := by decide +kernel
theorem dX10_region_61 : decode cX10_region 61 = .ok (.getfield 78, 3) := by decide +kernel
theorem dX10_region_64 : decode cX10_region 64 = .ok (.getfield 348, 3) := by decide +kernel
theorem dX10_region_67 : decode cX10_region 67 = .ok (.iconst 1, 1) := by decide +kernel
theorem dX10_region_68 : decode cX10_region 68 = .ok (.isub, 1) := by decide +kernel
theorem dX10_region_69 : decode cX10_region 69 = .ok (.invokestatic 101, 3) := by decide +kernel
theorem dX10_region_72 : decode cX10_region 72 = .ok (.ifCond .eq 7, 3) := by decide +kernel
theorem dX10_region_75 : decode cX10_region 75 = .ok (.iconst 0, 1) := by decide +kernel
theorem dX10_region_76 : decode cX10_region 76 = .ok (.goto 4, 3) := by decide +kernel
theorem dX10_region_79 : decode cX10_region 79 = .ok (.iconst 1, 1) := by decide +kernel
theorem dX10_region_80 : decode cX10_region 80 = .ok (.invokevirtual 105, 3) := by decide +kernel
theorem dX10_region_83 : decode cX10_region 83 = .ok (.ifCond .eq 5, 3) := by decide +kernel
theorem dX10_region_86 : decode cX10_region 86 = .ok (.iconst (-1), 1) := by decide +kernel
theorem dX10_region_87 : decode cX10_region 87 = .ok (.ireturn, 1) := by decide +kernel
theorem dX10_region_88 : decode cX10_region 88 = .ok (.aload_n 0, 1) := by decide +kernel
theorem dX10_region_89 : decode cX10_region 89 = .ok (.getfield 78, 3) := by decide +kernel
theorem dX10_region_92 : decode cX10_region 92 = .ok (.aload_n 0, 1) := by decide +kernel
theorem dX10_region_93 : decode cX10_region 93 = .ok (.getfield 11, 3) := by decide +kernel
theorem dX10_region_96 : decode cX10_region 96 = .ok (.iload_n 1, 1) := by decide +kernel
theorem dX10_region_97 : decode cX10_region 97 = .ok (.aaload, 1) := by decide +kernel
theorem dX10_region_98 : decode cX10_region 98 = .ok (.iload_n 3, 1) := by decide +kernel
theorem dX10_region_99 : decode cX10_region 99 = .ok (.iload 4, 2) := by decide +kernel
theorem dX10_region_101 : decode cX10_region 101 = .ok (.invokevirtual 349, 3) := by decide +kernel
theorem dX10_region_104 : decode cX10_region 104 = .ok (.ireturn, 1) := by decide +kernel
theorem dX10_regionAt_0 : decode cX10_regionAt 0 = .ok (.aload_n 0, 1) := by decide +kernel
theorem dX10_regionAt_1 : decode cX10_regionAt 1 = .ok (.aload_n 0, 1) := by decide +kernel
theorem dX10_regionAt_2 : decode cX10_regionAt 2 = .ok (.iload_n 1, 1) := by decide +kernel
theorem dX10_regionAt_3 : decode cX10_regionAt 3 = .ok (.iload_n 3, 1) := by decide +kernel
theorem dX10_regionAt_4 : decode cX10_regionAt 4 = .ok (.iload 4, 2) := by decide +kernel
theorem dX10_regionAt_6 : decode cX10_regionAt 6 = .ok (.invokevirtual 171, 3) := by decide +kernel
theorem dX10_regionAt_9 : decode cX10_regionAt 9 = .ok (.ifCond .ne 7, 3) := by decide +kernel
theorem dX10_regionAt_12 : decode cX10_regionAt 12 = .ok (.iconst 1, 1) := by decide +kernel
theorem dX10_regionAt_13 : decode cX10_regionAt 13 = .ok (.goto 15, 3) := by decide +kernel
theorem dX10_regionAt_16 : decode cX10_regionAt 16 = .ok (.iload_n 2, 1) := by decide +kernel
theorem dX10_regionAt_17 : decode cX10_regionAt 17 = .ok (.invokestatic 178, 3) := by decide +kernel
theorem dX10_regionAt_20 : decode cX10_regionAt 20 = .ok (.ifCond .ne 7, 3) := by decide +kernel
theorem dX10_regionAt_23 : decode cX10_regionAt 23 = .ok (.iconst 2, 1) := by decide +kernel
theorem dX10_regionAt_24 : decode cX10_regionAt 24 = .ok (.goto 4, 3) := by decide +kernel
theorem dX10_regionAt_27 : decode cX10_regionAt 27 = .ok (.iconst 0, 1) := by decide +kernel
theorem dX10_regionAt_28 : decode cX10_regionAt 28 = .ok (.invokevirtual 105, 3) := by decide +kernel
theorem dX10_regionAt_31 : decode cX10_regionAt 31 = .ok (.ifCond .eq 5, 3) := by decide +kernel
theorem dX10_regionAt_34 : decode cX10_regionAt 34 = .ok (.iconst (-1), 1) := by decide +kernel
theorem dX10_regionAt_35 : decode cX10_regionAt 35 = .ok (.ireturn, 1) := by decide +kernel
theorem dX10_regionAt_36 : decode cX10_regionAt 36 = .ok (.aload_n 0, 1) := by decide +kernel
theorem dX10_regionAt_37 : decode cX10_regionAt 37 = .ok (.getfield 78, 3) := by decide +kernel
theorem dX10_regionAt_40 : decode cX10_regionAt 40 = .ok (.aload_n 0, 1) := by decide +kernel
theorem dX10_regionAt_41 : decode cX10_regionAt 41 = .ok (.getfield 11, 3) := by decide +kernel
theorem dX10_regionAt_44 : decode cX10_regionAt 44 = .ok (.iload_n 1, 1) := by decide +kernel
theorem dX10_regionAt_45 : decode cX10_regionAt 45 = .ok (.aaload, 1) := by decide +kernel
theorem dX10_regionAt_46 : decode cX10_regionAt 46 = .ok (.iload_n 2, 1) := by decide +kernel
theorem dX10_regionAt_47 : decode cX10_regionAt 47 = .ok (.invokevirtual 345, 3) := by decide +kernel
theorem dX10_regionAt_50 : decode cX10_regionAt 50 = .ok (.aload_n 0, 1) := by decide +kernel
theorem dX10_regionAt_51 : decode cX10_regionAt 51 = .ok (.getfield 78, 3) := by decide +kernel
theorem dX10_regionAt_54 : decode cX10_regionAt 54 = .ok (.getfield 353, 3) := by decide +kernel
theorem dX10_regionAt_57 : decode cX10_regionAt 57 = .ok (.aload_n 0, 1) := by decide +kernel
theorem dX10_regionAt_58 : decode cX10_regionAt 58 = .ok (.getfield 11, 3) := by decide +kernel
theorem dX10_regionAt_61 : decode cX10_regionAt 61 = .ok (.iload_n 1, 1) := by decide +kernel
theorem dX10_regionAt_62 : decode cX10_regionAt 62 = .ok (.aaload, 1) := by decide +kernel
theorem dX10_regionAt_63 : decode cX10_regionAt 63 = .ok (.iload_n 3, 1) := by decide +kernel
theorem dX10_regionAt_64 : decode cX10_regionAt 64 = .ok (.iload 4, 2) := by decide +kernel
theorem dX10_regionAt_66 : decode cX10_regionAt 66 = .ok (.invokevirtual 356, 3) := by decide +kernel
theorem dX10_regionAt_69 : decode cX10_regionAt 69 = .ok (.iaload, 1) := by decide +kernel
theorem dX10_regionAt_70 : decode cX10_regionAt 70 = .ok (.ireturn, 1) := by decide +kernel
theorem dX10_steep_0 : decode cX10_steep 0 = .ok (.aload_n 0, 1) := by decide +kernel
theorem dX10_steep_1 : decode cX10_steep 1 = .ok (.aload_n 0, 1) := by decide +kernel
theorem dX10_steep_2 : decode cX10_steep 2 = .ok (.iload_n 1, 1) := by decide +kernel
theorem dX10_steep_3 : decode cX10_steep 3 = .ok (.invokevirtual 145, 3) := by decide +kernel
theorem dX10_steep_6 : decode cX10_steep 6 = .ok (.ifCond .eq 16, 3) := by decide +kernel
theorem dX10_steep_9 : decode cX10_steep 9 = .ok (.iload_n 2, 1) := by decide +kernel
theorem dX10_steep_10 : decode cX10_steep 10 = .ok (.iconst 0, 1) := by decide +kernel
theorem dX10_steep_11 : decode cX10_steep 11 = .ok (.iconst 2, 1) := by decide +kernel
theorem dX10_steep_12 : decode cX10_steep 12 = .ok (.invokestatic 101, 3) := by decide +kernel
theorem dX10_steep_15 : decode cX10_steep 15 = .ok (.ifCond .eq 7, 3) := by decide +kernel
theorem dX10_steep_18 : decode cX10_steep 18 = .ok (.iconst 0, 1) := by decide +kernel
theorem dX10_steep_19 : decode cX10_steep 19 = .ok (.goto 4, 3) := by decide +kernel
theorem dX10_steep_22 : decode cX10_steep 22 = .ok (.iconst 1, 1) := by decide +kernel
theorem dX10_steep_23 : decode cX10_steep 23 = .ok (.invokevirtual 105, 3) := by decide +kernel
theorem dX10_steep_26 : decode cX10_steep 26 = .ok (.ifCond .eq 5, 3) := by decide +kernel
theorem dX10_steep_29 : decode cX10_steep 29 = .ok (.iconst (-1), 1) := by decide +kernel
theorem dX10_steep_30 : decode cX10_steep 30 = .ok (.ireturn, 1) := by decide +kernel
theorem dX10_steep_31 : decode cX10_steep 31 = .ok (.aload_n 0, 1) := by decide +kernel
theorem dX10_steep_32 : decode cX10_steep 32 = .ok (.getfield 11, 3) := by decide +kernel
theorem dX10_steep_35 : decode cX10_steep 35 = .ok (.iload_n 1, 1) := by decide +kernel
theorem dX10_steep_36 : decode cX10_steep 36 = .ok (.aaload, 1) := by decide +kernel
theorem dX10_steep_37 : decode cX10_steep 37 = .ok (.astore_n 3, 1) := by decide +kernel
theorem dX10_steep_38 : decode cX10_steep 38 = .ok (.iconst 0, 1) := by decide +kernel
theorem dX10_steep_39 : decode cX10_steep 39 = .ok (.istore 4, 2) := by decide +kernel
theorem dX10_steep_41 : decode cX10_steep 41 = .ok (.iconst 0, 1) := by decide +kernel
theorem dX10_steep_42 : decode cX10_steep 42 = .ok (.istore 5, 2) := by decide +kernel
theorem dX10_steep_44 : decode cX10_steep 44 = .ok (.iload 5, 2) := by decide +kernel
theorem dX10_steep_46 : decode cX10_steep 46 = .ok (.aload_n 3, 1) := by decide +kernel
theorem dX10_steep_47 : decode cX10_steep 47 = .ok (.getfield 151, 3) := by decide +kernel
theorem dX10_steep_50 : decode cX10_steep 50 = .ok (.if_icmp .ge 79, 3) := by decide +kernel
theorem dX10_steep_53 : decode cX10_steep 53 = .ok (.iconst 0, 1) := by decide +kernel
theorem dX10_steep_54 : decode cX10_steep 54 = .ok (.istore 6, 2) := by decide +kernel
theorem dX10_steep_56 : decode cX10_steep 56 = .ok (.iload 6, 2) := by decide +kernel
theorem dX10_steep_58 : decode cX10_steep 58 = .ok (.aload_n 3, 1) := by decide +kernel
theorem dX10_steep_59 : decode cX10_steep 59 = .ok (.getfield 148, 3) := by decide +kernel
theorem dX10_steep_62 : decode cX10_steep 62 = .ok (.if_icmp .ge 61, 3) := by decide +kernel
theorem dX10_steep_65 : decode cX10_steep 65 = .ok (.iload 4, 2) := by decide +kernel
theorem dX10_steep_67 : decode cX10_steep 67 = .ok (.iload_n 2, 1) := by decide +kernel
theorem dX10_steep_68 : decode cX10_steep 68 = .ok (.iconst 2, 1) := by decide +kernel
theorem dX10_steep_69 : decode cX10_steep 69 = .ok (.if_icmp .eq 18, 3) := by decide +kernel
theorem dX10_steep_72 : decode cX10_steep 72 = .ok (.iconst 0, 1) := by decide +kernel
theorem dX10_steep_73 : decode cX10_steep 73 = .ok (.aload_n 3, 1) := by decide +kernel
theorem dX10_steep_74 : decode cX10_steep 74 = .ok (.iload 6, 2) := by decide +kernel
theorem dX10_steep_76 : decode cX10_steep 76 = .ok (.iload 5, 2) := by decide +kernel
theorem dX10_steep_78 : decode cX10_steep 78 = .ok (.invokevirtual 331, 3) := by decide +kernel
theorem dX10_steep_81 : decode cX10_steep 81 = .ok (.invokestatic 342, 3) := by decide +kernel
theorem dX10_steep_84 : decode cX10_steep 84 = .ok (.goto 4, 3) := by decide +kernel
theorem dX10_steep_87 : decode cX10_steep 87 = .ok (.iconst 0, 1) := by decide +kernel
theorem dX10_steep_88 : decode cX10_steep 88 = .ok (.iadd, 1) := by decide +kernel
theorem dX10_steep_89 : decode cX10_steep 89 = .ok (.istore 4, 2) := by decide +kernel
theorem dX10_steep_91 : decode cX10_steep 91 = .ok (.iload 4, 2) := by decide +kernel
theorem dX10_steep_93 : decode cX10_steep 93 = .ok (.iload_n 2, 1) := by decide +kernel
theorem dX10_steep_94 : decode cX10_steep 94 = .ok (.iconst 1, 1) := by decide +kernel
theorem dX10_steep_95 : decode cX10_steep 95 = .ok (.if_icmp .eq 18, 3) := by decide +kernel
theorem dX10_steep_98 : decode cX10_steep 98 = .ok (.iconst 0, 1) := by decide +kernel
theorem dX10_steep_99 : decode cX10_steep 99 = .ok (.aload_n 3, 1) := by decide +kernel
theorem dX10_steep_100 : decode cX10_steep 100 = .ok (.iload 6, 2) := by decide +kernel
theorem dX10_steep_102 : decode cX10_steep 102 = .ok (.iload 5, 2) := by decide +kernel
theorem dX10_steep_104 : decode cX10_steep 104 = .ok (.invokevirtual 334, 3) := by decide +kernel
theorem dX10_steep_107 : decode cX10_steep 107 = .ok (.invokestatic 342, 3) := by decide +kernel
theorem dX10_steep_110 : decode cX10_steep 110 = .ok (.goto 4, 3) := by decide +kernel
theorem dX10_steep_113 : decode cX10_steep 113 = .ok (.iconst 0, 1) := by decide +kernel
theorem dX10_steep_114 : decode cX10_steep 114 = .ok (.iadd, 1) := by decide +kernel
theorem dX10_steep_115 : decode cX10_steep 115 = .ok (.istore 4, 2) := by decide +kernel
theorem dX10_steep_117 : decode cX10_steep 117 = .ok (.iinc 6 1, 3) := by decide +kernel
theorem dX10_steep_120 : decode cX10_steep 120 = .ok (.goto (-64), 3) := by decide +kernel
theorem dX10_steep_123 : decode cX10_steep 123 = .ok (.iinc 5 1, 3) := by decide +kernel
theorem dX10_steep_126 : decode cX10_steep 126 = .ok (.goto (-82), 3) := by decide +kernel
theorem dX10_steep_129 : decode cX10_steep 129 = .ok (.iload 4, 2) := by decide +kernel
theorem dX10_steep_131 : decode cX10_steep 131 = .ok (.ireturn, 1) := by decide +kernel
theorem dX10_ranked_0 : decode cX10_ranked 0 = .ok (.aload_n 0, 1) := by decide +kernel
theorem dX10_ranked_1 : decode cX10_ranked 1 = .ok (.aload_n 0, 1) := by decide +kernel
theorem dX10_ranked_2 : decode cX10_ranked 2 = .ok (.iload_n 1, 1) := by decide +kernel
theorem dX10_ranked_3 : decode cX10_ranked 3 = .ok (.invokevirtual 145, 3) := by decide +kernel
theorem dX10_ranked_6 : decode cX10_ranked 6 = .ok (.ifCond .eq 26, 3) := by decide +kernel
theorem dX10_ranked_9 : decode cX10_ranked 9 = .ok (.iload_n 2, 1) := by decide +kernel
theorem dX10_ranked_10 : decode cX10_ranked 10 = .ok (.iconst 0, 1) := by decide +kernel
theorem dX10_ranked_11 : decode cX10_ranked 11 = .ok (.aload_n 0, 1) := by decide +kernel
theorem dX10_ranked_12 : decode cX10_ranked 12 = .ok (.getfield 11, 3) := by decide +kernel
theorem dX10_ranked_15 : decode cX10_ranked 15 = .ok (.iload_n 1, 1) := by decide +kernel
theorem dX10_ranked_16 : decode cX10_ranked 16 = .ok (.aaload, 1) := by decide +kernel
theorem dX10_ranked_17 : decode cX10_ranked 17 = .ok (.invokevirtual 212, 3) := by decide +kernel
theorem dX10_ranked_20 : decode cX10_ranked 20 = .ok (.iconst 1, 1) := by decide +kernel
theorem dX10_ranked_21 : decode cX10_ranked 21 = .ok (.isub, 1) := by decide +kernel
theorem dX10_ranked_22 : decode cX10_ranked 22 = .ok (.invokestatic 101, 3) := by decide +kernel
theorem dX10_ranked_25 : decode cX10_ranked 25 = .ok (.ifCond .eq 7, 3) := by decide +kernel
theorem dX10_ranked_28 : decode cX10_ranked 28 = .ok (.iconst 0, 1) := by decide +kernel
theorem dX10_ranked_29 : decode cX10_ranked 29 = .ok (.goto 4, 3) := by decide +kernel
theorem dX10_ranked_32 : decode cX10_ranked 32 = .ok (.iconst 1, 1) := by decide +kernel
theorem dX10_ranked_33 : decode cX10_ranked 33 = .ok (.invokevirtual 105, 3) := by decide +kernel
theorem dX10_ranked_36 : decode cX10_ranked 36 = .ok (.ifCond .eq 5, 3) := by decide +kernel
theorem dX10_ranked_39 : decode cX10_ranked 39 = .ok (.iconst (-1), 1) := by decide +kernel
theorem dX10_ranked_40 : decode cX10_ranked 40 = .ok (.ireturn, 1) := by decide +kernel
theorem dX10_ranked_41 : decode cX10_ranked 41 = .ok (.aload_n 0, 1) := by decide +kernel
theorem dX10_ranked_42 : decode cX10_ranked 42 = .ok (.aload_n 0, 1) := by decide +kernel
theorem dX10_ranked_43 : decode cX10_ranked 43 = .ok (.getfield 11, 3) := by decide +kernel
theorem dX10_ranked_46 : decode cX10_ranked 46 = .ok (.iload_n 1, 1) := by decide +kernel
theorem dX10_ranked_47 : decode cX10_ranked 47 = .ok (.aaload, 1) := by decide +kernel
theorem dX10_ranked_48 : decode cX10_ranked 48 = .ok (.invokevirtual 164, 3) := by decide +kernel
theorem dX10_ranked_51 : decode cX10_ranked 51 = .ok (.iload_n 2, 1) := by decide +kernel
theorem dX10_ranked_52 : decode cX10_ranked 52 = .ok (.invokevirtual 359, 3) := by decide +kernel
theorem dX10_ranked_55 : decode cX10_ranked 55 = .ok (.ireturn, 1) := by decide +kernel
theorem dX10_line_0 : decode cX10_line 0 = .ok (.aload_n 0, 1) := by decide +kernel
theorem dX10_line_1 : decode cX10_line 1 = .ok (.iload_n 2, 1) := by decide +kernel
theorem dX10_line_2 : decode cX10_line 2 = .ok (.ifCond .ne 13, 3) := by decide +kernel
theorem dX10_line_5 : decode cX10_line 5 = .ok (.aload_n 0, 1) := by decide +kernel
theorem dX10_line_6 : decode cX10_line 6 = .ok (.iload_n 1, 1) := by decide +kernel
theorem dX10_line_7 : decode cX10_line 7 = .ok (.iconst 0, 1) := by decide +kernel
theorem dX10_line_8 : decode cX10_line 8 = .ok (.iload_n 3, 1) := by decide +kernel
theorem dX10_line_9 : decode cX10_line 9 = .ok (.invokevirtual 171, 3) := by decide +kernel
theorem dX10_line_12 : decode cX10_line 12 = .ok (.ifCond .ne 18, 3) := by decide +kernel
theorem dX10_line_15 : decode cX10_line 15 = .ok (.iload_n 2, 1) := by decide +kernel
theorem dX10_line_16 : decode cX10_line 16 = .ok (.iconst 1, 1) := by decide +kernel
theorem dX10_line_17 : decode cX10_line 17 = .ok (.if_icmp .ne 17, 3) := by decide +kernel
theorem dX10_line_20 : decode cX10_line 20 = .ok (.aload_n 0, 1) := by decide +kernel
theorem dX10_line_21 : decode cX10_line 21 = .ok (.iload_n 1, 1) := by decide +kernel
theorem dX10_line_22 : decode cX10_line 22 = .ok (.iload_n 3, 1) := by decide +kernel
theorem dX10_line_23 : decode cX10_line 23 = .ok (.iconst 0, 1) := by decide +kernel
theorem dX10_line_24 : decode cX10_line 24 = .ok (.invokevirtual 171, 3) := by decide +kernel
theorem dX10_line_27 : decode cX10_line 27 = .ok (.ifCond .eq 7, 3) := by decide +kernel
theorem dX10_line_30 : decode cX10_line 30 = .ok (.iconst 0, 1) := by decide +kernel
theorem dX10_line_31 : decode cX10_line 31 = .ok (.goto 4, 3) := by decide +kernel
theorem dX10_line_34 : decode cX10_line 34 = .ok (.iconst 1, 1) := by decide +kernel
theorem dX10_line_35 : decode cX10_line 35 = .ok (.invokevirtual 105, 3) := by decide +kernel
theorem dX10_line_38 : decode cX10_line 38 = .ok (.ifCond .eq 5, 3) := by decide +kernel
theorem dX10_line_41 : decode cX10_line 41 = .ok (.iconst (-1), 1) := by decide +kernel
theorem dX10_line_42 : decode cX10_line 42 = .ok (.ireturn, 1) := by decide +kernel
theorem dX10_line_43 : decode cX10_line 43 = .ok (.aload_n 0, 1) := by decide +kernel
theorem dX10_line_44 : decode cX10_line 44 = .ok (.getfield 11, 3) := by decide +kernel
theorem dX10_line_47 : decode cX10_line 47 = .ok (.iload_n 1, 1) := by decide +kernel
theorem dX10_line_48 : decode cX10_line 48 = .ok (.aaload, 1) := by decide +kernel
theorem dX10_line_49 : decode cX10_line 49 = .ok (.astore 4, 2) := by decide +kernel
theorem dX10_line_51 : decode cX10_line 51 = .ok (.iload_n 2, 1) := by decide +kernel
theorem dX10_line_52 : decode cX10_line 52 = .ok (.ifCond .ne 23, 3) := by decide +kernel
theorem dX10_line_55 : decode cX10_line 55 = .ok (.aload_n 0, 1) := by decide +kernel
theorem dX10_line_56 : decode cX10_line 56 = .ok (.aload 4, 2) := by decide +kernel
theorem dX10_line_58 : decode cX10_line 58 = .ok (.iconst 0, 1) := by decide +kernel
theorem dX10_line_59 : decode cX10_line 59 = .ok (.iload_n 3, 1) := by decide +kernel
theorem dX10_line_60 : decode cX10_line 60 = .ok (.aload 4, 2) := by decide +kernel
theorem dX10_line_62 : decode cX10_line 62 = .ok (.getfield 148, 3) := by decide +kernel
theorem dX10_line_65 : decode cX10_line 65 = .ok (.iconst 1, 1) := by decide +kernel
theorem dX10_line_66 : decode cX10_line 66 = .ok (.invokevirtual 309, 3) := by decide +kernel
theorem dX10_line_69 : decode cX10_line 69 = .ok (.getfield 362, 3) := by decide +kernel
theorem dX10_line_72 : decode cX10_line 72 = .ok (.goto 20, 3) := by decide +kernel
theorem dX10_line_75 : decode cX10_line 75 = .ok (.aload_n 0, 1) := by decide +kernel
theorem dX10_line_76 : decode cX10_line 76 = .ok (.aload 4, 2) := by decide +kernel
theorem dX10_line_78 : decode cX10_line 78 = .ok (.iload_n 3, 1) := by decide +kernel
theorem dX10_line_79 : decode cX10_line 79 = .ok (.iconst 0, 1) := by decide +kernel
theorem dX10_line_80 : decode cX10_line 80 = .ok (.iconst 1, 1) := by decide +kernel
theorem dX10_line_81 : decode cX10_line 81 = .ok (.aload 4, 2) := by decide +kernel
theorem dX10_line_83 : decode cX10_line 83 = .ok (.getfield 151, 3) := by decide +kernel
theorem dX10_line_86 : decode cX10_line 86 = .ok (.invokevirtual 309, 3) := by decide +kernel
theorem dX10_line_89 : decode cX10_line 89 = .ok (.getfield 362, 3) := by decide +kernel
theorem dX10_line_92 : decode cX10_line 92 = .ok (.ireturn, 1) := by decide +kernel
theorem dX10_pairs_0 : decode cX10_pairs 0 = .ok (.aload_n 0, 1) := by decide +kernel
theorem dX10_pairs_1 : decode cX10_pairs 1 = .ok (.aload_n 0, 1) := by decide +kernel
theorem dX10_pairs_2 : decode cX10_pairs 2 = .ok (.iload_n 1, 1) := by decide +kernel
theorem dX10_pairs_3 : decode cX10_pairs 3 = .ok (.invokevirtual 145, 3) := by decide +kernel
theorem dX10_pairs_6 : decode cX10_pairs 6 = .ok (.ifCond .eq 7, 3) := by decide +kernel
theorem dX10_pairs_9 : decode cX10_pairs 9 = .ok (.iconst 0, 1) := by decide +kernel
theorem dX10_pairs_10 : decode cX10_pairs 10 = .ok (.goto 4, 3) := by decide +kernel
theorem dX10_pairs_13 : decode cX10_pairs 13 = .ok (.iconst 1, 1) := by decide +kernel
theorem dX10_pairs_14 : decode cX10_pairs 14 = .ok (.invokevirtual 105, 3) := by decide +kernel
theorem dX10_pairs_17 : decode cX10_pairs 17 = .ok (.ifCond .eq 5, 3) := by decide +kernel
theorem dX10_pairs_20 : decode cX10_pairs 20 = .ok (.iconst (-1), 1) := by decide +kernel
theorem dX10_pairs_21 : decode cX10_pairs 21 = .ok (.ireturn, 1) := by decide +kernel
theorem dX10_pairs_22 : decode cX10_pairs 22 = .ok (.aload_n 0, 1) := by decide +kernel
theorem dX10_pairs_23 : decode cX10_pairs 23 = .ok (.getfield 85, 3) := by decide +kernel
theorem dX10_pairs_26 : decode cX10_pairs 26 = .ok (.aload_n 0, 1) := by decide +kernel
theorem dX10_pairs_27 : decode cX10_pairs 27 = .ok (.getfield 11, 3) := by decide +kernel
theorem dX10_pairs_30 : decode cX10_pairs 30 = .ok (.iload_n 1, 1) := by decide +kernel
theorem dX10_pairs_31 : decode cX10_pairs 31 = .ok (.aaload, 1) := by decide +kernel
theorem dX10_pairs_32 : decode cX10_pairs 32 = .ok (.invokevirtual 364, 3) := by decide +kernel
theorem dX10_pairs_35 : decode cX10_pairs 35 = .ok (.aload_n 0, 1) := by decide +kernel
theorem dX10_pairs_36 : decode cX10_pairs 36 = .ok (.getfield 85, 3) := by decide +kernel
theorem dX10_pairs_39 : decode cX10_pairs 39 = .ok (.getfield 366, 3) := by decide +kernel
theorem dX10_pairs_42 : decode cX10_pairs 42 = .ok (.ireturn, 1) := by decide +kernel
theorem dX10_pair_0 : decode cX10_pair 0 = .ok (.aload_n 0, 1) := by decide +kernel
theorem dX10_pair_1 : decode cX10_pair 1 = .ok (.aload_n 0, 1) := by decide +kernel
theorem dX10_pair_2 : decode cX10_pair 2 = .ok (.iload_n 1, 1) := by decide +kernel
theorem dX10_pair_3 : decode cX10_pair 3 = .ok (.invokevirtual 145, 3) := by decide +kernel
theorem dX10_pair_6 : decode cX10_pair 6 = .ok (.ifCond .eq 16, 3) := by decide +kernel
theorem dX10_pair_9 : decode cX10_pair 9 = .ok (.iload_n 2, 1) := by decide +kernel
theorem dX10_pair_10 : decode cX10_pair 10 = .ok (.iconst 0, 1) := by decide +kernel
theorem dX10_pair_11 : decode cX10_pair 11 = .ok (.iconst 2, 1) := by decide +kernel
theorem dX10_pair_12 : decode cX10_pair 12 = .ok (.invokestatic 101, 3) := by decide +kernel
theorem dX10_pair_15 : decode cX10_pair 15 = .ok (.ifCond .eq 7, 3) := by decide +kernel
theorem dX10_pair_18 : decode cX10_pair 18 = .ok (.iconst 0, 1) := by decide +kernel
theorem dX10_pair_19 : decode cX10_pair 19 = .ok (.goto 4, 3) := by decide +kernel
theorem dX10_pair_22 : decode cX10_pair 22 = .ok (.iconst 1, 1) := by decide +kernel
theorem dX10_pair_23 : decode cX10_pair 23 = .ok (.invokevirtual 105, 3) := by decide +kernel
theorem dX10_pair_26 : decode cX10_pair 26 = .ok (.ifCond .eq 5, 3) := by decide +kernel
theorem dX10_pair_29 : decode cX10_pair 29 = .ok (.iconst (-1), 1) := by decide +kernel
theorem dX10_pair_30 : decode cX10_pair 30 = .ok (.ireturn, 1) := by decide +kernel
theorem dX10_pair_31 : decode cX10_pair 31 = .ok (.aload_n 0, 1) := by decide +kernel
theorem dX10_pair_32 : decode cX10_pair 32 = .ok (.getfield 85, 3) := by decide +kernel
theorem dX10_pair_35 : decode cX10_pair 35 = .ok (.aload_n 0, 1) := by decide +kernel
theorem dX10_pair_36 : decode cX10_pair 36 = .ok (.getfield 11, 3) := by decide +kernel
theorem dX10_pair_39 : decode cX10_pair 39 = .ok (.iload_n 1, 1) := by decide +kernel
theorem dX10_pair_40 : decode cX10_pair 40 = .ok (.aaload, 1) := by decide +kernel
theorem dX10_pair_41 : decode cX10_pair 41 = .ok (.invokevirtual 364, 3) := by decide +kernel
theorem dX10_pair_44 : decode cX10_pair 44 = .ok (.aload_n 0, 1) := by decide +kernel
theorem dX10_pair_45 : decode cX10_pair 45 = .ok (.getfield 85, 3) := by decide +kernel
theorem dX10_pair_48 : decode cX10_pair 48 = .ok (.getfield 368, 3) := by decide +kernel
theorem dX10_pair_51 : decode cX10_pair 51 = .ok (.ifCond .ne 6, 3) := by decide +kernel
theorem dX10_pair_54 : decode cX10_pair 54 = .ok (.bipush (-2), 2) := by decide +kernel
theorem dX10_pair_56 : decode cX10_pair 56 = .ok (.ireturn, 1) := by decide +kernel
theorem dX10_pair_57 : decode cX10_pair 57 = .ok (.iload_n 2, 1) := by decide +kernel
theorem dX10_pair_58 : decode cX10_pair 58 = .ok (.ifCond .ne 17, 3) := by decide +kernel
theorem dX10_pair_61 : decode cX10_pair 61 = .ok (.aload_n 0, 1) := by decide +kernel
theorem dX10_pair_62 : decode cX10_pair 62 = .ok (.getfield 85, 3) := by decide +kernel
theorem dX10_pair_65 : decode cX10_pair 65 = .ok (.getfield 369, 3) := by decide +kernel
theorem dX10_pair_68 : decode cX10_pair 68 = .ok (.sipush 256, 3) := by decide +kernel
theorem dX10_pair_71 : decode cX10_pair 71 = .ok (.idiv, 1) := by decide +kernel
theorem dX10_pair_72 : decode cX10_pair 72 = .ok (.goto 29, 3) := by decide +kernel
theorem dX10_pair_75 : decode cX10_pair 75 = .ok (.iload_n 2, 1) := by decide +kernel
theorem dX10_pair_76 : decode cX10_pair 76 = .ok (.iconst 1, 1) := by decide +kernel
theorem dX10_pair_77 : decode cX10_pair 77 = .ok (.if_icmp .ne 17, 3) := by decide +kernel
theorem dX10_pair_80 : decode cX10_pair 80 = .ok (.aload_n 0, 1) := by decide +kernel
theorem dX10_pair_81 : decode cX10_pair 81 = .ok (.getfield 85, 3) := by decide +kernel
theorem dX10_pair_84 : decode cX10_pair 84 = .ok (.getfield 369, 3) := by decide +kernel
theorem dX10_pair_87 : decode cX10_pair 87 = .ok (.sipush 256, 3) := by decide +kernel
theorem dX10_pair_90 : decode cX10_pair 90 = .ok (.irem, 1) := by decide +kernel
theorem dX10_pair_91 : decode cX10_pair 91 = .ok (.goto 10, 3) := by decide +kernel
theorem dX10_pair_94 : decode cX10_pair 94 = .ok (.aload_n 0, 1) := by decide +kernel
theorem dX10_pair_95 : decode cX10_pair 95 = .ok (.getfield 85, 3) := by decide +kernel
theorem dX10_pair_98 : decode cX10_pair 98 = .ok (.getfield 372, 3) := by decide +kernel
theorem dX10_pair_101 : decode cX10_pair 101 = .ok (.ireturn, 1) := by decide +kernel
theorem dX10_undo_0 : decode cX10_undo 0 = .ok (.aload_n 0, 1) := by decide +kernel
theorem dX10_undo_1 : decode cX10_undo 1 = .ok (.aload_n 0, 1) := by decide +kernel
theorem dX10_undo_2 : decode cX10_undo 2 = .ok (.getfield 26, 3) := by decide +kernel
theorem dX10_undo_5 : decode cX10_undo 5 = .ok (.getfield 144, 3) := by decide +kernel
theorem dX10_undo_8 : decode cX10_undo 8 = .ok (.ifCond .le 7, 3) := by decide +kernel
theorem dX10_undo_11 : decode cX10_undo 11 = .ok (.iconst 0, 1) := by decide +kernel
theorem dX10_undo_12 : decode cX10_undo 12 = .ok (.goto 4, 3) := by decide +kernel
theorem dX10_undo_15 : decode cX10_undo 15 = .ok (.iconst 5, 1) := by decide +kernel
theorem dX10_undo_16 : decode cX10_undo 16 = .ok (.invokevirtual 105, 3) := by decide +kernel
theorem dX10_undo_19 : decode cX10_undo 19 = .ok (.ifCond .eq 5, 3) := by decide +kernel
theorem dX10_undo_22 : decode cX10_undo 22 = .ok (.iconst (-1), 1) := by decide +kernel
theorem dX10_undo_23 : decode cX10_undo 23 = .ok (.ireturn, 1) := by decide +kernel
theorem dX10_undo_24 : decode cX10_undo 24 = .ok (.aload_n 0, 1) := by decide +kernel
theorem dX10_undo_25 : decode cX10_undo 25 = .ok (.getfield 26, 3) := by decide +kernel
theorem dX10_undo_28 : decode cX10_undo 28 = .ok (.invokevirtual 374, 3) := by decide +kernel
theorem dX10_undo_31 : decode cX10_undo 31 = .ok (.istore_n 1, 1) := by decide +kernel
theorem dX10_undo_32 : decode cX10_undo 32 = .ok (.aload_n 0, 1) := by decide +kernel
theorem dX10_undo_33 : decode cX10_undo 33 = .ok (.getfield 26, 3) := by decide +kernel
theorem dX10_undo_36 : decode cX10_undo 36 = .ok (.getfield 377, 3) := by decide +kernel
theorem dX10_undo_39 : decode cX10_undo 39 = .ok (.iload_n 1, 1) := by decide +kernel
theorem dX10_undo_40 : decode cX10_undo 40 = .ok (.iaload, 1) := by decide +kernel
theorem dX10_undo_41 : decode cX10_undo 41 = .ok (.istore_n 2, 1) := by decide +kernel
theorem dX10_undo_42 : decode cX10_undo 42 = .ok (.iload_n 2, 1) := by decide +kernel
theorem dX10_undo_43 : decode cX10_undo 43 = .ok (.invokestatic 191, 3) := by decide +kernel
theorem dX10_undo_46 : decode cX10_undo 46 = .ok (.ifCond .eq 21, 3) := by decide +kernel
theorem dX10_undo_49 : decode cX10_undo 49 = .ok (.aload_n 0, 1) := by decide +kernel
theorem dX10_undo_50 : decode cX10_undo 50 = .ok (.getfield 11, 3) := by decide +kernel
theorem dX10_undo_53 : decode cX10_undo 53 = .ok (.iload_n 2, 1) := by decide +kernel
theorem dX10_undo_54 : decode cX10_undo 54 = .ok (.aaload, 1) := by decide +kernel
theorem dX10_undo_55 : decode cX10_undo 55 = .ok (.aload_n 0, 1) := by decide +kernel
theorem dX10_undo_56 : decode cX10_undo 56 = .ok (.getfield 26, 3) := by decide +kernel
theorem dX10_undo_59 : decode cX10_undo 59 = .ok (.getfield 380, 3) := by decide +kernel
theorem dX10_undo_62 : decode cX10_undo 62 = .ok (.iload_n 1, 1) := by decide +kernel
theorem dX10_undo_63 : decode cX10_undo 63 = .ok (.aaload, 1) := by decide +kernel
theorem dX10_undo_64 : decode cX10_undo 64 = .ok (.invokevirtual 137, 3) := by decide +kernel
theorem dX10_undo_67 : decode cX10_undo 67 = .ok (.aload_n 0, 1) := by decide +kernel
theorem dX10_undo_68 : decode cX10_undo 68 = .ok (.getfield 26, 3) := by decide +kernel
theorem dX10_undo_71 : decode cX10_undo 71 = .ok (.getfield 144, 3) := by decide +kernel
theorem dX10_undo_74 : decode cX10_undo 74 = .ok (.ireturn, 1) := by decide +kernel
theorem dX10_write_0 : decode cX10_write 0 = .ok (.aload_n 0, 1) := by decide +kernel
theorem dX10_write_1 : decode cX10_write 1 = .ok (.aload_n 0, 1) := by decide +kernel
theorem dX10_write_2 : decode cX10_write 2 = .ok (.iload_n 1, 1) := by decide +kernel
theorem dX10_write_3 : decode cX10_write 3 = .ok (.invokevirtual 145, 3) := by decide +kernel
theorem dX10_write_6 : decode cX10_write 6 = .ok (.ifCond .eq 7, 3) := by decide +kernel
theorem dX10_write_9 : decode cX10_write 9 = .ok (.iconst 0, 1) := by decide +kernel
theorem dX10_write_10 : decode cX10_write 10 = .ok (.goto 4, 3) := by decide +kernel
theorem dX10_write_13 : decode cX10_write 13 = .ok (.iconst 1, 1) := by decide +kernel
theorem dX10_write_14 : decode cX10_write 14 = .ok (.invokevirtual 105, 3) := by decide +kernel
theorem dX10_write_17 : decode cX10_write 17 = .ok (.ifCond .eq 5, 3) := by decide +kernel
theorem dX10_write_20 : decode cX10_write 20 = .ok (.iconst (-1), 1) := by decide +kernel
theorem dX10_write_21 : decode cX10_write 21 = .ok (.ireturn, 1) := by decide +kernel
theorem dX10_write_22 : decode cX10_write 22 = .ok (.aload_n 0, 1) := by decide +kernel
theorem dX10_write_23 : decode cX10_write 23 = .ok (.getfield 11, 3) := by decide +kernel
theorem dX10_write_26 : decode cX10_write 26 = .ok (.iload_n 1, 1) := by decide +kernel
theorem dX10_write_27 : decode cX10_write 27 = .ok (.aaload, 1) := by decide +kernel
theorem dX10_write_28 : decode cX10_write 28 = .ok (.astore_n 2, 1) := by decide +kernel
theorem dX10_write_29 : decode cX10_write 29 = .ok (.aload_n 0, 1) := by decide +kernel
theorem dX10_write_30 : decode cX10_write 30 = .ok (.iconst 0, 1) := by decide +kernel
theorem dX10_write_31 : decode cX10_write 31 = .ok (.putfield 383, 3) := by decide +kernel
theorem dX10_write_34 : decode cX10_write 34 = .ok (.iconst 0, 1) := by decide +kernel
theorem dX10_write_35 : decode cX10_write 35 = .ok (.istore_n 3, 1) := by decide +kernel
theorem dX10_write_36 : decode cX10_write 36 = .ok (.iload_n 3, 1) := by decide +kernel
theorem dX10_write_37 : decode cX10_write 37 = .ok (.aload_n 2, 1) := by decide +kernel
theorem dX10_write_38 : decode cX10_write 38 = .ok (.getfield 151, 3) := by decide +kernel
theorem dX10_write_41 : decode cX10_write 41 = .ok (.if_icmp .ge 58, 3) := by decide +kernel
theorem dX10_write_44 : decode cX10_write 44 = .ok (.iload_n 3, 1) := by decide +kernel
theorem dX10_write_45 : decode cX10_write 45 = .ok (.ifCond .le 9, 3) := by decide +kernel
theorem dX10_write_48 : decode cX10_write 48 = .ok (.aload_n 0, 1) := by decide +kernel
theorem dX10_write_49 : decode cX10_write 49 = .ok (.bipush 47, 2) := by decide +kernel
theorem dX10_write_51 : decode cX10_write 51 = .ok (.invokevirtual 386, 3) := by decide +kernel
theorem dX10_write_54 : decode cX10_write 54 = .ok (.iconst 0, 1) := by decide +kernel
theorem dX10_write_55 : decode cX10_write 55 = .ok (.istore 4, 2) := by decide +kernel
theorem dX10_write_57 : decode cX10_write 57 = .ok (.iload 4, 2) := by decide +kernel
theorem dX10_write_59 : decode cX10_write 59 = .ok (.aload_n 2, 1) := by decide +kernel
theorem dX10_write_60 : decode cX10_write 60 = .ok (.getfield 148, 3) := by decide +kernel
theorem dX10_write_63 : decode cX10_write 63 = .ok (.if_icmp .ge 30, 3) := by decide +kernel
theorem dX10_write_66 : decode cX10_write 66 = .ok (.aload_n 0, 1) := by decide +kernel
theorem dX10_write_67 : decode cX10_write 67 = .ok (.bipush 97, 2) := by decide +kernel
theorem dX10_write_69 : decode cX10_write 69 = .ok (.aload_n 2, 1) := by decide +kernel
theorem dX10_write_70 : decode cX10_write 70 = .ok (.iload 4, 2) := by decide +kernel
theorem dX10_write_72 : decode cX10_write 72 = .ok (.iload_n 3, 1) := by decide +kernel
theorem dX10_write_73 : decode cX10_write 73 = .ok (.invokevirtual 174, 3) := by decide +kernel
theorem dX10_write_76 : decode cX10_write 76 = .ok (.i2l, 1) := by decide +kernel
theorem dX10_write_77 : decode cX10_write 77 = .ok (.ldc2_w 389, 3) := by decide +kernel
theorem dX10_write_80 : decode cX10_write 80 = .ok (.invokestatic 305, 3) := by decide +kernel
theorem dX10_write_83 : decode cX10_write 83 = .ok (.iadd, 1) := by decide +kernel
theorem dX10_write_84 : decode cX10_write 84 = .ok (.invokevirtual 386, 3) := by decide +kernel
theorem dX10_write_87 : decode cX10_write 87 = .ok (.iinc 4 1, 3) := by decide +kernel
theorem dX10_write_90 : decode cX10_write 90 = .ok (.goto (-33), 3) := by decide +kernel
theorem dX10_write_93 : decode cX10_write 93 = .ok (.iinc 3 1, 3) := by decide +kernel
theorem dX10_write_96 : decode cX10_write 96 = .ok (.goto (-60), 3) := by decide +kernel
theorem dX10_write_99 : decode cX10_write 99 = .ok (.aload_n 0, 1) := by decide +kernel
theorem dX10_write_100 : decode cX10_write 100 = .ok (.getfield 383, 3) := by decide +kernel
theorem dX10_write_103 : decode cX10_write 103 = .ok (.ireturn, 1) := by decide +kernel
theorem dX10_octet_0 : decode cX10_octet 0 = .ok (.iload_n 1, 1) := by decide +kernel
theorem dX10_octet_1 : decode cX10_octet 1 = .ok (.iconst 0, 1) := by decide +kernel
theorem dX10_octet_2 : decode cX10_octet 2 = .ok (.aload_n 0, 1) := by decide +kernel
theorem dX10_octet_3 : decode cX10_octet 3 = .ok (.getfield 383, 3) := by decide +kernel
theorem dX10_octet_6 : decode cX10_octet 6 = .ok (.iconst 1, 1) := by decide +kernel
theorem dX10_octet_7 : decode cX10_octet 7 = .ok (.isub, 1) := by decide +kernel
theorem dX10_octet_8 : decode cX10_octet 8 = .ok (.invokestatic 101, 3) := by decide +kernel
theorem dX10_octet_11 : decode cX10_octet 11 = .ok (.ifCond .eq 19, 3) := by decide +kernel
theorem dX10_octet_14 : decode cX10_octet 14 = .ok (.iload_n 1, 1) := by decide +kernel
theorem dX10_octet_15 : decode cX10_octet 15 = .ok (.sipush 203, 3) := by decide +kernel
theorem dX10_octet_18 : decode cX10_octet 18 = .ok (.if_icmp .ge 12, 3) := by decide +kernel
theorem dX10_octet_21 : decode cX10_octet 21 = .ok (.aload_n 0, 1) := by decide +kernel
theorem dX10_octet_22 : decode cX10_octet 22 = .ok (.getfield 89, 3) := by decide +kernel
theorem dX10_octet_25 : decode cX10_octet 25 = .ok (.iload_n 1, 1) := by decide +kernel
theorem dX10_octet_26 : decode cX10_octet 26 = .ok (.iaload, 1) := by decide +kernel
theorem dX10_octet_27 : decode cX10_octet 27 = .ok (.goto 4, 3) := by decide +kernel
theorem dX10_octet_30 : decode cX10_octet 30 = .ok (.iconst (-1), 1) := by decide +kernel
theorem dX10_octet_31 : decode cX10_octet 31 = .ok (.ireturn, 1) := by decide +kernel
theorem dX10_letter_0 : decode cX10_letter 0 = .ok (.aload_n 0, 1) := by decide +kernel
theorem dX10_letter_1 : decode cX10_letter 1 = .ok (.getfield 47, 3) := by decide +kernel
theorem dX10_letter_4 : decode cX10_letter 4 = .ok (.iload_n 1, 1) := by decide +kernel
theorem dX10_letter_5 : decode cX10_letter 5 = .ok (.iload_n 2, 1) := by decide +kernel
theorem dX10_letter_6 : decode cX10_letter 6 = .ok (.invokevirtual 391, 3) := by decide +kernel
theorem dX10_letter_9 : decode cX10_letter 9 = .ok (.ifCond .ne 14, 3) := by decide +kernel
theorem dX10_letter_12 : decode cX10_letter 12 = .ok (.new 394, 3) := by decide +kernel
theorem dX10_letter_15 : decode cX10_letter 15 = .ok (.dup, 1) := by decide +kernel
theorem dX10_letter_16 : decode cX10_letter 16 = .ok (.ldc_w 396, 3) := by decide +kernel
theorem dX10_letter_19 : decode cX10_letter 19 = .ok (.invokespecial 398, 3) := by decide +kernel
theorem dX10_letter_22 : decode cX10_letter 22 = .ok (.athrow, 1) := by decide +kernel
theorem dX10_letter_23 : decode cX10_letter 23 = .ok (.aload_n 0, 1) := by decide +kernel
theorem dX10_letter_24 : decode cX10_letter 24 = .ok (.getfield 47, 3) := by decide +kernel
theorem dX10_letter_27 : decode cX10_letter 27 = .ok (.iload_n 1, 1) := by decide +kernel
theorem dX10_letter_28 : decode cX10_letter 28 = .ok (.iload_n 2, 1) := by decide +kernel
theorem dX10_letter_29 : decode cX10_letter 29 = .ok (.invokevirtual 401, 3) := by decide +kernel
theorem dX10_letter_32 : decode cX10_letter 32 = .ok (.ireturn, 1) := by decide +kernel
theorem dX10_bytes_0 : decode cX10_bytes 0 = .ok (.aload_n 0, 1) := by decide +kernel
theorem dX10_bytes_1 : decode cX10_bytes 1 = .ok (.getfield 33, 3) := by decide +kernel
theorem dX10_bytes_4 : decode cX10_bytes 4 = .ok (.getfield 93, 3) := by decide +kernel
theorem dX10_bytes_7 : decode cX10_bytes 7 = .ok (.ireturn, 1) := by decide +kernel
theorem dX10_trouble_0 : decode cX10_trouble 0 = .ok (.aload_n 0, 1) := by decide +kernel
theorem dX10_trouble_1 : decode cX10_trouble 1 = .ok (.getfield 128, 3) := by decide +kernel
theorem dX10_trouble_4 : decode cX10_trouble 4 = .ok (.ireturn, 1) := by decide +kernel
theorem dX10_writeByte_0 : decode cX10_writeByte 0 = .ok (.aload_n 0, 1) := by decide +kernel
theorem dX10_writeByte_1 : decode cX10_writeByte 1 = .ok (.getfield 383, 3) := by decide +kernel
theorem dX10_writeByte_4 : decode cX10_writeByte 4 = .ok (.sipush 203, 3) := by decide +kernel
theorem dX10_writeByte_7 : decode cX10_writeByte 7 = .ok (.if_icmp .ge 23, 3) := by decide +kernel
theorem dX10_writeByte_10 : decode cX10_writeByte 10 = .ok (.aload_n 0, 1) := by decide +kernel
theorem dX10_writeByte_11 : decode cX10_writeByte 11 = .ok (.getfield 89, 3) := by decide +kernel
theorem dX10_writeByte_14 : decode cX10_writeByte 14 = .ok (.aload_n 0, 1) := by decide +kernel
theorem dX10_writeByte_15 : decode cX10_writeByte 15 = .ok (.getfield 383, 3) := by decide +kernel
theorem dX10_writeByte_18 : decode cX10_writeByte 18 = .ok (.iload_n 1, 1) := by decide +kernel
theorem dX10_writeByte_19 : decode cX10_writeByte 19 = .ok (.iastore, 1) := by decide +kernel
theorem dX10_writeByte_20 : decode cX10_writeByte 20 = .ok (.aload_n 0, 1) := by decide +kernel
theorem dX10_writeByte_21 : decode cX10_writeByte 21 = .ok (.dup, 1) := by decide +kernel
theorem dX10_writeByte_22 : decode cX10_writeByte 22 = .ok (.getfield 383, 3) := by decide +kernel
theorem dX10_writeByte_25 : decode cX10_writeByte 25 = .ok (.iconst 1, 1) := by decide +kernel
theorem dX10_writeByte_26 : decode cX10_writeByte 26 = .ok (.iadd, 1) := by decide +kernel
theorem dX10_writeByte_27 : decode cX10_writeByte 27 = .ok (.putfield 383, 3) := by decide +kernel
theorem dX10_writeByte_30 : decode cX10_writeByte 30 = .ok (.return_, 1) := by decide +kernel
theorem dX10_refused_0 : decode cX10_refused 0 = .ok (.aload_n 0, 1) := by decide +kernel
theorem dX10_refused_1 : decode cX10_refused 1 = .ok (.iload_n 1, 1) := by decide +kernel
theorem dX10_refused_2 : decode cX10_refused 2 = .ok (.putfield 128, 3) := by decide +kernel
theorem dX10_refused_5 : decode cX10_refused 5 = .ok (.iload_n 1, 1) := by decide +kernel
theorem dX10_refused_6 : decode cX10_refused 6 = .ok (.ifCond .eq 7, 3) := by decide +kernel
theorem dX10_refused_9 : decode cX10_refused 9 = .ok (.iconst 1, 1) := by decide +kernel
theorem dX10_refused_10 : decode cX10_refused 10 = .ok (.goto 4, 3) := by decide +kernel
theorem dX10_refused_13 : decode cX10_refused 13 = .ok (.iconst 0, 1) := by decide +kernel
theorem dX10_refused_14 : decode cX10_refused 14 = .ok (.ireturn, 1) := by decide +kernel
theorem dX10_within_0 : decode cX10_within 0 = .ok (.iload_n 0, 1) := by decide +kernel
theorem dX10_within_1 : decode cX10_within 1 = .ok (.iload_n 1, 1) := by decide +kernel
theorem dX10_within_2 : decode cX10_within 2 = .ok (.if_icmp .lt 12, 3) := by decide +kernel
theorem dX10_within_5 : decode cX10_within 5 = .ok (.iload_n 0, 1) := by decide +kernel
theorem dX10_within_6 : decode cX10_within 6 = .ok (.iload_n 2, 1) := by decide +kernel
theorem dX10_within_7 : decode cX10_within 7 = .ok (.if_icmp .gt 7, 3) := by decide +kernel
theorem dX10_within_10 : decode cX10_within 10 = .ok (.iconst 1, 1) := by decide +kernel
theorem dX10_within_11 : decode cX10_within 11 = .ok (.goto 4, 3) := by decide +kernel
theorem dX10_within_14 : decode cX10_within 14 = .ok (.iconst 0, 1) := by decide +kernel
theorem dX10_within_15 : decode cX10_within 15 = .ok (.ireturn, 1) := by decide +kernel
theorem dX10_isPlace_0 : decode cX10_isPlace 0 = .ok (.iload_n 0, 1) := by decide +kernel
theorem dX10_isPlace_1 : decode cX10_isPlace 1 = .ok (.iconst 0, 1) := by decide +kernel
theorem dX10_isPlace_2 : decode cX10_isPlace 2 = .ok (.iconst 5, 1) := by decide +kernel
theorem dX10_isPlace_3 : decode cX10_isPlace 3 = .ok (.invokestatic 101, 3) := by decide +kernel
theorem dX10_isPlace_6 : decode cX10_isPlace 6 = .ok (.ireturn, 1) := by decide +kernel
theorem dX10_isShade_0 : decode cX10_isShade 0 = .ok (.iload_n 0, 1) := by decide +kernel
theorem dX10_isShade_1 : decode cX10_isShade 1 = .ok (.iconst 0, 1) := by decide +kernel
theorem dX10_isShade_2 : decode cX10_isShade 2 = .ok (.sipush 255, 3) := by decide +kernel
theorem dX10_isShade_5 : decode cX10_isShade 5 = .ok (.invokestatic 101, 3) := by decide +kernel
theorem dX10_isShade_8 : decode cX10_isShade 8 = .ok (.ireturn, 1) := by decide +kernel
theorem dX10_isGridSize_0 : decode cX10_isGridSize 0 = .ok (.iload_n 0, 1) := by decide +kernel
theorem dX10_isGridSize_1 : decode cX10_isGridSize 1 = .ok (.iconst 1, 1) := by decide +kernel
theorem dX10_isGridSize_2 : decode cX10_isGridSize 2 = .ok (.bipush 8, 2) := by decide +kernel
theorem dX10_isGridSize_4 : decode cX10_isGridSize 4 = .ok (.invokestatic 101, 3) := by decide +kernel
theorem dX10_isGridSize_7 : decode cX10_isGridSize 7 = .ok (.ifCond .eq 19, 3) := by decide +kernel
theorem dX10_isGridSize_10 : decode cX10_isGridSize 10 = .ok (.iload_n 1, 1) := by decide +kernel
theorem dX10_isGridSize_11 : decode cX10_isGridSize 11 = .ok (.bipush 8, 2) := by decide +kernel
theorem dX10_isGridSize_13 : decode cX10_isGridSize 13 = .ok (.sipush 128, 3) := by decide +kernel
theorem dX10_isGridSize_16 : decode cX10_isGridSize 16 = .ok (.invokestatic 101, 3) := by decide +kernel
theorem dX10_isGridSize_19 : decode cX10_isGridSize 19 = .ok (.ifCond .eq 7, 3) := by decide +kernel
theorem dX10_isGridSize_22 : decode cX10_isGridSize 22 = .ok (.iconst 1, 1) := by decide +kernel
theorem dX10_isGridSize_23 : decode cX10_isGridSize 23 = .ok (.goto 4, 3) := by decide +kernel
theorem dX10_isGridSize_26 : decode cX10_isGridSize 26 = .ok (.iconst 0, 1) := by decide +kernel
theorem dX10_isGridSize_27 : decode cX10_isGridSize 27 = .ok (.ireturn, 1) := by decide +kernel
theorem dX10_isBlurs_0 : decode cX10_isBlurs 0 = .ok (.iload_n 0, 1) := by decide +kernel
theorem dX10_isBlurs_1 : decode cX10_isBlurs 1 = .ok (.iconst 0, 1) := by decide +kernel
theorem dX10_isBlurs_2 : decode cX10_isBlurs 2 = .ok (.iconst 3, 1) := by decide +kernel
theorem dX10_isBlurs_3 : decode cX10_isBlurs 3 = .ok (.invokestatic 101, 3) := by decide +kernel
theorem dX10_isBlurs_6 : decode cX10_isBlurs 6 = .ok (.ireturn, 1) := by decide +kernel
theorem dX10_told_0 : decode cX10_told 0 = .ok (.iload_n 1, 1) := by decide +kernel
theorem dX10_told_1 : decode cX10_told 1 = .ok (.invokestatic 191, 3) := by decide +kernel
theorem dX10_told_4 : decode cX10_told 4 = .ok (.ifCond .eq 19, 3) := by decide +kernel
theorem dX10_told_7 : decode cX10_told 7 = .ok (.aload_n 0, 1) := by decide +kernel
theorem dX10_told_8 : decode cX10_told 8 = .ok (.getfield 11, 3) := by decide +kernel
theorem dX10_told_11 : decode cX10_told 11 = .ok (.iload_n 1, 1) := by decide +kernel
theorem dX10_told_12 : decode cX10_told 12 = .ok (.aaload, 1) := by decide +kernel
theorem dX10_told_13 : decode cX10_told 13 = .ok (.invokevirtual 404, 3) := by decide +kernel
theorem dX10_told_16 : decode cX10_told 16 = .ok (.ifCond .eq 7, 3) := by decide +kernel
theorem dX10_told_19 : decode cX10_told 19 = .ok (.iconst 1, 1) := by decide +kernel
theorem dX10_told_20 : decode cX10_told 20 = .ok (.goto 4, 3) := by decide +kernel
theorem dX10_told_23 : decode cX10_told 23 = .ok (.iconst 0, 1) := by decide +kernel
theorem dX10_told_24 : decode cX10_told 24 = .ok (.ireturn, 1) := by decide +kernel
theorem dX10_hasDot_0 : decode cX10_hasDot 0 = .ok (.aload_n 0, 1) := by decide +kernel
theorem dX10_hasDot_1 : decode cX10_hasDot 1 = .ok (.iload_n 1, 1) := by decide +kernel
theorem dX10_hasDot_2 : decode cX10_hasDot 2 = .ok (.invokevirtual 145, 3) := by decide +kernel
theorem dX10_hasDot_5 : decode cX10_hasDot 5 = .ok (.ifCond .eq 21, 3) := by decide +kernel
theorem dX10_hasDot_8 : decode cX10_hasDot 8 = .ok (.aload_n 0, 1) := by decide +kernel
theorem dX10_hasDot_9 : decode cX10_hasDot 9 = .ok (.getfield 11, 3) := by decide +kernel
theorem dX10_hasDot_12 : decode cX10_hasDot 12 = .ok (.iload_n 1, 1) := by decide +kernel
theorem dX10_hasDot_13 : decode cX10_hasDot 13 = .ok (.aaload, 1) := by decide +kernel
theorem dX10_hasDot_14 : decode cX10_hasDot 14 = .ok (.iload_n 2, 1) := by decide +kernel
theorem dX10_hasDot_15 : decode cX10_hasDot 15 = .ok (.iload_n 3, 1) := by decide +kernel
theorem dX10_hasDot_16 : decode cX10_hasDot 16 = .ok (.invokevirtual 407, 3) := by decide +kernel
theorem dX10_hasDot_19 : decode cX10_hasDot 19 = .ok (.ifCond .eq 7, 3) := by decide +kernel
theorem dX10_hasDot_22 : decode cX10_hasDot 22 = .ok (.iconst 1, 1) := by decide +kernel
theorem dX10_hasDot_23 : decode cX10_hasDot 23 = .ok (.goto 4, 3) := by decide +kernel
theorem dX10_hasDot_26 : decode cX10_hasDot 26 = .ok (.iconst 0, 1) := by decide +kernel
theorem dX10_hasDot_27 : decode cX10_hasDot 27 = .ok (.ireturn, 1) := by decide +kernel
theorem dX10_alike_0 : decode cX10_alike 0 = .ok (.aload_n 0, 1) := by decide +kernel
theorem dX10_alike_1 : decode cX10_alike 1 = .ok (.iload_n 1, 1) := by decide +kernel
theorem dX10_alike_2 : decode cX10_alike 2 = .ok (.invokevirtual 145, 3) := by decide +kernel
theorem dX10_alike_5 : decode cX10_alike 5 = .ok (.ifCond .eq 57, 3) := by decide +kernel
theorem dX10_alike_8 : decode cX10_alike 8 = .ok (.aload_n 0, 1) := by decide +kernel
theorem dX10_alike_9 : decode cX10_alike 9 = .ok (.iload_n 2, 1) := by decide +kernel
theorem dX10_alike_10 : decode cX10_alike 10 = .ok (.invokevirtual 145, 3) := by decide +kernel
theorem dX10_alike_13 : decode cX10_alike 13 = .ok (.ifCond .eq 49, 3) := by decide +kernel
theorem dX10_alike_16 : decode cX10_alike 16 = .ok (.aload_n 0, 1) := by decide +kernel
theorem dX10_alike_17 : decode cX10_alike 17 = .ok (.getfield 11, 3) := by decide +kernel
theorem dX10_alike_20 : decode cX10_alike 20 = .ok (.iload_n 1, 1) := by decide +kernel
theorem dX10_alike_21 : decode cX10_alike 21 = .ok (.aaload, 1) := by decide +kernel
theorem dX10_alike_22 : decode cX10_alike 22 = .ok (.getfield 148, 3) := by decide +kernel
theorem dX10_alike_25 : decode cX10_alike 25 = .ok (.aload_n 0, 1) := by decide +kernel
theorem dX10_alike_26 : decode cX10_alike 26 = .ok (.getfield 11, 3) := by decide +kernel
theorem dX10_alike_29 : decode cX10_alike 29 = .ok (.iload_n 2, 1) := by decide +kernel
theorem dX10_alike_30 : decode cX10_alike 30 = .ok (.aaload, 1) := by decide +kernel
theorem dX10_alike_31 : decode cX10_alike 31 = .ok (.getfield 148, 3) := by decide +kernel
theorem dX10_alike_34 : decode cX10_alike 34 = .ok (.if_icmp .ne 28, 3) := by decide +kernel
theorem dX10_alike_37 : decode cX10_alike 37 = .ok (.aload_n 0, 1) := by decide +kernel
theorem dX10_alike_38 : decode cX10_alike 38 = .ok (.getfield 11, 3) := by decide +kernel
theorem dX10_alike_41 : decode cX10_alike 41 = .ok (.iload_n 1, 1) := by decide +kernel
theorem dX10_alike_42 : decode cX10_alike 42 = .ok (.aaload, 1) := by decide +kernel
theorem dX10_alike_43 : decode cX10_alike 43 = .ok (.getfield 151, 3) := by decide +kernel
theorem dX10_alike_46 : decode cX10_alike 46 = .ok (.aload_n 0, 1) := by decide +kernel
theorem dX10_alike_47 : decode cX10_alike 47 = .ok (.getfield 11, 3) := by decide +kernel
theorem dX10_alike_50 : decode cX10_alike 50 = .ok (.iload_n 2, 1) := by decide +kernel
theorem dX10_alike_51 : decode cX10_alike 51 = .ok (.aaload, 1) := by decide +kernel
theorem dX10_alike_52 : decode cX10_alike 52 = .ok (.getfield 151, 3) := by decide +kernel
theorem dX10_alike_55 : decode cX10_alike 55 = .ok (.if_icmp .ne 7, 3) := by decide +kernel
theorem dX10_alike_58 : decode cX10_alike 58 = .ok (.iconst 1, 1) := by decide +kernel
theorem dX10_alike_59 : decode cX10_alike 59 = .ok (.goto 4, 3) := by decide +kernel
theorem dX10_alike_62 : decode cX10_alike 62 = .ok (.iconst 0, 1) := by decide +kernel
theorem dX10_alike_63 : decode cX10_alike 63 = .ok (.ireturn, 1) := by decide +kernel
theorem dX10_actOn_0 : decode cX10_actOn 0 = .ok (.iload_n 1, 1) := by decide +kernel
theorem dX10_actOn_1 : decode cX10_actOn 1 = .ok (.invokestatic 191, 3) := by decide +kernel
theorem dX10_actOn_4 : decode cX10_actOn 4 = .ok (.ifCond .eq 30, 3) := by decide +kernel
theorem dX10_actOn_7 : decode cX10_actOn 7 = .ok (.aload_n 0, 1) := by decide +kernel
theorem dX10_actOn_8 : decode cX10_actOn 8 = .ok (.getfield 26, 3) := by decide +kernel
theorem dX10_actOn_11 : decode cX10_actOn 11 = .ok (.iload_n 1, 1) := by decide +kernel
theorem dX10_actOn_12 : decode cX10_actOn 12 = .ok (.aload_n 0, 1) := by decide +kernel
theorem dX10_actOn_13 : decode cX10_actOn 13 = .ok (.getfield 11, 3) := by decide +kernel
theorem dX10_actOn_16 : decode cX10_actOn 16 = .ok (.iload_n 1, 1) := by decide +kernel
theorem dX10_actOn_17 : decode cX10_actOn 17 = .ok (.aaload, 1) := by decide +kernel
theorem dX10_actOn_18 : decode cX10_actOn 18 = .ok (.invokevirtual 410, 3) := by decide +kernel
theorem dX10_actOn_21 : decode cX10_actOn 21 = .ok (.aload_n 0, 1) := by decide +kernel
theorem dX10_actOn_22 : decode cX10_actOn 22 = .ok (.getfield 11, 3) := by decide +kernel
theorem dX10_actOn_25 : decode cX10_actOn 25 = .ok (.iload_n 1, 1) := by decide +kernel
theorem dX10_actOn_26 : decode cX10_actOn 26 = .ok (.aaload, 1) := by decide +kernel
theorem dX10_actOn_27 : decode cX10_actOn 27 = .ok (.aload_n 0, 1) := by decide +kernel
theorem dX10_actOn_28 : decode cX10_actOn 28 = .ok (.getfield 16, 3) := by decide +kernel
theorem dX10_actOn_31 : decode cX10_actOn 31 = .ok (.invokevirtual 137, 3) := by decide +kernel
theorem dX10_actOn_34 : decode cX10_actOn 34 = .ok (.return_, 1) := by decide +kernel
theorem dX10_actCountingOthers_0 : decode cX10_actCountingOthers 0 = .ok (.iload_n 2, 1) := by decide +kernel
theorem dX10_actCountingOthers_1 : decode cX10_actCountingOthers 1 = .ok (.invokestatic 191, 3) := by decide +kernel
theorem dX10_actCountingOthers_4 : decode cX10_actCountingOthers 4 = .ok (.ifCond .eq 19, 3) := by decide +kernel
theorem dX10_actCountingOthers_7 : decode cX10_actCountingOthers 7 = .ok (.aload_n 0, 1) := by decide +kernel
theorem dX10_actCountingOthers_8 : decode cX10_actCountingOthers 8 = .ok (.getfield 16, 3) := by decide +kernel
theorem dX10_actCountingOthers_11 : decode cX10_actCountingOthers 11 = .ok (.aload_n 0, 1) := by decide +kernel
theorem dX10_actCountingOthers_12 : decode cX10_actCountingOthers 12 = .ok (.getfield 11, 3) := by decide +kernel
theorem dX10_actCountingOthers_15 : decode cX10_actCountingOthers 15 = .ok (.iload_n 2, 1) := by decide +kernel
theorem dX10_actCountingOthers_16 : decode cX10_actCountingOthers 16 = .ok (.aaload, 1) := by decide +kernel
theorem dX10_actCountingOthers_17 : decode cX10_actCountingOthers 17 = .ok (.invokestatic 316, 3) := by decide +kernel
theorem dX10_actCountingOthers_20 : decode cX10_actCountingOthers 20 = .ok (.goto 4, 3) := by decide +kernel
theorem dX10_actCountingOthers_23 : decode cX10_actCountingOthers 23 = .ok (.iconst 0, 1) := by decide +kernel
theorem dX10_actCountingOthers_24 : decode cX10_actCountingOthers 24 = .ok (.istore_n 3, 1) := by decide +kernel
theorem dX10_actCountingOthers_25 : decode cX10_actCountingOthers 25 = .ok (.aload_n 0, 1) := by decide +kernel
theorem dX10_actCountingOthers_26 : decode cX10_actCountingOthers 26 = .ok (.iload_n 1, 1) := by decide +kernel
theorem dX10_actCountingOthers_27 : decode cX10_actCountingOthers 27 = .ok (.invokevirtual 188, 3) := by decide +kernel
theorem dX10_actCountingOthers_30 : decode cX10_actCountingOthers 30 = .ok (.iload_n 3, 1) := by decide +kernel
theorem dX10_actCountingOthers_31 : decode cX10_actCountingOthers 31 = .ok (.ireturn, 1) := by decide +kernel
theorem dX10_othersIn_0 : decode cX10_othersIn 0 = .ok (.iconst 0, 1) := by decide +kernel
theorem dX10_othersIn_1 : decode cX10_othersIn 1 = .ok (.istore_n 2, 1) := by decide +kernel
theorem dX10_othersIn_2 : decode cX10_othersIn 2 = .ok (.iconst 0, 1) := by decide +kernel
theorem dX10_othersIn_3 : decode cX10_othersIn 3 = .ok (.istore_n 3, 1) := by decide +kernel
theorem dX10_othersIn_4 : decode cX10_othersIn 4 = .ok (.iload_n 3, 1) := by decide +kernel
theorem dX10_othersIn_5 : decode cX10_othersIn 5 = .ok (.aload_n 0, 1) := by decide +kernel
theorem dX10_othersIn_6 : decode cX10_othersIn 6 = .ok (.invokevirtual 212, 3) := by decide +kernel
theorem dX10_othersIn_9 : decode cX10_othersIn 9 = .ok (.if_icmp .ge 32, 3) := by decide +kernel
theorem dX10_othersIn_12 : decode cX10_othersIn 12 = .ok (.iload_n 2, 1) := by decide +kernel
theorem dX10_othersIn_13 : decode cX10_othersIn 13 = .ok (.aload_n 0, 1) := by decide +kernel
theorem dX10_othersIn_14 : decode cX10_othersIn 14 = .ok (.getfield 198, 3) := by decide +kernel
theorem dX10_othersIn_17 : decode cX10_othersIn 17 = .ok (.iload_n 3, 1) := by decide +kernel
theorem dX10_othersIn_18 : decode cX10_othersIn 18 = .ok (.iaload, 1) := by decide +kernel
theorem dX10_othersIn_19 : decode cX10_othersIn 19 = .ok (.aload_n 1, 1) := by decide +kernel
theorem dX10_othersIn_20 : decode cX10_othersIn 20 = .ok (.getfield 198, 3) := by decide +kernel
theorem dX10_othersIn_23 : decode cX10_othersIn 23 = .ok (.iload_n 3, 1) := by decide +kernel
theorem dX10_othersIn_24 : decode cX10_othersIn 24 = .ok (.iaload, 1) := by decide +kernel
theorem dX10_othersIn_25 : decode cX10_othersIn 25 = .ok (.if_icmp .eq 7, 3) := by decide +kernel
theorem dX10_othersIn_28 : decode cX10_othersIn 28 = .ok (.iconst 1, 1) := by decide +kernel
theorem dX10_othersIn_29 : decode cX10_othersIn 29 = .ok (.goto 4, 3) := by decide +kernel
theorem dX10_othersIn_32 : decode cX10_othersIn 32 = .ok (.iconst 0, 1) := by decide +kernel
theorem dX10_othersIn_33 : decode cX10_othersIn 33 = .ok (.iadd, 1) := by decide +kernel
theorem dX10_othersIn_34 : decode cX10_othersIn 34 = .ok (.istore_n 2, 1) := by decide +kernel
theorem dX10_othersIn_35 : decode cX10_othersIn 35 = .ok (.iinc 3 1, 3) := by decide +kernel
theorem dX10_othersIn_38 : decode cX10_othersIn 38 = .ok (.goto (-34), 3) := by decide +kernel
theorem dX10_othersIn_41 : decode cX10_othersIn 41 = .ok (.iload_n 2, 1) := by decide +kernel
theorem dX10_othersIn_42 : decode cX10_othersIn 42 = .ok (.ireturn, 1) := by decide +kernel
theorem dX10_tallied_0 : decode cX10_tallied 0 = .ok (.aload_n 0, 1) := by decide +kernel
theorem dX10_tallied_1 : decode cX10_tallied 1 = .ok (.aload_n 1, 1) := by decide +kernel
theorem dX10_tallied_2 : decode cX10_tallied 2 = .ok (.iconst 0, 1) := by decide +kernel
theorem dX10_tallied_3 : decode cX10_tallied 3 = .ok (.iconst 0, 1) := by decide +kernel
theorem dX10_tallied_4 : decode cX10_tallied 4 = .ok (.aload_n 1, 1) := by decide +kernel
theorem dX10_tallied_5 : decode cX10_tallied 5 = .ok (.getfield 148, 3) := by decide +kernel
theorem dX10_tallied_8 : decode cX10_tallied 8 = .ok (.aload_n 1, 1) := by decide +kernel
theorem dX10_tallied_9 : decode cX10_tallied 9 = .ok (.getfield 151, 3) := by decide +kernel
theorem dX10_tallied_12 : decode cX10_tallied 12 = .ok (.invokevirtual 309, 3) := by decide +kernel
theorem dX10_tallied_15 : decode cX10_tallied 15 = .ok (.areturn, 1) := by decide +kernel
theorem dX10_talliedAround_0 : decode cX10_talliedAround 0 = .ok (.aload_n 0, 1) := by decide +kernel
theorem dX10_talliedAround_1 : decode cX10_talliedAround 1 = .ok (.aload_n 1, 1) := by decide +kernel
theorem dX10_talliedAround_2 : decode cX10_talliedAround 2 = .ok (.iload_n 2, 1) := by decide +kernel
theorem dX10_talliedAround_3 : decode cX10_talliedAround 3 = .ok (.iload 4, 2) := by decide +kernel
theorem dX10_talliedAround_5 : decode cX10_talliedAround 5 = .ok (.isub, 1) := by decide +kernel
theorem dX10_talliedAround_6 : decode cX10_talliedAround 6 = .ok (.iload_n 3, 1) := by decide +kernel
theorem dX10_talliedAround_7 : decode cX10_talliedAround 7 = .ok (.iload 4, 2) := by decide +kernel
theorem dX10_talliedAround_9 : decode cX10_talliedAround 9 = .ok (.isub, 1) := by decide +kernel
theorem dX10_talliedAround_10 : decode cX10_talliedAround 10 = .ok (.iconst 2, 1) := by decide +kernel
theorem dX10_talliedAround_11 : decode cX10_talliedAround 11 = .ok (.iload 4, 2) := by decide +kernel
theorem dX10_talliedAround_13 : decode cX10_talliedAround 13 = .ok (.imul, 1) := by decide +kernel
theorem dX10_talliedAround_14 : decode cX10_talliedAround 14 = .ok (.iconst 1, 1) := by decide +kernel
theorem dX10_talliedAround_15 : decode cX10_talliedAround 15 = .ok (.iadd, 1) := by decide +kernel
theorem dX10_talliedAround_16 : decode cX10_talliedAround 16 = .ok (.iconst 2, 1) := by decide +kernel
theorem dX10_talliedAround_17 : decode cX10_talliedAround 17 = .ok (.iload 4, 2) := by decide +kernel
theorem dX10_talliedAround_19 : decode cX10_talliedAround 19 = .ok (.imul, 1) := by decide +kernel
theorem dX10_talliedAround_20 : decode cX10_talliedAround 20 = .ok (.iconst 1, 1) := by decide +kernel
theorem dX10_talliedAround_21 : decode cX10_talliedAround 21 = .ok (.iadd, 1) := by decide +kernel
theorem dX10_talliedAround_22 : decode cX10_talliedAround 22 = .ok (.invokevirtual 309, 3) := by decide +kernel
theorem dX10_talliedAround_25 : decode cX10_talliedAround 25 = .ok (.areturn, 1) := by decide +kernel
theorem dX10_talliedPart_0 : decode cX10_talliedPart 0 = .ok (.aload_n 0, 1) := by decide +kernel
theorem dX10_talliedPart_1 : decode cX10_talliedPart 1 = .ok (.getfield 71, 3) := by decide +kernel
theorem dX10_talliedPart_4 : decode cX10_talliedPart 4 = .ok (.invokevirtual 414, 3) := by decide +kernel
theorem dX10_talliedPart_7 : decode cX10_talliedPart 7 = .ok (.iload_n 2, 1) := by decide +kernel
theorem dX10_talliedPart_8 : decode cX10_talliedPart 8 = .ok (.iload 4, 2) := by decide +kernel
theorem dX10_talliedPart_10 : decode cX10_talliedPart 10 = .ok (.iadd, 1) := by decide +kernel
theorem dX10_talliedPart_11 : decode cX10_talliedPart 11 = .ok (.aload_n 1, 1) := by decide +kernel
theorem dX10_talliedPart_12 : decode cX10_talliedPart 12 = .ok (.getfield 148, 3) := by decide +kernel
theorem dX10_talliedPart_15 : decode cX10_talliedPart 15 = .ok (.invokestatic 417, 3) := by decide +kernel
theorem dX10_talliedPart_18 : decode cX10_talliedPart 18 = .ok (.istore 6, 2) := by decide +kernel
theorem dX10_talliedPart_20 : decode cX10_talliedPart 20 = .ok (.iload_n 3, 1) := by decide +kernel
theorem dX10_talliedPart_21 : decode cX10_talliedPart 21 = .ok (.iload 5, 2) := by decide +kernel
theorem dX10_talliedPart_23 : decode cX10_talliedPart 23 = .ok (.iadd, 1) := by decide +kernel
theorem dX10_talliedPart_24 : decode cX10_talliedPart 24 = .ok (.aload_n 1, 1) := by decide +kernel
theorem dX10_talliedPart_25 : decode cX10_talliedPart 25 = .ok (.getfield 151, 3) := by decide +kernel
theorem dX10_talliedPart_28 : decode cX10_talliedPart 28 = .ok (.invokestatic 417, 3) := by decide +kernel
theorem dX10_talliedPart_31 : decode cX10_talliedPart 31 = .ok (.istore 7, 2) := by decide +kernel
theorem dX10_talliedPart_33 : decode cX10_talliedPart 33 = .ok (.iconst 0, 1) := by decide +kernel
theorem dX10_talliedPart_34 : decode cX10_talliedPart 34 = .ok (.iload_n 3, 1) := by decide +kernel
theorem dX10_talliedPart_35 : decode cX10_talliedPart 35 = .ok (.invokestatic 342, 3) := by decide +kernel
theorem dX10_talliedPart_38 : decode cX10_talliedPart 38 = .ok (.istore 8, 2) := by decide +kernel
theorem dX10_talliedPart_40 : decode cX10_talliedPart 40 = .ok (.iload 8, 2) := by decide +kernel
theorem dX10_talliedPart_42 : decode cX10_talliedPart 42 = .ok (.iload 7, 2) := by decide +kernel
theorem dX10_talliedPart_44 : decode cX10_talliedPart 44 = .ok (.if_icmp .ge 44, 3) := by decide +kernel
theorem dX10_talliedPart_47 : decode cX10_talliedPart 47 = .ok (.iconst 0, 1) := by decide +kernel
theorem dX10_talliedPart_48 : decode cX10_talliedPart 48 = .ok (.iload_n 2, 1) := by decide +kernel
theorem dX10_talliedPart_49 : decode cX10_talliedPart 49 = .ok (.invokestatic 342, 3) := by decide +kernel
theorem dX10_talliedPart_52 : decode cX10_talliedPart 52 = .ok (.istore 9, 2) := by decide +kernel
theorem dX10_talliedPart_54 : decode cX10_talliedPart 54 = .ok (.iload 9, 2) := by decide +kernel
theorem dX10_talliedPart_56 : decode cX10_talliedPart 56 = .ok (.iload 6, 2) := by decide +kernel
theorem dX10_talliedPart_58 : decode cX10_talliedPart 58 = .ok (.if_icmp .ge 24, 3) := by decide +kernel
theorem dX10_talliedPart_61 : decode cX10_talliedPart 61 = .ok (.aload_n 0, 1) := by decide +kernel
theorem dX10_talliedPart_62 : decode cX10_talliedPart 62 = .ok (.getfield 71, 3) := by decide +kernel
theorem dX10_talliedPart_65 : decode cX10_talliedPart 65 = .ok (.aload_n 1, 1) := by decide +kernel
theorem dX10_talliedPart_66 : decode cX10_talliedPart 66 = .ok (.iload 9, 2) := by decide +kernel
theorem dX10_talliedPart_68 : decode cX10_talliedPart 68 = .ok (.iload 8, 2) := by decide +kernel
theorem dX10_talliedPart_70 : decode cX10_talliedPart 70 = .ok (.invokevirtual 174, 3) := by decide +kernel
theorem dX10_talliedPart_73 : decode cX10_talliedPart 73 = .ok (.invokevirtual 420, 3) := by decide +kernel
theorem dX10_talliedPart_76 : decode cX10_talliedPart 76 = .ok (.iinc 9 1, 3) := by decide +kernel
theorem dX10_talliedPart_79 : decode cX10_talliedPart 79 = .ok (.goto (-25), 3) := by decide +kernel
theorem dX10_talliedPart_82 : decode cX10_talliedPart 82 = .ok (.iinc 8 1, 3) := by decide +kernel
theorem dX10_talliedPart_85 : decode cX10_talliedPart 85 = .ok (.goto (-45), 3) := by decide +kernel
theorem dX10_talliedPart_88 : decode cX10_talliedPart 88 = .ok (.aload_n 0, 1) := by decide +kernel
theorem dX10_talliedPart_89 : decode cX10_talliedPart 89 = .ok (.getfield 71, 3) := by decide +kernel
theorem dX10_talliedPart_92 : decode cX10_talliedPart 92 = .ok (.areturn, 1) := by decide +kernel
theorem dX10_held_0 : decode cX10_held 0 = .ok (.iconst 0, 1) := by decide +kernel
theorem dX10_held_1 : decode cX10_held 1 = .ok (.sipush 255, 3) := by decide +kernel
theorem dX10_held_4 : decode cX10_held 4 = .ok (.iload_n 0, 1) := by decide +kernel
theorem dX10_held_5 : decode cX10_held 5 = .ok (.invokestatic 417, 3) := by decide +kernel
theorem dX10_held_8 : decode cX10_held 8 = .ok (.invokestatic 342, 3) := by decide +kernel
theorem dX10_held_11 : decode cX10_held 11 = .ok (.ireturn, 1) := by decide +kernel
theorem dX10_nearest_0 : decode cX10_nearest 0 = .ok (.lload_n 2, 1) := by decide +kernel
theorem dX10_nearest_1 : decode cX10_nearest 1 = .ok (.lconst 0, 1) := by decide +kernel
theorem dX10_nearest_2 : decode cX10_nearest 2 = .ok (.lcmp, 1) := by decide +kernel
theorem dX10_nearest_3 : decode cX10_nearest 3 = .ok (.ifCond .gt 7, 3) := by decide +kernel
theorem dX10_nearest_6 : decode cX10_nearest 6 = .ok (.iconst 0, 1) := by decide +kernel
theorem dX10_nearest_7 : decode cX10_nearest 7 = .ok (.goto 19, 3) := by decide +kernel
theorem dX10_nearest_10 : decode cX10_nearest 10 = .ok (.ldc2_w 423, 3) := by decide +kernel
theorem dX10_nearest_13 : decode cX10_nearest 13 = .ok (.lload_n 0, 1) := by decide +kernel
theorem dX10_nearest_14 : decode cX10_nearest 14 = .ok (.lmul, 1) := by decide +kernel
theorem dX10_nearest_15 : decode cX10_nearest 15 = .ok (.lload_n 2, 1) := by decide +kernel
theorem dX10_nearest_16 : decode cX10_nearest 16 = .ok (.ladd, 1) := by decide +kernel
theorem dX10_nearest_17 : decode cX10_nearest 17 = .ok (.lconst 1, 1) := by decide +kernel
theorem dX10_nearest_18 : decode cX10_nearest 18 = .ok (.lsub, 1) := by decide +kernel
theorem dX10_nearest_19 : decode cX10_nearest 19 = .ok (.ldc2_w 423, 3) := by decide +kernel
theorem dX10_nearest_22 : decode cX10_nearest 22 = .ok (.lload_n 2, 1) := by decide +kernel
theorem dX10_nearest_23 : decode cX10_nearest 23 = .ok (.lmul, 1) := by decide +kernel
theorem dX10_nearest_24 : decode cX10_nearest 24 = .ok (.ldiv, 1) := by decide +kernel
theorem dX10_nearest_25 : decode cX10_nearest 25 = .ok (.l2i, 1) := by decide +kernel
theorem dX10_nearest_26 : decode cX10_nearest 26 = .ok (.ireturn, 1) := by decide +kernel
