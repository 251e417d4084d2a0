theorem dX7_fits_8 : decode cX7_fits 8 = .ok (.iconst 0, 1) := by decide +kernel
theorem dX7_fits_9 : decode cX7_fits 9 = .ok (.aload_n 0, 1) := by decide +kernel
theorem dX7_fits_10 : decode cX7_fits 10 = .ok (.getfield 15, 3) := by decide +kernel
theorem dX7_fits_13 : decode cX7_fits 13 = .ok (.iload_n 1, 1) := by decide +kernel
theorem dX7_fits_14 : decode cX7_fits 14 = .ok (.iaload, 1) := by decide +kernel
theorem dX7_fits_15 : decode cX7_fits 15 = .ok (.iconst 1, 1) := by decide +kernel
theorem dX7_fits_16 : decode cX7_fits 16 = .ok (.isub, 1) := by decide +kernel
theorem dX7_fits_17 : decode cX7_fits 17 = .ok (.invokestatic 89, 3) := by decide +kernel
theorem dX7_fits_20 : decode cX7_fits 20 = .ok (.ifCond .eq 12, 3) := by decide +kernel
theorem dX7_fits_23 : decode cX7_fits 23 = .ok (.iload_n 3, 1) := by decide +kernel
theorem dX7_fits_24 : decode cX7_fits 24 = .ok (.iconst 0, 1) := by decide +kernel
theorem dX7_fits_25 : decode cX7_fits 25 = .ok (.iconst 1, 1) := by decide +kernel
theorem dX7_fits_26 : decode cX7_fits 26 = .ok (.invokestatic 89, 3) := by decide +kernel
theorem dX7_fits_29 : decode cX7_fits 29 = .ok (.ifCond .ne 5, 3) := by decide +kernel
theorem dX7_fits_32 : decode cX7_fits 32 = .ok (.iconst (-1), 1) := by decide +kernel
theorem dX7_fits_33 : decode cX7_fits 33 = .ok (.ireturn, 1) := by decide +kernel
theorem dX7_fits_34 : decode cX7_fits 34 = .ok (.aload_n 0, 1) := by decide +kernel
theorem dX7_fits_35 : decode cX7_fits 35 = .ok (.getfield 20, 3) := by decide +kernel
theorem dX7_fits_38 : decode cX7_fits 38 = .ok (.iload_n 1, 1) := by decide +kernel
theorem dX7_fits_39 : decode cX7_fits 39 = .ok (.aaload, 1) := by decide +kernel
theorem dX7_fits_40 : decode cX7_fits 40 = .ok (.iload_n 2, 1) := by decide +kernel
theorem dX7_fits_41 : decode cX7_fits 41 = .ok (.iaload, 1) := by decide +kernel
theorem dX7_fits_42 : decode cX7_fits 42 = .ok (.istore 4, 2) := by decide +kernel
theorem dX7_fits_44 : decode cX7_fits 44 = .ok (.iconst 0, 1) := by decide +kernel
theorem dX7_fits_45 : decode cX7_fits 45 = .ok (.istore 5, 2) := by decide +kernel
theorem dX7_fits_47 : decode cX7_fits 47 = .ok (.bipush (-5), 2) := by decide +kernel
theorem dX7_fits_49 : decode cX7_fits 49 = .ok (.istore 6, 2) := by decide +kernel
theorem dX7_fits_51 : decode cX7_fits 51 = .ok (.bipush 99, 2) := by decide +kernel
theorem dX7_fits_53 : decode cX7_fits 53 = .ok (.istore 7, 2) := by decide +kernel
theorem dX7_fits_55 : decode cX7_fits 55 = .ok (.iload 7, 2) := by decide +kernel
theorem dX7_fits_57 : decode cX7_fits 57 = .ok (.ifCond .lt 36, 3) := by decide +kernel
theorem dX7_fits_60 : decode cX7_fits 60 = .ok (.aload_n 0, 1) := by decide +kernel
theorem dX7_fits_61 : decode cX7_fits 61 = .ok (.getfield 20, 3) := by decide +kernel
theorem dX7_fits_64 : decode cX7_fits 64 = .ok (.iload_n 1, 1) := by decide +kernel
theorem dX7_fits_65 : decode cX7_fits 65 = .ok (.aaload, 1) := by decide +kernel
theorem dX7_fits_66 : decode cX7_fits 66 = .ok (.iload_n 2, 1) := by decide +kernel
theorem dX7_fits_67 : decode cX7_fits 67 = .ok (.iload 7, 2) := by decide +kernel
theorem dX7_fits_69 : decode cX7_fits 69 = .ok (.iastore, 1) := by decide +kernel
theorem dX7_fits_70 : decode cX7_fits 70 = .ok (.aload_n 0, 1) := by decide +kernel
theorem dX7_fits_71 : decode cX7_fits 71 = .ok (.invokevirtual 278, 3) := by decide +kernel
theorem dX7_fits_74 : decode cX7_fits 74 = .ok (.ifCond .ne 6, 3) := by decide +kernel
theorem dX7_fits_77 : decode cX7_fits 77 = .ok (.goto 10, 3) := by decide +kernel
theorem dX7_fits_80 : decode cX7_fits 80 = .ok (.iinc 5 1, 3) := by decide +kernel
theorem dX7_fits_83 : decode cX7_fits 83 = .ok (.iload 7, 2) := by decide +kernel
theorem dX7_fits_85 : decode cX7_fits 85 = .ok (.istore 6, 2) := by decide +kernel
theorem dX7_fits_87 : decode cX7_fits 87 = .ok (.iinc 7 (-1), 3) := by decide +kernel
theorem dX7_fits_90 : decode cX7_fits 90 = .ok (.goto (-35), 3) := by decide +kernel
theorem dX7_fits_93 : decode cX7_fits 93 = .ok (.aload_n 0, 1) := by decide +kernel
theorem dX7_fits_94 : decode cX7_fits 94 = .ok (.getfield 20, 3) := by decide +kernel
theorem dX7_fits_97 : decode cX7_fits 97 = .ok (.iload_n 1, 1) := by decide +kernel
theorem dX7_fits_98 : decode cX7_fits 98 = .ok (.aaload, 1) := by decide +kernel
theorem dX7_fits_99 : decode cX7_fits 99 = .ok (.iload_n 2, 1) := by decide +kernel
theorem dX7_fits_100 : decode cX7_fits 100 = .ok (.iload 4, 2) := by decide +kernel
theorem dX7_fits_102 : decode cX7_fits 102 = .ok (.iastore, 1) := by decide +kernel
theorem dX7_fits_103 : decode cX7_fits 103 = .ok (.iload_n 3, 1) := by decide +kernel
theorem dX7_fits_104 : decode cX7_fits 104 = .ok (.ifCond .ne 8, 3) := by decide +kernel
theorem dX7_fits_107 : decode cX7_fits 107 = .ok (.iload 5, 2) := by decide +kernel
theorem dX7_fits_109 : decode cX7_fits 109 = .ok (.goto 5, 3) := by decide +kernel
theorem dX7_fits_112 : decode cX7_fits 112 = .ok (.iload 6, 2) := by decide +kernel
theorem dX7_fits_114 : decode cX7_fits 114 = .ok (.ireturn, 1) := by decide +kernel
theorem dX7_isAbove_0 : decode cX7_isAbove 0 = .ok (.aload_n 0, 1) := by decide +kernel
theorem dX7_isAbove_1 : decode cX7_isAbove 1 = .ok (.iload_n 3, 1) := by decide +kernel
theorem dX7_isAbove_2 : decode cX7_isAbove 2 = .ok (.iload 4, 2) := by decide +kernel
theorem dX7_isAbove_4 : decode cX7_isAbove 4 = .ok (.invokevirtual 154, 3) := by decide +kernel
theorem dX7_isAbove_7 : decode cX7_isAbove 7 = .ok (.aload_n 0, 1) := by decide +kernel
theorem dX7_isAbove_8 : decode cX7_isAbove 8 = .ok (.getfield 103, 3) := by decide +kernel
theorem dX7_isAbove_11 : decode cX7_isAbove 11 = .ok (.lstore 5, 2) := by decide +kernel
theorem dX7_isAbove_13 : decode cX7_isAbove 13 = .ok (.aload_n 0, 1) := by decide +kernel
theorem dX7_isAbove_14 : decode cX7_isAbove 14 = .ok (.getfield 107, 3) := by decide +kernel
theorem dX7_isAbove_17 : decode cX7_isAbove 17 = .ok (.lstore 7, 2) := by decide +kernel
theorem dX7_isAbove_19 : decode cX7_isAbove 19 = .ok (.lload 7, 2) := by decide +kernel
theorem dX7_isAbove_21 : decode cX7_isAbove 21 = .ok (.lconst 0, 1) := by decide +kernel
theorem dX7_isAbove_22 : decode cX7_isAbove 22 = .ok (.lcmp, 1) := by decide +kernel
theorem dX7_isAbove_23 : decode cX7_isAbove 23 = .ok (.ifCond .ne 5, 3) := by decide +kernel
theorem dX7_isAbove_26 : decode cX7_isAbove 26 = .ok (.iconst 0, 1) := by decide +kernel
theorem dX7_isAbove_27 : decode cX7_isAbove 27 = .ok (.ireturn, 1) := by decide +kernel
theorem dX7_isAbove_28 : decode cX7_isAbove 28 = .ok (.aload_n 0, 1) := by decide +kernel
theorem dX7_isAbove_29 : decode cX7_isAbove 29 = .ok (.iload_n 1, 1) := by decide +kernel
theorem dX7_isAbove_30 : decode cX7_isAbove 30 = .ok (.iload_n 2, 1) := by decide +kernel
theorem dX7_isAbove_31 : decode cX7_isAbove 31 = .ok (.invokevirtual 154, 3) := by decide +kernel
theorem dX7_isAbove_34 : decode cX7_isAbove 34 = .ok (.aload_n 0, 1) := by decide +kernel
theorem dX7_isAbove_35 : decode cX7_isAbove 35 = .ok (.invokevirtual 112, 3) := by decide +kernel
theorem dX7_isAbove_38 : decode cX7_isAbove 38 = .ok (.ifCond .eq 18, 3) := by decide +kernel
theorem dX7_isAbove_41 : decode cX7_isAbove 41 = .ok (.aload_n 0, 1) := by decide +kernel
theorem dX7_isAbove_42 : decode cX7_isAbove 42 = .ok (.lload 5, 2) := by decide +kernel
theorem dX7_isAbove_44 : decode cX7_isAbove 44 = .ok (.lload 7, 2) := by decide +kernel
theorem dX7_isAbove_46 : decode cX7_isAbove 46 = .ok (.invokevirtual 268, 3) := by decide +kernel
theorem dX7_isAbove_49 : decode cX7_isAbove 49 = .ok (.ifCond .le 7, 3) := by decide +kernel
theorem dX7_isAbove_52 : decode cX7_isAbove 52 = .ok (.iconst 1, 1) := by decide +kernel
theorem dX7_isAbove_53 : decode cX7_isAbove 53 = .ok (.goto 4, 3) := by decide +kernel
theorem dX7_isAbove_56 : decode cX7_isAbove 56 = .ok (.iconst 0, 1) := by decide +kernel
theorem dX7_isAbove_57 : decode cX7_isAbove 57 = .ok (.ireturn, 1) := by decide +kernel
theorem dX7_odds_0 : decode cX7_odds 0 = .ok (.iload_n 1, 1) := by decide +kernel
theorem dX7_odds_1 : decode cX7_odds 1 = .ok (.invokestatic 135, 3) := by decide +kernel
theorem dX7_odds_4 : decode cX7_odds 4 = .ok (.ifCond .eq 35, 3) := by decide +kernel
theorem dX7_odds_7 : decode cX7_odds 7 = .ok (.iload_n 2, 1) := by decide +kernel
theorem dX7_odds_8 : decode cX7_odds 8 = .ok (.invokestatic 135, 3) := by decide +kernel
theorem dX7_odds_11 : decode cX7_odds 11 = .ok (.ifCond .eq 28, 3) := by decide +kernel
theorem dX7_odds_14 : decode cX7_odds 14 = .ok (.iload_n 3, 1) := by decide +kernel
theorem dX7_odds_15 : decode cX7_odds 15 = .ok (.invokestatic 245, 3) := by decide +kernel
theorem dX7_odds_18 : decode cX7_odds 18 = .ok (.ifCond .eq 21, 3) := by decide +kernel
theorem dX7_odds_21 : decode cX7_odds 21 = .ok (.aload_n 0, 1) := by decide +kernel
theorem dX7_odds_22 : decode cX7_odds 22 = .ok (.getfield 15, 3) := by decide +kernel
theorem dX7_odds_25 : decode cX7_odds 25 = .ok (.iload_n 1, 1) := by decide +kernel
theorem dX7_odds_26 : decode cX7_odds 26 = .ok (.iaload, 1) := by decide +kernel
theorem dX7_odds_27 : decode cX7_odds 27 = .ok (.ifCond .eq 12, 3) := by decide +kernel
theorem dX7_odds_30 : decode cX7_odds 30 = .ok (.aload_n 0, 1) := by decide +kernel
theorem dX7_odds_31 : decode cX7_odds 31 = .ok (.getfield 15, 3) := by decide +kernel
theorem dX7_odds_34 : decode cX7_odds 34 = .ok (.iload_n 2, 1) := by decide +kernel
theorem dX7_odds_35 : decode cX7_odds 35 = .ok (.iaload, 1) := by decide +kernel
theorem dX7_odds_36 : decode cX7_odds 36 = .ok (.ifCond .ne 7, 3) := by decide +kernel
theorem dX7_odds_39 : decode cX7_odds 39 = .ok (.ldc2_w 243, 3) := by decide +kernel
theorem dX7_odds_42 : decode cX7_odds 42 = .ok (.lreturn, 1) := by decide +kernel
theorem dX7_odds_43 : decode cX7_odds 43 = .ok (.iconst 0, 1) := by decide +kernel
theorem dX7_odds_44 : decode cX7_odds 44 = .ok (.istore 4, 2) := by decide +kernel
theorem dX7_odds_46 : decode cX7_odds 46 = .ok (.iconst 1, 1) := by decide +kernel
theorem dX7_odds_47 : decode cX7_odds 47 = .ok (.istore 5, 2) := by decide +kernel
theorem dX7_odds_49 : decode cX7_odds 49 = .ok (.iload 5, 2) := by decide +kernel
theorem dX7_odds_51 : decode cX7_odds 51 = .ok (.aload_n 0, 1) := by decide +kernel
theorem dX7_odds_52 : decode cX7_odds 52 = .ok (.getfield 15, 3) := by decide +kernel
theorem dX7_odds_55 : decode cX7_odds 55 = .ok (.iload_n 1, 1) := by decide +kernel
theorem dX7_odds_56 : decode cX7_odds 56 = .ok (.iaload, 1) := by decide +kernel
theorem dX7_odds_57 : decode cX7_odds 57 = .ok (.if_icmp .gt 45, 3) := by decide +kernel
theorem dX7_odds_60 : decode cX7_odds 60 = .ok (.iconst 1, 1) := by decide +kernel
theorem dX7_odds_61 : decode cX7_odds 61 = .ok (.istore 6, 2) := by decide +kernel
theorem dX7_odds_63 : decode cX7_odds 63 = .ok (.iload 6, 2) := by decide +kernel
theorem dX7_odds_65 : decode cX7_odds 65 = .ok (.aload_n 0, 1) := by decide +kernel
theorem dX7_odds_66 : decode cX7_odds 66 = .ok (.getfield 15, 3) := by decide +kernel
theorem dX7_odds_69 : decode cX7_odds 69 = .ok (.iload_n 2, 1) := by decide +kernel
theorem dX7_odds_70 : decode cX7_odds 70 = .ok (.iaload, 1) := by decide +kernel
theorem dX7_odds_71 : decode cX7_odds 71 = .ok (.if_icmp .gt 25, 3) := by decide +kernel
theorem dX7_odds_74 : decode cX7_odds 74 = .ok (.aload_n 0, 1) := by decide +kernel
theorem dX7_odds_75 : decode cX7_odds 75 = .ok (.iload_n 1, 1) := by decide +kernel
theorem dX7_odds_76 : decode cX7_odds 76 = .ok (.iload 5, 2) := by decide +kernel
theorem dX7_odds_78 : decode cX7_odds 78 = .ok (.iload_n 2, 1) := by decide +kernel
theorem dX7_odds_79 : decode cX7_odds 79 = .ok (.iload 6, 2) := by decide +kernel
theorem dX7_odds_81 : decode cX7_odds 81 = .ok (.invokevirtual 281, 3) := by decide +kernel
theorem dX7_odds_84 : decode cX7_odds 84 = .ok (.ifCond .eq 6, 3) := by decide +kernel
theorem dX7_odds_87 : decode cX7_odds 87 = .ok (.iinc 4 1, 3) := by decide +kernel
theorem dX7_odds_90 : decode cX7_odds 90 = .ok (.iinc 6 1, 3) := by decide +kernel
theorem dX7_odds_93 : decode cX7_odds 93 = .ok (.goto (-30), 3) := by decide +kernel
theorem dX7_odds_96 : decode cX7_odds 96 = .ok (.iinc 5 1, 3) := by decide +kernel
theorem dX7_odds_99 : decode cX7_odds 99 = .ok (.goto (-50), 3) := by decide +kernel
theorem dX7_odds_102 : decode cX7_odds 102 = .ok (.aload_n 0, 1) := by decide +kernel
theorem dX7_odds_103 : decode cX7_odds 103 = .ok (.iload 4, 2) := by decide +kernel
theorem dX7_odds_105 : decode cX7_odds 105 = .ok (.i2l, 1) := by decide +kernel
theorem dX7_odds_106 : decode cX7_odds 106 = .ok (.aload_n 0, 1) := by decide +kernel
theorem dX7_odds_107 : decode cX7_odds 107 = .ok (.getfield 15, 3) := by decide +kernel
theorem dX7_odds_110 : decode cX7_odds 110 = .ok (.iload_n 1, 1) := by decide +kernel
theorem dX7_odds_111 : decode cX7_odds 111 = .ok (.iaload, 1) := by decide +kernel
theorem dX7_odds_112 : decode cX7_odds 112 = .ok (.aload_n 0, 1) := by decide +kernel
theorem dX7_odds_113 : decode cX7_odds 113 = .ok (.getfield 15, 3) := by decide +kernel
theorem dX7_odds_116 : decode cX7_odds 116 = .ok (.iload_n 2, 1) := by decide +kernel
theorem dX7_odds_117 : decode cX7_odds 117 = .ok (.iaload, 1) := by decide +kernel
theorem dX7_odds_118 : decode cX7_odds 118 = .ok (.imul, 1) := by decide +kernel
theorem dX7_odds_119 : decode cX7_odds 119 = .ok (.i2l, 1) := by decide +kernel
theorem dX7_odds_120 : decode cX7_odds 120 = .ok (.invokevirtual 116, 3) := by decide +kernel
theorem dX7_odds_123 : decode cX7_odds 123 = .ok (.aload_n 0, 1) := by decide +kernel
theorem dX7_odds_124 : decode cX7_odds 124 = .ok (.iload_n 3, 1) := by decide +kernel
theorem dX7_odds_125 : decode cX7_odds 125 = .ok (.invokevirtual 248, 3) := by decide +kernel
theorem dX7_odds_128 : decode cX7_odds 128 = .ok (.lreturn, 1) := by decide +kernel
theorem dX7_mean_0 : decode cX7_mean 0 = .ok (.iload_n 1, 1) := by decide +kernel
theorem dX7_mean_1 : decode cX7_mean 1 = .ok (.invokestatic 245, 3) := by decide +kernel
theorem dX7_mean_4 : decode cX7_mean 4 = .ok (.ifCond .ne 7, 3) := by decide +kernel
theorem dX7_mean_7 : decode cX7_mean 7 = .ok (.ldc2_w 243, 3) := by decide +kernel
theorem dX7_mean_10 : decode cX7_mean 10 = .ok (.lreturn, 1) := by decide +kernel
theorem dX7_mean_11 : decode cX7_mean 11 = .ok (.lconst 0, 1) := by decide +kernel
theorem dX7_mean_12 : decode cX7_mean 12 = .ok (.lstore_n 2, 1) := by decide +kernel
theorem dX7_mean_13 : decode cX7_mean 13 = .ok (.lconst 1, 1) := by decide +kernel
theorem dX7_mean_14 : decode cX7_mean 14 = .ok (.lstore 4, 2) := by decide +kernel
theorem dX7_mean_16 : decode cX7_mean 16 = .ok (.iconst 0, 1) := by decide +kernel
theorem dX7_mean_17 : decode cX7_mean 17 = .ok (.istore 6, 2) := by decide +kernel
theorem dX7_mean_19 : decode cX7_mean 19 = .ok (.iconst 0, 1) := by decide +kernel
theorem dX7_mean_20 : decode cX7_mean 20 = .ok (.istore 7, 2) := by decide +kernel
theorem dX7_mean_22 : decode cX7_mean 22 = .ok (.iload 7, 2) := by decide +kernel
theorem dX7_mean_24 : decode cX7_mean 24 = .ok (.bipush 6, 2) := by decide +kernel
theorem dX7_mean_26 : decode cX7_mean 26 = .ok (.if_icmp .ge 53, 3) := by decide +kernel
theorem dX7_mean_29 : decode cX7_mean 29 = .ok (.aload_n 0, 1) := by decide +kernel
theorem dX7_mean_30 : decode cX7_mean 30 = .ok (.iload 7, 2) := by decide +kernel
theorem dX7_mean_32 : decode cX7_mean 32 = .ok (.invokevirtual 240, 3) := by decide +kernel
theorem dX7_mean_35 : decode cX7_mean 35 = .ok (.ifCond .ne 6, 3) := by decide +kernel
theorem dX7_mean_38 : decode cX7_mean 38 = .ok (.goto 35, 3) := by decide +kernel
theorem dX7_mean_41 : decode cX7_mean 41 = .ok (.iinc 6 1, 3) := by decide +kernel
theorem dX7_mean_44 : decode cX7_mean 44 = .ok (.aload_n 0, 1) := by decide +kernel
theorem dX7_mean_45 : decode cX7_mean 45 = .ok (.lload_n 2, 1) := by decide +kernel
theorem dX7_mean_46 : decode cX7_mean 46 = .ok (.lload 4, 2) := by decide +kernel
theorem dX7_mean_48 : decode cX7_mean 48 = .ok (.invokevirtual 120, 3) := by decide +kernel
theorem dX7_mean_51 : decode cX7_mean 51 = .ok (.aload_n 0, 1) := by decide +kernel
theorem dX7_mean_52 : decode cX7_mean 52 = .ok (.invokevirtual 112, 3) := by decide +kernel
theorem dX7_mean_55 : decode cX7_mean 55 = .ok (.ifCond .ne 7, 3) := by decide +kernel
theorem dX7_mean_58 : decode cX7_mean 58 = .ok (.ldc2_w 243, 3) := by decide +kernel
theorem dX7_mean_61 : decode cX7_mean 61 = .ok (.lreturn, 1) := by decide +kernel
theorem dX7_mean_62 : decode cX7_mean 62 = .ok (.aload_n 0, 1) := by decide +kernel
theorem dX7_mean_63 : decode cX7_mean 63 = .ok (.getfield 103, 3) := by decide +kernel
theorem dX7_mean_66 : decode cX7_mean 66 = .ok (.lstore_n 2, 1) := by decide +kernel
theorem dX7_mean_67 : decode cX7_mean 67 = .ok (.aload_n 0, 1) := by decide +kernel
theorem dX7_mean_68 : decode cX7_mean 68 = .ok (.getfield 107, 3) := by decide +kernel
theorem dX7_mean_71 : decode cX7_mean 71 = .ok (.lstore 4, 2) := by decide +kernel
theorem dX7_mean_73 : decode cX7_mean 73 = .ok (.iinc 7 1, 3) := by decide +kernel
theorem dX7_mean_76 : decode cX7_mean 76 = .ok (.goto (-54), 3) := by decide +kernel
theorem dX7_mean_79 : decode cX7_mean 79 = .ok (.iload 6, 2) := by decide +kernel
theorem dX7_mean_81 : decode cX7_mean 81 = .ok (.ifCond .ne 7, 3) := by decide +kernel
theorem dX7_mean_84 : decode cX7_mean 84 = .ok (.ldc2_w 243, 3) := by decide +kernel
theorem dX7_mean_87 : decode cX7_mean 87 = .ok (.lreturn, 1) := by decide +kernel
theorem dX7_mean_88 : decode cX7_mean 88 = .ok (.aload_n 0, 1) := by decide +kernel
theorem dX7_mean_89 : decode cX7_mean 89 = .ok (.lload_n 2, 1) := by decide +kernel
theorem dX7_mean_90 : decode cX7_mean 90 = .ok (.lload 4, 2) := by decide +kernel
theorem dX7_mean_92 : decode cX7_mean 92 = .ok (.iload 6, 2) := by decide +kernel
theorem dX7_mean_94 : decode cX7_mean 94 = .ok (.i2l, 1) := by decide +kernel
theorem dX7_mean_95 : decode cX7_mean 95 = .ok (.lmul, 1) := by decide +kernel
theorem dX7_mean_96 : decode cX7_mean 96 = .ok (.invokevirtual 116, 3) := by decide +kernel
theorem dX7_mean_99 : decode cX7_mean 99 = .ok (.aload_n 0, 1) := by decide +kernel
theorem dX7_mean_100 : decode cX7_mean 100 = .ok (.iload_n 1, 1) := by decide +kernel
theorem dX7_mean_101 : decode cX7_mean 101 = .ok (.invokevirtual 248, 3) := by decide +kernel
theorem dX7_mean_104 : decode cX7_mean 104 = .ok (.lreturn, 1) := by decide +kernel
theorem dX7_event_0 : decode cX7_event 0 = .ok (.iload_n 1, 1) := by decide +kernel
theorem dX7_event_1 : decode cX7_event 1 = .ok (.iconst (-1), 1) := by decide +kernel
theorem dX7_event_2 : decode cX7_event 2 = .ok (.if_icmp .ne 10, 3) := by decide +kernel
theorem dX7_event_5 : decode cX7_event 5 = .ok (.aload_n 0, 1) := by decide +kernel
theorem dX7_event_6 : decode cX7_event 6 = .ok (.iconst 0, 1) := by decide +kernel
theorem dX7_event_7 : decode cX7_event 7 = .ok (.putfield 285, 3) := by decide +kernel
theorem dX7_event_10 : decode cX7_event 10 = .ok (.iconst 0, 1) := by decide +kernel
theorem dX7_event_11 : decode cX7_event 11 = .ok (.ireturn, 1) := by decide +kernel
theorem dX7_event_12 : decode cX7_event 12 = .ok (.iload_n 1, 1) := by decide +kernel
theorem dX7_event_13 : decode cX7_event 13 = .ok (.iconst 0, 1) := by decide +kernel
theorem dX7_event_14 : decode cX7_event 14 = .ok (.iconst 2, 1) := by decide +kernel
theorem dX7_event_15 : decode cX7_event 15 = .ok (.invokestatic 89, 3) := by decide +kernel
theorem dX7_event_18 : decode cX7_event 18 = .ok (.ifCond .eq 10, 3) := by decide +kernel
theorem dX7_event_21 : decode cX7_event 21 = .ok (.iload_n 2, 1) := by decide +kernel
theorem dX7_event_22 : decode cX7_event 22 = .ok (.invokestatic 135, 3) := by decide +kernel
theorem dX7_event_25 : decode cX7_event 25 = .ok (.ifCond .ne 5, 3) := by decide +kernel
theorem dX7_event_28 : decode cX7_event 28 = .ok (.iconst (-1), 1) := by decide +kernel
theorem dX7_event_29 : decode cX7_event 29 = .ok (.ireturn, 1) := by decide +kernel
theorem dX7_event_30 : decode cX7_event 30 = .ok (.aload_n 0, 1) := by decide +kernel
theorem dX7_event_31 : decode cX7_event 31 = .ok (.getfield 285, 3) := by decide +kernel
theorem dX7_event_34 : decode cX7_event 34 = .ok (.bipush 8, 2) := by decide +kernel
theorem dX7_event_36 : decode cX7_event 36 = .ok (.if_icmp .ne 6, 3) := by decide +kernel
theorem dX7_event_39 : decode cX7_event 39 = .ok (.bipush (-4), 2) := by decide +kernel
theorem dX7_event_41 : decode cX7_event 41 = .ok (.ireturn, 1) := by decide +kernel
theorem dX7_event_42 : decode cX7_event 42 = .ok (.aload_n 0, 1) := by decide +kernel
theorem dX7_event_43 : decode cX7_event 43 = .ok (.getfield 48, 3) := by decide +kernel
theorem dX7_event_46 : decode cX7_event 46 = .ok (.aload_n 0, 1) := by decide +kernel
theorem dX7_event_47 : decode cX7_event 47 = .ok (.getfield 285, 3) := by decide +kernel
theorem dX7_event_50 : decode cX7_event 50 = .ok (.iload_n 1, 1) := by decide +kernel
theorem dX7_event_51 : decode cX7_event 51 = .ok (.iastore, 1) := by decide +kernel
theorem dX7_event_52 : decode cX7_event 52 = .ok (.aload_n 0, 1) := by decide +kernel
theorem dX7_event_53 : decode cX7_event 53 = .ok (.getfield 51, 3) := by decide +kernel
theorem dX7_event_56 : decode cX7_event 56 = .ok (.aload_n 0, 1) := by decide +kernel
theorem dX7_event_57 : decode cX7_event 57 = .ok (.getfield 285, 3) := by decide +kernel
theorem dX7_event_60 : decode cX7_event 60 = .ok (.iload_n 2, 1) := by decide +kernel
theorem dX7_event_61 : decode cX7_event 61 = .ok (.iastore, 1) := by decide +kernel
theorem dX7_event_62 : decode cX7_event 62 = .ok (.aload_n 0, 1) := by decide +kernel
theorem dX7_event_63 : decode cX7_event 63 = .ok (.dup, 1) := by decide +kernel
theorem dX7_event_64 : decode cX7_event 64 = .ok (.getfield 285, 3) := by decide +kernel
theorem dX7_event_67 : decode cX7_event 67 = .ok (.iconst 1, 1) := by decide +kernel
theorem dX7_event_68 : decode cX7_event 68 = .ok (.iadd, 1) := by decide +kernel
theorem dX7_event_69 : decode cX7_event 69 = .ok (.putfield 285, 3) := by decide +kernel
theorem dX7_event_72 : decode cX7_event 72 = .ok (.aload_n 0, 1) := by decide +kernel
theorem dX7_event_73 : decode cX7_event 73 = .ok (.getfield 285, 3) := by decide +kernel
theorem dX7_event_76 : decode cX7_event 76 = .ok (.ireturn, 1) := by decide +kernel
theorem dX7_happens_0 : decode cX7_happens 0 = .ok (.iload_n 1, 1) := by decide +kernel
theorem dX7_happens_1 : decode cX7_happens 1 = .ok (.lookupswitch 92 #[(0, 27), (1, 48)], 27) := by decide +kernel
theorem dX7_happens_28 : decode cX7_happens 28 = .ok (.aload_n 0, 1) := by decide +kernel
theorem dX7_happens_29 : decode cX7_happens 29 = .ok (.getfield 15, 3) := by decide +kernel
theorem dX7_happens_32 : decode cX7_happens 32 = .ok (.iload_n 2, 1) := by decide +kernel
theorem dX7_happens_33 : decode cX7_happens 33 = .ok (.iconst 0, 1) := by decide +kernel
theorem dX7_happens_34 : decode cX7_happens 34 = .ok (.aload_n 0, 1) := by decide +kernel
theorem dX7_happens_35 : decode cX7_happens 35 = .ok (.getfield 15, 3) := by decide +kernel
theorem dX7_happens_38 : decode cX7_happens 38 = .ok (.iload_n 2, 1) := by decide +kernel
theorem dX7_happens_39 : decode cX7_happens 39 = .ok (.iaload, 1) := by decide +kernel
theorem dX7_happens_40 : decode cX7_happens 40 = .ok (.iconst 1, 1) := by decide +kernel
theorem dX7_happens_41 : decode cX7_happens 41 = .ok (.isub, 1) := by decide +kernel
theorem dX7_happens_42 : decode cX7_happens 42 = .ok (.invokestatic 288, 3) := by decide +kernel
theorem dX7_happens_45 : decode cX7_happens 45 = .ok (.iastore, 1) := by decide +kernel
theorem dX7_happens_46 : decode cX7_happens 46 = .ok (.goto 63, 3) := by decide +kernel
theorem dX7_happens_49 : decode cX7_happens 49 = .ok (.iconst 0, 1) := by decide +kernel
theorem dX7_happens_50 : decode cX7_happens 50 = .ok (.istore_n 3, 1) := by decide +kernel
theorem dX7_happens_51 : decode cX7_happens 51 = .ok (.iload_n 3, 1) := by decide +kernel
theorem dX7_happens_52 : decode cX7_happens 52 = .ok (.aload_n 0, 1) := by decide +kernel
theorem dX7_happens_53 : decode cX7_happens 53 = .ok (.getfield 15, 3) := by decide +kernel
theorem dX7_happens_56 : decode cX7_happens 56 = .ok (.iload_n 2, 1) := by decide +kernel
theorem dX7_happens_57 : decode cX7_happens 57 = .ok (.iaload, 1) := by decide +kernel
theorem dX7_happens_58 : decode cX7_happens 58 = .ok (.if_icmp .ge 32, 3) := by decide +kernel
theorem dX7_happens_61 : decode cX7_happens 61 = .ok (.aload_n 0, 1) := by decide +kernel
theorem dX7_happens_62 : decode cX7_happens 62 = .ok (.getfield 20, 3) := by decide +kernel
theorem dX7_happens_65 : decode cX7_happens 65 = .ok (.iload_n 2, 1) := by decide +kernel
theorem dX7_happens_66 : decode cX7_happens 66 = .ok (.aaload, 1) := by decide +kernel
theorem dX7_happens_67 : decode cX7_happens 67 = .ok (.iload_n 3, 1) := by decide +kernel
theorem dX7_happens_68 : decode cX7_happens 68 = .ok (.ldc 147, 2) := by decide +kernel
theorem dX7_happens_70 : decode cX7_happens 70 = .ok (.aload_n 0, 1) := by decide +kernel
theorem dX7_happens_71 : decode cX7_happens 71 = .ok (.getfield 20, 3) := by decide +kernel
theorem dX7_happens_74 : decode cX7_happens 74 = .ok (.iload_n 2, 1) := by decide +kernel
theorem dX7_happens_75 : decode cX7_happens 75 = .ok (.aaload, 1) := by decide +kernel
theorem dX7_happens_76 : decode cX7_happens 76 = .ok (.iload_n 3, 1) := by decide +kernel
theorem dX7_happens_77 : decode cX7_happens 77 = .ok (.iaload, 1) := by decide +kernel
theorem dX7_happens_78 : decode cX7_happens 78 = .ok (.iconst 1, 1) := by decide +kernel
theorem dX7_happens_79 : decode cX7_happens 79 = .ok (.iadd, 1) := by decide +kernel
theorem dX7_happens_80 : decode cX7_happens 80 = .ok (.invokestatic 291, 3) := by decide +kernel
theorem dX7_happens_83 : decode cX7_happens 83 = .ok (.iastore, 1) := by decide +kernel
theorem dX7_happens_84 : decode cX7_happens 84 = .ok (.iinc 3 1, 3) := by decide +kernel
theorem dX7_happens_87 : decode cX7_happens 87 = .ok (.goto (-36), 3) := by decide +kernel
theorem dX7_happens_90 : decode cX7_happens 90 = .ok (.goto 19, 3) := by decide +kernel
theorem dX7_happens_93 : decode cX7_happens 93 = .ok (.aload_n 0, 1) := by decide +kernel
theorem dX7_happens_94 : decode cX7_happens 94 = .ok (.getfield 11, 3) := by decide +kernel
theorem dX7_happens_97 : decode cX7_happens 97 = .ok (.iload_n 2, 1) := by decide +kernel
theorem dX7_happens_98 : decode cX7_happens 98 = .ok (.aload_n 0, 1) := by decide +kernel
theorem dX7_happens_99 : decode cX7_happens 99 = .ok (.getfield 11, 3) := by decide +kernel
theorem dX7_happens_102 : decode cX7_happens 102 = .ok (.iload_n 2, 1) := by decide +kernel
theorem dX7_happens_103 : decode cX7_happens 103 = .ok (.iaload, 1) := by decide +kernel
theorem dX7_happens_104 : decode cX7_happens 104 = .ok (.iconst 1, 1) := by decide +kernel
theorem dX7_happens_105 : decode cX7_happens 105 = .ok (.iadd, 1) := by decide +kernel
theorem dX7_happens_106 : decode cX7_happens 106 = .ok (.iconst 4, 1) := by decide +kernel
theorem dX7_happens_107 : decode cX7_happens 107 = .ok (.irem, 1) := by decide +kernel
theorem dX7_happens_108 : decode cX7_happens 108 = .ok (.iastore, 1) := by decide +kernel
theorem dX7_happens_109 : decode cX7_happens 109 = .ok (.return_, 1) := by decide +kernel
theorem dX7_after_0 : decode cX7_after 0 = .ok (.iload_n 1, 1) := by decide +kernel
theorem dX7_after_1 : decode cX7_after 1 = .ok (.invokestatic 135, 3) := by decide +kernel
theorem dX7_after_4 : decode cX7_after 4 = .ok (.ifCond .eq 12, 3) := by decide +kernel
theorem dX7_after_7 : decode cX7_after 7 = .ok (.iload_n 2, 1) := by decide +kernel
theorem dX7_after_8 : decode cX7_after 8 = .ok (.iconst 0, 1) := by decide +kernel
theorem dX7_after_9 : decode cX7_after 9 = .ok (.iconst 2, 1) := by decide +kernel
theorem dX7_after_10 : decode cX7_after 10 = .ok (.invokestatic 89, 3) := by decide +kernel
theorem dX7_after_13 : decode cX7_after 13 = .ok (.ifCond .ne 5, 3) := by decide +kernel
theorem dX7_after_16 : decode cX7_after 16 = .ok (.iconst (-1), 1) := by decide +kernel
theorem dX7_after_17 : decode cX7_after 17 = .ok (.ireturn, 1) := by decide +kernel
theorem dX7_after_18 : decode cX7_after 18 = .ok (.aload_n 0, 1) := by decide +kernel
theorem dX7_after_19 : decode cX7_after 19 = .ok (.getfield 11, 3) := by decide +kernel
theorem dX7_after_22 : decode cX7_after 22 = .ok (.iload_n 1, 1) := by decide +kernel
theorem dX7_after_23 : decode cX7_after 23 = .ok (.iaload, 1) := by decide +kernel
theorem dX7_after_24 : decode cX7_after 24 = .ok (.istore_n 3, 1) := by decide +kernel
theorem dX7_after_25 : decode cX7_after 25 = .ok (.aload_n 0, 1) := by decide +kernel
theorem dX7_after_26 : decode cX7_after 26 = .ok (.getfield 15, 3) := by decide +kernel
theorem dX7_after_29 : decode cX7_after 29 = .ok (.iload_n 1, 1) := by decide +kernel
theorem dX7_after_30 : decode cX7_after 30 = .ok (.iaload, 1) := by decide +kernel
theorem dX7_after_31 : decode cX7_after 31 = .ok (.istore 4, 2) := by decide +kernel
theorem dX7_after_33 : decode cX7_after 33 = .ok (.aload_n 0, 1) := by decide +kernel
theorem dX7_after_34 : decode cX7_after 34 = .ok (.getfield 20, 3) := by decide +kernel
theorem dX7_after_37 : decode cX7_after 37 = .ok (.iload_n 1, 1) := by decide +kernel
theorem dX7_after_38 : decode cX7_after 38 = .ok (.aaload, 1) := by decide +kernel
theorem dX7_after_39 : decode cX7_after 39 = .ok (.iconst 0, 1) := by decide +kernel
theorem dX7_after_40 : decode cX7_after 40 = .ok (.aload_n 0, 1) := by decide +kernel
theorem dX7_after_41 : decode cX7_after 41 = .ok (.getfield 54, 3) := by decide +kernel
theorem dX7_after_44 : decode cX7_after 44 = .ok (.iconst 0, 1) := by decide +kernel
theorem dX7_after_45 : decode cX7_after 45 = .ok (.bipush 16, 2) := by decide +kernel
theorem dX7_after_47 : decode cX7_after 47 = .ok (.invokestatic 148, 3) := by decide +kernel
theorem dX7_after_50 : decode cX7_after 50 = .ok (.iconst 0, 1) := by decide +kernel
theorem dX7_after_51 : decode cX7_after 51 = .ok (.istore 5, 2) := by decide +kernel
theorem dX7_after_53 : decode cX7_after 53 = .ok (.iload 5, 2) := by decide +kernel
theorem dX7_after_55 : decode cX7_after 55 = .ok (.aload_n 0, 1) := by decide +kernel
theorem dX7_after_56 : decode cX7_after 56 = .ok (.getfield 285, 3) := by decide +kernel
theorem dX7_after_59 : decode cX7_after 59 = .ok (.if_icmp .ge 32, 3) := by decide +kernel
theorem dX7_after_62 : decode cX7_after 62 = .ok (.aload_n 0, 1) := by decide +kernel
theorem dX7_after_63 : decode cX7_after 63 = .ok (.getfield 51, 3) := by decide +kernel
theorem dX7_after_66 : decode cX7_after 66 = .ok (.iload 5, 2) := by decide +kernel
theorem dX7_after_68 : decode cX7_after 68 = .ok (.iaload, 1) := by decide +kernel
theorem dX7_after_69 : decode cX7_after 69 = .ok (.iload_n 1, 1) := by decide +kernel
theorem dX7_after_70 : decode cX7_after 70 = .ok (.if_icmp .ne 15, 3) := by decide +kernel
theorem dX7_after_73 : decode cX7_after 73 = .ok (.aload_n 0, 1) := by decide +kernel
theorem dX7_after_74 : decode cX7_after 74 = .ok (.aload_n 0, 1) := by decide +kernel
theorem dX7_after_75 : decode cX7_after 75 = .ok (.getfield 48, 3) := by decide +kernel
theorem dX7_after_78 : decode cX7_after 78 = .ok (.iload 5, 2) := by decide +kernel
theorem dX7_after_80 : decode cX7_after 80 = .ok (.iaload, 1) := by decide +kernel
theorem dX7_after_81 : decode cX7_after 81 = .ok (.iload_n 1, 1) := by decide +kernel
theorem dX7_after_82 : decode cX7_after 82 = .ok (.invokevirtual 294, 3) := by decide +kernel
theorem dX7_after_85 : decode cX7_after 85 = .ok (.iinc 5 1, 3) := by decide +kernel
theorem dX7_after_88 : decode cX7_after 88 = .ok (.goto (-35), 3) := by decide +kernel
theorem dX7_after_91 : decode cX7_after 91 = .ok (.iload_n 2, 1) := by decide +kernel
theorem dX7_after_92 : decode cX7_after 92 = .ok (.ifCond .ne 12, 3) := by decide +kernel
theorem dX7_after_95 : decode cX7_after 95 = .ok (.aload_n 0, 1) := by decide +kernel
theorem dX7_after_96 : decode cX7_after 96 = .ok (.getfield 15, 3) := by decide +kernel
theorem dX7_after_99 : decode cX7_after 99 = .ok (.iload_n 1, 1) := by decide +kernel
theorem dX7_after_100 : decode cX7_after 100 = .ok (.iaload, 1) := by decide +kernel
theorem dX7_after_101 : decode cX7_after 101 = .ok (.goto 22, 3) := by decide +kernel
theorem dX7_after_104 : decode cX7_after 104 = .ok (.iload_n 2, 1) := by decide +kernel
theorem dX7_after_105 : decode cX7_after 105 = .ok (.iconst 1, 1) := by decide +kernel
theorem dX7_after_106 : decode cX7_after 106 = .ok (.if_icmp .ne 11, 3) := by decide +kernel
theorem dX7_after_109 : decode cX7_after 109 = .ok (.aload_n 0, 1) := by decide +kernel
theorem dX7_after_110 : decode cX7_after 110 = .ok (.iload_n 1, 1) := by decide +kernel
theorem dX7_after_111 : decode cX7_after 111 = .ok (.invokevirtual 237, 3) := by decide +kernel
theorem dX7_after_114 : decode cX7_after 114 = .ok (.goto 9, 3) := by decide +kernel
theorem dX7_after_117 : decode cX7_after 117 = .ok (.aload_n 0, 1) := by decide +kernel
theorem dX7_after_118 : decode cX7_after 118 = .ok (.getfield 11, 3) := by decide +kernel
theorem dX7_after_121 : decode cX7_after 121 = .ok (.iload_n 1, 1) := by decide +kernel
theorem dX7_after_122 : decode cX7_after 122 = .ok (.iaload, 1) := by decide +kernel
theorem dX7_after_123 : decode cX7_after 123 = .ok (.istore 5, 2) := by decide +kernel
theorem dX7_after_125 : decode cX7_after 125 = .ok (.aload_n 0, 1) := by decide +kernel
theorem dX7_after_126 : decode cX7_after 126 = .ok (.getfield 11, 3) := by decide +kernel
theorem dX7_after_129 : decode cX7_after 129 = .ok (.iload_n 1, 1) := by decide +kernel
theorem dX7_after_130 : decode cX7_after 130 = .ok (.iload_n 3, 1) := by decide +kernel
theorem dX7_after_131 : decode cX7_after 131 = .ok (.iastore, 1) := by decide +kernel
theorem dX7_after_132 : decode cX7_after 132 = .ok (.aload_n 0, 1) := by decide +kernel
theorem dX7_after_133 : decode cX7_after 133 = .ok (.getfield 15, 3) := by decide +kernel
theorem dX7_after_136 : decode cX7_after 136 = .ok (.iload_n 1, 1) := by decide +kernel
theorem dX7_after_137 : decode cX7_after 137 = .ok (.iload 4, 2) := by decide +kernel
theorem dX7_after_139 : decode cX7_after 139 = .ok (.iastore, 1) := by decide +kernel
theorem dX7_after_140 : decode cX7_after 140 = .ok (.aload_n 0, 1) := by decide +kernel
theorem dX7_after_141 : decode cX7_after 141 = .ok (.getfield 54, 3) := by decide +kernel
theorem dX7_after_144 : decode cX7_after 144 = .ok (.iconst 0, 1) := by decide +kernel
theorem dX7_after_145 : decode cX7_after 145 = .ok (.aload_n 0, 1) := by decide +kernel
theorem dX7_after_146 : decode cX7_after 146 = .ok (.getfield 20, 3) := by decide +kernel
theorem dX7_after_149 : decode cX7_after 149 = .ok (.iload_n 1, 1) := by decide +kernel
theorem dX7_after_150 : decode cX7_after 150 = .ok (.aaload, 1) := by decide +kernel
theorem dX7_after_151 : decode cX7_after 151 = .ok (.iconst 0, 1) := by decide +kernel
theorem dX7_after_152 : decode cX7_after 152 = .ok (.bipush 16, 2) := by decide +kernel
theorem dX7_after_154 : decode cX7_after 154 = .ok (.invokestatic 148, 3) := by decide +kernel
theorem dX7_after_157 : decode cX7_after 157 = .ok (.iload 5, 2) := by decide +kernel
theorem dX7_after_159 : decode cX7_after 159 = .ok (.ireturn, 1) := by decide +kernel
theorem dX7_isSpot_0 : decode cX7_isSpot 0 = .ok (.iload_n 1, 1) := by decide +kernel
theorem dX7_isSpot_1 : decode cX7_isSpot 1 = .ok (.ifCond .lt 33, 3) := by decide +kernel
theorem dX7_isSpot_4 : decode cX7_isSpot 4 = .ok (.iload_n 1, 1) := by decide +kernel
theorem dX7_isSpot_5 : decode cX7_isSpot 5 = .ok (.bipush 100, 2) := by decide +kernel
theorem dX7_isSpot_7 : decode cX7_isSpot 7 = .ok (.idiv, 1) := by decide +kernel
theorem dX7_isSpot_8 : decode cX7_isSpot 8 = .ok (.invokestatic 135, 3) := by decide +kernel
theorem dX7_isSpot_11 : decode cX7_isSpot 11 = .ok (.ifCond .eq 23, 3) := by decide +kernel
theorem dX7_isSpot_14 : decode cX7_isSpot 14 = .ok (.iload_n 1, 1) := by decide +kernel
theorem dX7_isSpot_15 : decode cX7_isSpot 15 = .ok (.bipush 100, 2) := by decide +kernel
theorem dX7_isSpot_17 : decode cX7_isSpot 17 = .ok (.irem, 1) := by decide +kernel
theorem dX7_isSpot_18 : decode cX7_isSpot 18 = .ok (.aload_n 0, 1) := by decide +kernel
theorem dX7_isSpot_19 : decode cX7_isSpot 19 = .ok (.getfield 15, 3) := by decide +kernel
theorem dX7_isSpot_22 : decode cX7_isSpot 22 = .ok (.iload_n 1, 1) := by decide +kernel
theorem dX7_isSpot_23 : decode cX7_isSpot 23 = .ok (.bipush 100, 2) := by decide +kernel
theorem dX7_isSpot_25 : decode cX7_isSpot 25 = .ok (.idiv, 1) := by decide +kernel
theorem dX7_isSpot_26 : decode cX7_isSpot 26 = .ok (.iaload, 1) := by decide +kernel
theorem dX7_isSpot_27 : decode cX7_isSpot 27 = .ok (.if_icmp .ge 7, 3) := by decide +kernel
theorem dX7_isSpot_30 : decode cX7_isSpot 30 = .ok (.iconst 1, 1) := by decide +kernel
theorem dX7_isSpot_31 : decode cX7_isSpot 31 = .ok (.goto 4, 3) := by decide +kernel
theorem dX7_isSpot_34 : decode cX7_isSpot 34 = .ok (.iconst 0, 1) := by decide +kernel
theorem dX7_isSpot_35 : decode cX7_isSpot 35 = .ok (.ireturn, 1) := by decide +kernel
theorem dX7_book_0 : decode cX7_book 0 = .ok (.iload_n 1, 1) := by decide +kernel
theorem dX7_book_1 : decode cX7_book 1 = .ok (.iconst (-1), 1) := by decide +kernel
theorem dX7_book_2 : decode cX7_book 2 = .ok (.if_icmp .ne 10, 3) := by decide +kernel
theorem dX7_book_5 : decode cX7_book 5 = .ok (.aload_n 0, 1) := by decide +kernel
theorem dX7_book_6 : decode cX7_book 6 = .ok (.iconst 0, 1) := by decide +kernel
theorem dX7_book_7 : decode cX7_book 7 = .ok (.putfield 297, 3) := by decide +kernel
theorem dX7_book_10 : decode cX7_book 10 = .ok (.iconst 0, 1) := by decide +kernel
theorem dX7_book_11 : decode cX7_book 11 = .ok (.ireturn, 1) := by decide +kernel
theorem dX7_book_12 : decode cX7_book 12 = .ok (.aload_n 0, 1) := by decide +kernel
theorem dX7_book_13 : decode cX7_book 13 = .ok (.iload_n 1, 1) := by decide +kernel
theorem dX7_book_14 : decode cX7_book 14 = .ok (.invokevirtual 300, 3) := by decide +kernel
theorem dX7_book_17 : decode cX7_book 17 = .ok (.ifCond .ne 5, 3) := by decide +kernel
theorem dX7_book_20 : decode cX7_book 20 = .ok (.iconst (-1), 1) := by decide +kernel
theorem dX7_book_21 : decode cX7_book 21 = .ok (.ireturn, 1) := by decide +kernel
theorem dX7_book_22 : decode cX7_book 22 = .ok (.iload_n 2, 1) := by decide +kernel
theorem dX7_book_23 : decode cX7_book 23 = .ok (.iconst 0, 1) := by decide +kernel
theorem dX7_book_24 : decode cX7_book 24 = .ok (.ldc 147, 2) := by decide +kernel
theorem dX7_book_26 : decode cX7_book 26 = .ok (.invokestatic 89, 3) := by decide +kernel
theorem dX7_book_29 : decode cX7_book 29 = .ok (.ifCond .ne 6, 3) := by decide +kernel
theorem dX7_book_32 : decode cX7_book 32 = .ok (.bipush (-2), 2) := by decide +kernel
theorem dX7_book_34 : decode cX7_book 34 = .ok (.ireturn, 1) := by decide +kernel
theorem dX7_book_35 : decode cX7_book 35 = .ok (.aload_n 0, 1) := by decide +kernel
theorem dX7_book_36 : decode cX7_book 36 = .ok (.getfield 297, 3) := by decide +kernel
theorem dX7_book_39 : decode cX7_book 39 = .ok (.bipush 8, 2) := by decide +kernel
theorem dX7_book_41 : decode cX7_book 41 = .ok (.if_icmp .ne 6, 3) := by decide +kernel
theorem dX7_book_44 : decode cX7_book 44 = .ok (.bipush (-4), 2) := by decide +kernel
theorem dX7_book_46 : decode cX7_book 46 = .ok (.ireturn, 1) := by decide +kernel
theorem dX7_book_47 : decode cX7_book 47 = .ok (.aload_n 0, 1) := by decide +kernel
theorem dX7_book_48 : decode cX7_book 48 = .ok (.getfield 57, 3) := by decide +kernel
theorem dX7_book_51 : decode cX7_book 51 = .ok (.aload_n 0, 1) := by decide +kernel
theorem dX7_book_52 : decode cX7_book 52 = .ok (.getfield 297, 3) := by decide +kernel
theorem dX7_book_55 : decode cX7_book 55 = .ok (.iload_n 1, 1) := by decide +kernel
theorem dX7_book_56 : decode cX7_book 56 = .ok (.iastore, 1) := by decide +kernel
theorem dX7_book_57 : decode cX7_book 57 = .ok (.aload_n 0, 1) := by decide +kernel
theorem dX7_book_58 : decode cX7_book 58 = .ok (.getfield 60, 3) := by decide +kernel
theorem dX7_book_61 : decode cX7_book 61 = .ok (.aload_n 0, 1) := by decide +kernel
theorem dX7_book_62 : decode cX7_book 62 = .ok (.getfield 297, 3) := by decide +kernel
theorem dX7_book_65 : decode cX7_book 65 = .ok (.iload_n 2, 1) := by decide +kernel
theorem dX7_book_66 : decode cX7_book 66 = .ok (.iastore, 1) := by decide +kernel
theorem dX7_book_67 : decode cX7_book 67 = .ok (.aload_n 0, 1) := by decide +kernel
theorem dX7_book_68 : decode cX7_book 68 = .ok (.dup, 1) := by decide +kernel
theorem dX7_book_69 : decode cX7_book 69 = .ok (.getfield 297, 3) := by decide +kernel
theorem dX7_book_72 : decode cX7_book 72 = .ok (.iconst 1, 1) := by decide +kernel
theorem dX7_book_73 : decode cX7_book 73 = .ok (.iadd, 1) := by decide +kernel
theorem dX7_book_74 : decode cX7_book 74 = .ok (.putfield 297, 3) := by decide +kernel
theorem dX7_book_77 : decode cX7_book 77 = .ok (.aload_n 0, 1) := by decide +kernel
theorem dX7_book_78 : decode cX7_book 78 = .ok (.getfield 297, 3) := by decide +kernel
theorem dX7_book_81 : decode cX7_book 81 = .ok (.ireturn, 1) := by decide +kernel
theorem dX7_looked_0 : decode cX7_looked 0 = .ok (.iconst 0, 1) := by decide +kernel
theorem dX7_looked_1 : decode cX7_looked 1 = .ok (.istore_n 1, 1) := by decide +kernel
theorem dX7_looked_2 : decode cX7_looked 2 = .ok (.iload_n 1, 1) := by decide +kernel
theorem dX7_looked_3 : decode cX7_looked 3 = .ok (.aload_n 0, 1) := by decide +kernel
theorem dX7_looked_4 : decode cX7_looked 4 = .ok (.getfield 297, 3) := by decide +kernel
theorem dX7_looked_7 : decode cX7_looked 7 = .ok (.if_icmp .ge 57, 3) := by decide +kernel
theorem dX7_looked_10 : decode cX7_looked 10 = .ok (.aload_n 0, 1) := by decide +kernel
theorem dX7_looked_11 : decode cX7_looked 11 = .ok (.aload_n 0, 1) := by decide +kernel
theorem dX7_looked_12 : decode cX7_looked 12 = .ok (.getfield 57, 3) := by decide +kernel
theorem dX7_looked_15 : decode cX7_looked 15 = .ok (.iload_n 1, 1) := by decide +kernel
theorem dX7_looked_16 : decode cX7_looked 16 = .ok (.iaload, 1) := by decide +kernel
theorem dX7_looked_17 : decode cX7_looked 17 = .ok (.invokevirtual 300, 3) := by decide +kernel
theorem dX7_looked_20 : decode cX7_looked 20 = .ok (.ifCond .eq 36, 3) := by decide +kernel
theorem dX7_looked_23 : decode cX7_looked 23 = .ok (.aload_n 0, 1) := by decide +kernel
theorem dX7_looked_24 : decode cX7_looked 24 = .ok (.getfield 20, 3) := by decide +kernel
theorem dX7_looked_27 : decode cX7_looked 27 = .ok (.aload_n 0, 1) := by decide +kernel
theorem dX7_looked_28 : decode cX7_looked 28 = .ok (.getfield 57, 3) := by decide +kernel
theorem dX7_looked_31 : decode cX7_looked 31 = .ok (.iload_n 1, 1) := by decide +kernel
theorem dX7_looked_32 : decode cX7_looked 32 = .ok (.iaload, 1) := by decide +kernel
theorem dX7_looked_33 : decode cX7_looked 33 = .ok (.bipush 100, 2) := by decide +kernel
theorem dX7_looked_35 : decode cX7_looked 35 = .ok (.idiv, 1) := by decide +kernel
theorem dX7_looked_36 : decode cX7_looked 36 = .ok (.aaload, 1) := by decide +kernel
theorem dX7_looked_37 : decode cX7_looked 37 = .ok (.aload_n 0, 1) := by decide +kernel
theorem dX7_looked_38 : decode cX7_looked 38 = .ok (.getfield 57, 3) := by decide +kernel
theorem dX7_looked_41 : decode cX7_looked 41 = .ok (.iload_n 1, 1) := by decide +kernel
theorem dX7_looked_42 : decode cX7_looked 42 = .ok (.iaload, 1) := by decide +kernel
theorem dX7_looked_43 : decode cX7_looked 43 = .ok (.bipush 100, 2) := by decide +kernel
theorem dX7_looked_45 : decode cX7_looked 45 = .ok (.irem, 1) := by decide +kernel
theorem dX7_looked_46 : decode cX7_looked 46 = .ok (.iaload, 1) := by decide +kernel
theorem dX7_looked_47 : decode cX7_looked 47 = .ok (.aload_n 0, 1) := by decide +kernel
theorem dX7_looked_48 : decode cX7_looked 48 = .ok (.getfield 60, 3) := by decide +kernel
theorem dX7_looked_51 : decode cX7_looked 51 = .ok (.iload_n 1, 1) := by decide +kernel
theorem dX7_looked_52 : decode cX7_looked 52 = .ok (.iaload, 1) := by decide +kernel
theorem dX7_looked_53 : decode cX7_looked 53 = .ok (.if_icmp .eq 5, 3) := by decide +kernel
theorem dX7_looked_56 : decode cX7_looked 56 = .ok (.iload_n 1, 1) := by decide +kernel
theorem dX7_looked_57 : decode cX7_looked 57 = .ok (.ireturn, 1) := by decide +kernel
theorem dX7_looked_58 : decode cX7_looked 58 = .ok (.iinc 1 1, 3) := by decide +kernel
theorem dX7_looked_61 : decode cX7_looked 61 = .ok (.goto (-59), 3) := by decide +kernel
theorem dX7_looked_64 : decode cX7_looked 64 = .ok (.bipush (-5), 2) := by decide +kernel
theorem dX7_looked_66 : decode cX7_looked 66 = .ok (.ireturn, 1) := by decide +kernel
theorem dX7_judge_0 : decode cX7_judge 0 = .ok (.iload_n 1, 1) := by decide +kernel
theorem dX7_judge_1 : decode cX7_judge 1 = .ok (.invokestatic 135, 3) := by decide +kernel
theorem dX7_judge_4 : decode cX7_judge 4 = .ok (.ifCond .eq 10, 3) := by decide +kernel
theorem dX7_judge_7 : decode cX7_judge 7 = .ok (.iload_n 2, 1) := by decide +kernel
theorem dX7_judge_8 : decode cX7_judge 8 = .ok (.invokestatic 303, 3) := by decide +kernel
theorem dX7_judge_11 : decode cX7_judge 11 = .ok (.ifCond .ne 5, 3) := by decide +kernel
theorem dX7_judge_14 : decode cX7_judge 14 = .ok (.iconst (-1), 1) := by decide +kernel
theorem dX7_judge_15 : decode cX7_judge 15 = .ok (.ireturn, 1) := by decide +kernel
theorem dX7_judge_16 : decode cX7_judge 16 = .ok (.aload_n 0, 1) := by decide +kernel
theorem dX7_judge_17 : decode cX7_judge 17 = .ok (.getfield 78, 3) := by decide +kernel
theorem dX7_judge_20 : decode cX7_judge 20 = .ok (.iload_n 2, 1) := by decide +kernel
theorem dX7_judge_21 : decode cX7_judge 21 = .ok (.iaload, 1) := by decide +kernel
theorem dX7_judge_22 : decode cX7_judge 22 = .ok (.ifCond .lt 16, 3) := by decide +kernel
theorem dX7_judge_25 : decode cX7_judge 25 = .ok (.aload_n 0, 1) := by decide +kernel
theorem dX7_judge_26 : decode cX7_judge 26 = .ok (.getfield 78, 3) := by decide +kernel
theorem dX7_judge_29 : decode cX7_judge 29 = .ok (.iload_n 2, 1) := by decide +kernel
theorem dX7_judge_30 : decode cX7_judge 30 = .ok (.iaload, 1) := by decide +kernel
theorem dX7_judge_31 : decode cX7_judge 31 = .ok (.iconst 2, 1) := by decide +kernel
theorem dX7_judge_32 : decode cX7_judge 32 = .ok (.if_icmp .eq 6, 3) := by decide +kernel
theorem dX7_judge_35 : decode cX7_judge 35 = .ok (.bipush (-12), 2) := by decide +kernel
theorem dX7_judge_37 : decode cX7_judge 37 = .ok (.ireturn, 1) := by decide +kernel
theorem dX7_judge_38 : decode cX7_judge 38 = .ok (.iconst 0, 1) := by decide +kernel
theorem dX7_judge_39 : decode cX7_judge 39 = .ok (.istore 4, 2) := by decide +kernel
theorem dX7_judge_41 : decode cX7_judge 41 = .ok (.iload 4, 2) := by decide +kernel
theorem dX7_judge_43 : decode cX7_judge 43 = .ok (.aload_n 0, 1) := by decide +kernel
theorem dX7_judge_44 : decode cX7_judge 44 = .ok (.getfield 15, 3) := by decide +kernel
theorem dX7_judge_47 : decode cX7_judge 47 = .ok (.iload_n 1, 1) := by decide +kernel
theorem dX7_judge_48 : decode cX7_judge 48 = .ok (.iaload, 1) := by decide +kernel
theorem dX7_judge_49 : decode cX7_judge 49 = .ok (.if_icmp .ge 69, 3) := by decide +kernel
theorem dX7_judge_52 : decode cX7_judge 52 = .ok (.aload_n 0, 1) := by decide +kernel
theorem dX7_judge_53 : decode cX7_judge 53 = .ok (.getfield 78, 3) := by decide +kernel
theorem dX7_judge_56 : decode cX7_judge 56 = .ok (.iload_n 2, 1) := by decide +kernel
theorem dX7_judge_57 : decode cX7_judge 57 = .ok (.iaload, 1) := by decide +kernel
theorem dX7_judge_58 : decode cX7_judge 58 = .ok (.ifCond .lt 20, 3) := by decide +kernel
theorem dX7_judge_61 : decode cX7_judge 61 = .ok (.iload_n 3, 1) := by decide +kernel
theorem dX7_judge_62 : decode cX7_judge 62 = .ok (.ifCond .lt 16, 3) := by decide +kernel
theorem dX7_judge_65 : decode cX7_judge 65 = .ok (.iload 4, 2) := by decide +kernel
theorem dX7_judge_67 : decode cX7_judge 67 = .ok (.aload_n 0, 1) := by decide +kernel
theorem dX7_judge_68 : decode cX7_judge 68 = .ok (.getfield 81, 3) := by decide +kernel
theorem dX7_judge_71 : decode cX7_judge 71 = .ok (.iload_n 2, 1) := by decide +kernel
theorem dX7_judge_72 : decode cX7_judge 72 = .ok (.iaload, 1) := by decide +kernel
theorem dX7_judge_73 : decode cX7_judge 73 = .ok (.iload_n 3, 1) := by decide +kernel
theorem dX7_judge_74 : decode cX7_judge 74 = .ok (.isub, 1) := by decide +kernel
theorem dX7_judge_75 : decode cX7_judge 75 = .ok (.if_icmp .lt 9, 3) := by decide +kernel
theorem dX7_judge_78 : decode cX7_judge 78 = .ok (.bipush 100, 2) := by decide +kernel
theorem dX7_judge_80 : decode cX7_judge 80 = .ok (.iload 4, 2) := by decide +kernel
theorem dX7_judge_82 : decode cX7_judge 82 = .ok (.iadd, 1) := by decide +kernel
theorem dX7_judge_83 : decode cX7_judge 83 = .ok (.ireturn, 1) := by decide +kernel
theorem dX7_judge_84 : decode cX7_judge 84 = .ok (.aload_n 0, 1) := by decide +kernel
theorem dX7_judge_85 : decode cX7_judge 85 = .ok (.getfield 86, 3) := by decide +kernel
theorem dX7_judge_88 : decode cX7_judge 88 = .ok (.iload_n 2, 1) := by decide +kernel
theorem dX7_judge_89 : decode cX7_judge 89 = .ok (.aaload, 1) := by decide +kernel
theorem dX7_judge_90 : decode cX7_judge 90 = .ok (.iload_n 3, 1) := by decide +kernel
theorem dX7_judge_91 : decode cX7_judge 91 = .ok (.iload 4, 2) := by decide +kernel
theorem dX7_judge_93 : decode cX7_judge 93 = .ok (.iadd, 1) := by decide +kernel
theorem dX7_judge_94 : decode cX7_judge 94 = .ok (.laload, 1) := by decide +kernel
theorem dX7_judge_95 : decode cX7_judge 95 = .ok (.aload_n 0, 1) := by decide +kernel
theorem dX7_judge_96 : decode cX7_judge 96 = .ok (.getfield 20, 3) := by decide +kernel
theorem dX7_judge_99 : decode cX7_judge 99 = .ok (.iload_n 1, 1) := by decide +kernel
theorem dX7_judge_100 : decode cX7_judge 100 = .ok (.aaload, 1) := by decide +kernel
theorem dX7_judge_101 : decode cX7_judge 101 = .ok (.iload 4, 2) := by decide +kernel
theorem dX7_judge_103 : decode cX7_judge 103 = .ok (.iaload, 1) := by decide +kernel
theorem dX7_judge_104 : decode cX7_judge 104 = .ok (.i2l, 1) := by decide +kernel
theorem dX7_judge_105 : decode cX7_judge 105 = .ok (.lcmp, 1) := by decide +kernel
theorem dX7_judge_106 : decode cX7_judge 106 = .ok (.ifCond .eq 6, 3) := by decide +kernel
theorem dX7_judge_109 : decode cX7_judge 109 = .ok (.iload 4, 2) := by decide +kernel
theorem dX7_judge_111 : decode cX7_judge 111 = .ok (.ireturn, 1) := by decide +kernel
theorem dX7_judge_112 : decode cX7_judge 112 = .ok (.iinc 4 1, 3) := by decide +kernel
theorem dX7_judge_115 : decode cX7_judge 115 = .ok (.goto (-74), 3) := by decide +kernel
theorem dX7_judge_118 : decode cX7_judge 118 = .ok (.bipush (-5), 2) := by decide +kernel
theorem dX7_judge_120 : decode cX7_judge 120 = .ok (.ireturn, 1) := by decide +kernel
theorem dX7_toldOf_0 : decode cX7_toldOf 0 = .ok (.iload_n 1, 1) := by decide +kernel
theorem dX7_toldOf_1 : decode cX7_toldOf 1 = .ok (.tableswitch 69 0 5 #[39, 44, 49, 54, 59, 64], 39) := by decide +kernel
theorem dX7_toldOf_40 : decode cX7_toldOf 40 = .ok (.aload_n 0, 1) := by decide +kernel
theorem dX7_toldOf_41 : decode cX7_toldOf 41 = .ok (.getfield 39, 3) := by decide +kernel
theorem dX7_toldOf_44 : decode cX7_toldOf 44 = .ok (.areturn, 1) := by decide +kernel
theorem dX7_toldOf_45 : decode cX7_toldOf 45 = .ok (.aload_n 0, 1) := by decide +kernel
theorem dX7_toldOf_46 : decode cX7_toldOf 46 = .ok (.getfield 42, 3) := by decide +kernel
theorem dX7_toldOf_49 : decode cX7_toldOf 49 = .ok (.areturn, 1) := by decide +kernel
theorem dX7_toldOf_50 : decode cX7_toldOf 50 = .ok (.aload_n 0, 1) := by decide +kernel
theorem dX7_toldOf_51 : decode cX7_toldOf 51 = .ok (.getfield 45, 3) := by decide +kernel
theorem dX7_toldOf_54 : decode cX7_toldOf 54 = .ok (.areturn, 1) := by decide +kernel
theorem dX7_toldOf_55 : decode cX7_toldOf 55 = .ok (.aload_n 0, 1) := by decide +kernel
theorem dX7_toldOf_56 : decode cX7_toldOf 56 = .ok (.getfield 48, 3) := by decide +kernel
theorem dX7_toldOf_59 : decode cX7_toldOf 59 = .ok (.areturn, 1) := by decide +kernel
theorem dX7_toldOf_60 : decode cX7_toldOf 60 = .ok (.aload_n 0, 1) := by decide +kernel
theorem dX7_toldOf_61 : decode cX7_toldOf 61 = .ok (.getfield 51, 3) := by decide +kernel
theorem dX7_toldOf_64 : decode cX7_toldOf 64 = .ok (.areturn, 1) := by decide +kernel
theorem dX7_toldOf_65 : decode cX7_toldOf 65 = .ok (.aload_n 0, 1) := by decide +kernel
theorem dX7_toldOf_66 : decode cX7_toldOf 66 = .ok (.getfield 57, 3) := by decide +kernel
theorem dX7_toldOf_69 : decode cX7_toldOf 69 = .ok (.areturn, 1) := by decide +kernel
theorem dX7_toldOf_70 : decode cX7_toldOf 70 = .ok (.aload_n 0, 1) := by decide +kernel
theorem dX7_toldOf_71 : decode cX7_toldOf 71 = .ok (.getfield 60, 3) := by decide +kernel
theorem dX7_toldOf_74 : decode cX7_toldOf 74 = .ok (.areturn, 1) := by decide +kernel
theorem dX7_together_0 : decode cX7_together 0 = .ok (.iconst 0, 1) := by decide +kernel
theorem dX7_together_1 : decode cX7_together 1 = .ok (.istore_n 1, 1) := by decide +kernel
theorem dX7_together_2 : decode cX7_together 2 = .ok (.iconst 0, 1) := by decide +kernel
theorem dX7_together_3 : decode cX7_together 3 = .ok (.istore_n 2, 1) := by decide +kernel
theorem dX7_together_4 : decode cX7_together 4 = .ok (.iload_n 2, 1) := by decide +kernel
theorem dX7_together_5 : decode cX7_together 5 = .ok (.bipush 6, 2) := by decide +kernel
theorem dX7_together_7 : decode cX7_together 7 = .ok (.if_icmp .ge 18, 3) := by decide +kernel
theorem dX7_together_10 : decode cX7_together 10 = .ok (.iload_n 1, 1) := by decide +kernel
theorem dX7_together_11 : decode cX7_together 11 = .ok (.aload_n 0, 1) := by decide +kernel
theorem dX7_together_12 : decode cX7_together 12 = .ok (.getfield 15, 3) := by decide +kernel
theorem dX7_together_15 : decode cX7_together 15 = .ok (.iload_n 2, 1) := by decide +kernel
theorem dX7_together_16 : decode cX7_together 16 = .ok (.iaload, 1) := by decide +kernel
theorem dX7_together_17 : decode cX7_together 17 = .ok (.iadd, 1) := by decide +kernel
theorem dX7_together_18 : decode cX7_together 18 = .ok (.istore_n 1, 1) := by decide +kernel
theorem dX7_together_19 : decode cX7_together 19 = .ok (.iinc 2 1, 3) := by decide +kernel
theorem dX7_together_22 : decode cX7_together 22 = .ok (.goto (-18), 3) := by decide +kernel
theorem dX7_together_25 : decode cX7_together 25 = .ok (.iload_n 1, 1) := by decide +kernel
theorem dX7_together_26 : decode cX7_together 26 = .ok (.ireturn, 1) := by decide +kernel
theorem dX7_image_0 : decode cX7_image 0 = .ok (.aload_n 0, 1) := by decide +kernel
theorem dX7_image_1 : decode cX7_image 1 = .ok (.iconst 1, 1) := by decide +kernel
theorem dX7_image_2 : decode cX7_image 2 = .ok (.putfield 306, 3) := by decide +kernel
theorem dX7_image_5 : decode cX7_image 5 = .ok (.aload_n 0, 1) := by decide +kernel
theorem dX7_image_6 : decode cX7_image 6 = .ok (.getfield 63, 3) := by decide +kernel
theorem dX7_image_9 : decode cX7_image 9 = .ok (.iconst 0, 1) := by decide +kernel
theorem dX7_image_10 : decode cX7_image 10 = .ok (.aload_n 0, 1) := by decide +kernel
theorem dX7_image_11 : decode cX7_image 11 = .ok (.getfield 275, 3) := by decide +kernel
theorem dX7_image_14 : decode cX7_image 14 = .ok (.iastore, 1) := by decide +kernel
theorem dX7_image_15 : decode cX7_image 15 = .ok (.aload_n 0, 1) := by decide +kernel
theorem dX7_image_16 : decode cX7_image 16 = .ok (.getfield 63, 3) := by decide +kernel
theorem dX7_image_19 : decode cX7_image 19 = .ok (.iconst 1, 1) := by decide +kernel
theorem dX7_image_20 : decode cX7_image 20 = .ok (.aload_n 0, 1) := by decide +kernel
theorem dX7_image_21 : decode cX7_image 21 = .ok (.getfield 285, 3) := by decide +kernel
theorem dX7_image_24 : decode cX7_image 24 = .ok (.iastore, 1) := by decide +kernel
theorem dX7_image_25 : decode cX7_image 25 = .ok (.aload_n 0, 1) := by decide +kernel
theorem dX7_image_26 : decode cX7_image 26 = .ok (.getfield 63, 3) := by decide +kernel
theorem dX7_image_29 : decode cX7_image 29 = .ok (.iconst 2, 1) := by decide +kernel
theorem dX7_image_30 : decode cX7_image 30 = .ok (.aload_n 0, 1) := by decide +kernel
theorem dX7_image_31 : decode cX7_image 31 = .ok (.getfield 297, 3) := by decide +kernel
theorem dX7_image_34 : decode cX7_image 34 = .ok (.iastore, 1) := by decide +kernel
theorem dX7_image_35 : decode cX7_image 35 = .ok (.aload_n 0, 1) := by decide +kernel
theorem dX7_image_36 : decode cX7_image 36 = .ok (.getfield 11, 3) := by decide +kernel
theorem dX7_image_39 : decode cX7_image 39 = .ok (.iconst 0, 1) := by decide +kernel
theorem dX7_image_40 : decode cX7_image 40 = .ok (.aload_n 0, 1) := by decide +kernel
theorem dX7_image_41 : decode cX7_image 41 = .ok (.getfield 66, 3) := by decide +kernel
theorem dX7_image_44 : decode cX7_image 44 = .ok (.iconst 0, 1) := by decide +kernel
theorem dX7_image_45 : decode cX7_image 45 = .ok (.bipush 6, 2) := by decide +kernel
theorem dX7_image_47 : decode cX7_image 47 = .ok (.invokestatic 148, 3) := by decide +kernel
theorem dX7_image_50 : decode cX7_image 50 = .ok (.aload_n 0, 1) := by decide +kernel
theorem dX7_image_51 : decode cX7_image 51 = .ok (.getfield 15, 3) := by decide +kernel
theorem dX7_image_54 : decode cX7_image 54 = .ok (.iconst 0, 1) := by decide +kernel
theorem dX7_image_55 : decode cX7_image 55 = .ok (.aload_n 0, 1) := by decide +kernel
theorem dX7_image_56 : decode cX7_image 56 = .ok (.getfield 69, 3) := by decide +kernel
theorem dX7_image_59 : decode cX7_image 59 = .ok (.iconst 0, 1) := by decide +kernel
theorem dX7_image_60 : decode cX7_image 60 = .ok (.bipush 6, 2) := by decide +kernel
theorem dX7_image_62 : decode cX7_image 62 = .ok (.invokestatic 148, 3) := by decide +kernel
theorem dX7_image_65 : decode cX7_image 65 = .ok (.iconst 0, 1) := by decide +kernel
theorem dX7_image_66 : decode cX7_image 66 = .ok (.istore_n 1, 1) := by decide +kernel
theorem dX7_image_67 : decode cX7_image 67 = .ok (.iload_n 1, 1) := by decide +kernel
theorem dX7_image_68 : decode cX7_image 68 = .ok (.bipush 6, 2) := by decide +kernel
theorem dX7_image_70 : decode cX7_image 70 = .ok (.if_icmp .ge 28, 3) := by decide +kernel
theorem dX7_image_73 : decode cX7_image 73 = .ok (.aload_n 0, 1) := by decide +kernel
theorem dX7_image_74 : decode cX7_image 74 = .ok (.getfield 20, 3) := by decide +kernel
theorem dX7_image_77 : decode cX7_image 77 = .ok (.iload_n 1, 1) := by decide +kernel
theorem dX7_image_78 : decode cX7_image 78 = .ok (.aaload, 1) := by decide +kernel
theorem dX7_image_79 : decode cX7_image 79 = .ok (.iconst 0, 1) := by decide +kernel
theorem dX7_image_80 : decode cX7_image 80 = .ok (.aload_n 0, 1) := by decide +kernel
theorem dX7_image_81 : decode cX7_image 81 = .ok (.getfield 72, 3) := by decide +kernel
theorem dX7_image_84 : decode cX7_image 84 = .ok (.iload_n 1, 1) := by decide +kernel
theorem dX7_image_85 : decode cX7_image 85 = .ok (.aaload, 1) := by decide +kernel
theorem dX7_image_86 : decode cX7_image 86 = .ok (.iconst 0, 1) := by decide +kernel
theorem dX7_image_87 : decode cX7_image 87 = .ok (.bipush 16, 2) := by decide +kernel
theorem dX7_image_89 : decode cX7_image 89 = .ok (.invokestatic 148, 3) := by decide +kernel
theorem dX7_image_92 : decode cX7_image 92 = .ok (.iinc 1 1, 3) := by decide +kernel
theorem dX7_image_95 : decode cX7_image 95 = .ok (.goto (-28), 3) := by decide +kernel
theorem dX7_image_98 : decode cX7_image 98 = .ok (.iconst 0, 1) := by decide +kernel
theorem dX7_image_99 : decode cX7_image 99 = .ok (.istore_n 1, 1) := by decide +kernel
theorem dX7_image_100 : decode cX7_image 100 = .ok (.iload_n 1, 1) := by decide +kernel
theorem dX7_image_101 : decode cX7_image 101 = .ok (.bipush 7, 2) := by decide +kernel
theorem dX7_image_103 : decode cX7_image 103 = .ok (.if_icmp .ge 31, 3) := by decide +kernel
theorem dX7_image_106 : decode cX7_image 106 = .ok (.aload_n 0, 1) := by decide +kernel
theorem dX7_image_107 : decode cX7_image 107 = .ok (.iload_n 1, 1) := by decide +kernel
theorem dX7_image_108 : decode cX7_image 108 = .ok (.invokevirtual 310, 3) := by decide +kernel
theorem dX7_image_111 : decode cX7_image 111 = .ok (.iconst 0, 1) := by decide +kernel
theorem dX7_image_112 : decode cX7_image 112 = .ok (.aload_n 0, 1) := by decide +kernel
theorem dX7_image_113 : decode cX7_image 113 = .ok (.getfield 75, 3) := by decide +kernel
theorem dX7_image_116 : decode cX7_image 116 = .ok (.iload_n 1, 1) := by decide +kernel
theorem dX7_image_117 : decode cX7_image 117 = .ok (.aaload, 1) := by decide +kernel
theorem dX7_image_118 : decode cX7_image 118 = .ok (.iconst 0, 1) := by decide +kernel
theorem dX7_image_119 : decode cX7_image 119 = .ok (.aload_n 0, 1) := by decide +kernel
theorem dX7_image_120 : decode cX7_image 120 = .ok (.iload_n 1, 1) := by decide +kernel
theorem dX7_image_121 : decode cX7_image 121 = .ok (.invokevirtual 310, 3) := by decide +kernel
theorem dX7_image_124 : decode cX7_image 124 = .ok (.arraylength, 1) := by decide +kernel
theorem dX7_image_125 : decode cX7_image 125 = .ok (.invokestatic 148, 3) := by decide +kernel
theorem dX7_image_128 : decode cX7_image 128 = .ok (.iinc 1 1, 3) := by decide +kernel
theorem dX7_image_131 : decode cX7_image 131 = .ok (.goto (-31), 3) := by decide +kernel
theorem dX7_image_134 : decode cX7_image 134 = .ok (.aload_n 0, 1) := by decide +kernel
theorem dX7_image_135 : decode cX7_image 135 = .ok (.invokevirtual 314, 3) := by decide +kernel
theorem dX7_image_138 : decode cX7_image 138 = .ok (.ireturn, 1) := by decide +kernel
theorem dX7_undo_0 : decode cX7_undo 0 = .ok (.aload_n 0, 1) := by decide +kernel
theorem dX7_undo_1 : decode cX7_undo 1 = .ok (.getfield 306, 3) := by decide +kernel
theorem dX7_undo_4 : decode cX7_undo 4 = .ok (.ifCond .ne 6, 3) := by decide +kernel
theorem dX7_undo_7 : decode cX7_undo 7 = .ok (.bipush (-3), 2) := by decide +kernel
theorem dX7_undo_9 : decode cX7_undo 9 = .ok (.ireturn, 1) := by decide +kernel
theorem dX7_undo_10 : decode cX7_undo 10 = .ok (.aload_n 0, 1) := by decide +kernel
theorem dX7_undo_11 : decode cX7_undo 11 = .ok (.aload_n 0, 1) := by decide +kernel
theorem dX7_undo_12 : decode cX7_undo 12 = .ok (.getfield 63, 3) := by decide +kernel
theorem dX7_undo_15 : decode cX7_undo 15 = .ok (.iconst 0, 1) := by decide +kernel
theorem dX7_undo_16 : decode cX7_undo 16 = .ok (.iaload, 1) := by decide +kernel
theorem dX7_undo_17 : decode cX7_undo 17 = .ok (.putfield 275, 3) := by decide +kernel
theorem dX7_undo_20 : decode cX7_undo 20 = .ok (.aload_n 0, 1) := by decide +kernel
theorem dX7_undo_21 : decode cX7_undo 21 = .ok (.aload_n 0, 1) := by decide +kernel
theorem dX7_undo_22 : decode cX7_undo 22 = .ok (.getfield 63, 3) := by decide +kernel
theorem dX7_undo_25 : decode cX7_undo 25 = .ok (.iconst 1, 1) := by decide +kernel
theorem dX7_undo_26 : decode cX7_undo 26 = .ok (.iaload, 1) := by decide +kernel
theorem dX7_undo_27 : decode cX7_undo 27 = .ok (.putfield 285, 3) := by decide +kernel
theorem dX7_undo_30 : decode cX7_undo 30 = .ok (.aload_n 0, 1) := by decide +kernel
theorem dX7_undo_31 : decode cX7_undo 31 = .ok (.aload_n 0, 1) := by decide +kernel
theorem dX7_undo_32 : decode cX7_undo 32 = .ok (.getfield 63, 3) := by decide +kernel
theorem dX7_undo_35 : decode cX7_undo 35 = .ok (.iconst 2, 1) := by decide +kernel
theorem dX7_undo_36 : decode cX7_undo 36 = .ok (.iaload, 1) := by decide +kernel
theorem dX7_undo_37 : decode cX7_undo 37 = .ok (.putfield 297, 3) := by decide +kernel
theorem dX7_undo_40 : decode cX7_undo 40 = .ok (.aload_n 0, 1) := by decide +kernel
theorem dX7_undo_41 : decode cX7_undo 41 = .ok (.getfield 66, 3) := by decide +kernel
theorem dX7_undo_44 : decode cX7_undo 44 = .ok (.iconst 0, 1) := by decide +kernel
theorem dX7_undo_45 : decode cX7_undo 45 = .ok (.aload_n 0, 1) := by decide +kernel
theorem dX7_undo_46 : decode cX7_undo 46 = .ok (.getfield 11, 3) := by decide +kernel
theorem dX7_undo_49 : decode cX7_undo 49 = .ok (.iconst 0, 1) := by decide +kernel
theorem dX7_undo_50 : decode cX7_undo 50 = .ok (.bipush 6, 2) := by decide +kernel
theorem dX7_undo_52 : decode cX7_undo 52 = .ok (.invokestatic 148, 3) := by decide +kernel
theorem dX7_undo_55 : decode cX7_undo 55 = .ok (.aload_n 0, 1) := by decide +kernel
theorem dX7_undo_56 : decode cX7_undo 56 = .ok (.getfield 69, 3) := by decide +kernel
theorem dX7_undo_59 : decode cX7_undo 59 = .ok (.iconst 0, 1) := by decide +kernel
theorem dX7_undo_60 : decode cX7_undo 60 = .ok (.aload_n 0, 1) := by decide +kernel
theorem dX7_undo_61 : decode cX7_undo 61 = .ok (.getfield 15, 3) := by decide +kernel
theorem dX7_undo_64 : decode cX7_undo 64 = .ok (.iconst 0, 1) := by decide +kernel
theorem dX7_undo_65 : decode cX7_undo 65 = .ok (.bipush 6, 2) := by decide +kernel
theorem dX7_undo_67 : decode cX7_undo 67 = .ok (.invokestatic 148, 3) := by decide +kernel
theorem dX7_undo_70 : decode cX7_undo 70 = .ok (.iconst 0, 1) := by decide +kernel
theorem dX7_undo_71 : decode cX7_undo 71 = .ok (.istore_n 1, 1) := by decide +kernel
theorem dX7_undo_72 : decode cX7_undo 72 = .ok (.iload_n 1, 1) := by decide +kernel
theorem dX7_undo_73 : decode cX7_undo 73 = .ok (.bipush 6, 2) := by decide +kernel
theorem dX7_undo_75 : decode cX7_undo 75 = .ok (.if_icmp .ge 28, 3) := by decide +kernel
theorem dX7_undo_78 : decode cX7_undo 78 = .ok (.aload_n 0, 1) := by decide +kernel
theorem dX7_undo_79 : decode cX7_undo 79 = .ok (.getfield 72, 3) := by decide +kernel
theorem dX7_undo_82 : decode cX7_undo 82 = .ok (.iload_n 1, 1) := by decide +kernel
theorem dX7_undo_83 : decode cX7_undo 83 = .ok (.aaload, 1) := by decide +kernel
theorem dX7_undo_84 : decode cX7_undo 84 = .ok (.iconst 0, 1) := by decide +kernel
theorem dX7_undo_85 : decode cX7_undo 85 = .ok (.aload_n 0, 1) := by decide +kernel
theorem dX7_undo_86 : decode cX7_undo 86 = .ok (.getfield 20, 3) := by decide +kernel
theorem dX7_undo_89 : decode cX7_undo 89 = .ok (.iload_n 1, 1) := by decide +kernel
theorem dX7_undo_90 : decode cX7_undo 90 = .ok (.aaload, 1) := by decide +kernel
theorem dX7_undo_91 : decode cX7_undo 91 = .ok (.iconst 0, 1) := by decide +kernel
theorem dX7_undo_92 : decode cX7_undo 92 = .ok (.bipush 16, 2) := by decide +kernel
theorem dX7_undo_94 : decode cX7_undo 94 = .ok (.invokestatic 148, 3) := by decide +kernel
theorem dX7_undo_97 : decode cX7_undo 97 = .ok (.iinc 1 1, 3) := by decide +kernel
theorem dX7_undo_100 : decode cX7_undo 100 = .ok (.goto (-28), 3) := by decide +kernel
theorem dX7_undo_103 : decode cX7_undo 103 = .ok (.iconst 0, 1) := by decide +kernel
theorem dX7_undo_104 : decode cX7_undo 104 = .ok (.istore_n 1, 1) := by decide +kernel
theorem dX7_undo_105 : decode cX7_undo 105 = .ok (.iload_n 1, 1) := by decide +kernel
theorem dX7_undo_106 : decode cX7_undo 106 = .ok (.bipush 7, 2) := by decide +kernel
theorem dX7_undo_108 : decode cX7_undo 108 = .ok (.if_icmp .ge 31, 3) := by decide +kernel
theorem dX7_undo_111 : decode cX7_undo 111 = .ok (.aload_n 0, 1) := by decide +kernel
theorem dX7_undo_112 : decode cX7_undo 112 = .ok (.getfield 75, 3) := by decide +kernel
theorem dX7_undo_115 : decode cX7_undo 115 = .ok (.iload_n 1, 1) := by decide +kernel
theorem dX7_undo_116 : decode cX7_undo 116 = .ok (.aaload, 1) := by decide +kernel
theorem dX7_undo_117 : decode cX7_undo 117 = .ok (.iconst 0, 1) := by decide +kernel
theorem dX7_undo_118 : decode cX7_undo 118 = .ok (.aload_n 0, 1) := by decide +kernel
theorem dX7_undo_119 : decode cX7_undo 119 = .ok (.iload_n 1, 1) := by decide +kernel
theorem dX7_undo_120 : decode cX7_undo 120 = .ok (.invokevirtual 310, 3) := by decide +kernel
theorem dX7_undo_123 : decode cX7_undo 123 = .ok (.iconst 0, 1) := by decide +kernel
theorem dX7_undo_124 : decode cX7_undo 124 = .ok (.aload_n 0, 1) := by decide +kernel
theorem dX7_undo_125 : decode cX7_undo 125 = .ok (.iload_n 1, 1) := by decide +kernel
theorem dX7_undo_126 : decode cX7_undo 126 = .ok (.invokevirtual 310, 3) := by decide +kernel
theorem dX7_undo_129 : decode cX7_undo 129 = .ok (.arraylength, 1) := by decide +kernel
theorem dX7_undo_130 : decode cX7_undo 130 = .ok (.invokestatic 148, 3) := by decide +kernel
theorem dX7_undo_133 : decode cX7_undo 133 = .ok (.iinc 1 1, 3) := by decide +kernel
theorem dX7_undo_136 : decode cX7_undo 136 = .ok (.goto (-31), 3) := by decide +kernel
theorem dX7_undo_139 : decode cX7_undo 139 = .ok (.aload_n 0, 1) := by decide +kernel
theorem dX7_undo_140 : decode cX7_undo 140 = .ok (.invokevirtual 314, 3) := by decide +kernel
theorem dX7_undo_143 : decode cX7_undo 143 = .ok (.ireturn, 1) := by decide +kernel
theorem dX7_count_0 : decode cX7_count 0 = .ok (.iload_n 1, 1) := by decide +kernel
theorem dX7_count_1 : decode cX7_count 1 = .ok (.ifCond .ne 10, 3) := by decide +kernel
theorem dX7_count_4 : decode cX7_count 4 = .ok (.aload_n 0, 1) := by decide +kernel
theorem dX7_count_5 : decode cX7_count 5 = .ok (.getfield 275, 3) := by decide +kernel
theorem dX7_count_8 : decode cX7_count 8 = .ok (.goto 41, 3) := by decide +kernel
theorem dX7_count_11 : decode cX7_count 11 = .ok (.iload_n 1, 1) := by decide +kernel
theorem dX7_count_12 : decode cX7_count 12 = .ok (.iconst 1, 1) := by decide +kernel
theorem dX7_count_13 : decode cX7_count 13 = .ok (.if_icmp .ne 10, 3) := by decide +kernel
theorem dX7_count_16 : decode cX7_count 16 = .ok (.aload_n 0, 1) := by decide +kernel
theorem dX7_count_17 : decode cX7_count 17 = .ok (.getfield 285, 3) := by decide +kernel
theorem dX7_count_20 : decode cX7_count 20 = .ok (.goto 29, 3) := by decide +kernel
theorem dX7_count_23 : decode cX7_count 23 = .ok (.iload_n 1, 1) := by decide +kernel
theorem dX7_count_24 : decode cX7_count 24 = .ok (.iconst 2, 1) := by decide +kernel
theorem dX7_count_25 : decode cX7_count 25 = .ok (.if_icmp .ne 10, 3) := by decide +kernel
theorem dX7_count_28 : decode cX7_count 28 = .ok (.aload_n 0, 1) := by decide +kernel
theorem dX7_count_29 : decode cX7_count 29 = .ok (.getfield 297, 3) := by decide +kernel
theorem dX7_count_32 : decode cX7_count 32 = .ok (.goto 17, 3) := by decide +kernel
theorem dX7_count_35 : decode cX7_count 35 = .ok (.iload_n 1, 1) := by decide +kernel
theorem dX7_count_36 : decode cX7_count 36 = .ok (.iconst 3, 1) := by decide +kernel
theorem dX7_count_37 : decode cX7_count 37 = .ok (.if_icmp .ne 10, 3) := by decide +kernel
theorem dX7_count_40 : decode cX7_count 40 = .ok (.aload_n 0, 1) := by decide +kernel
theorem dX7_count_41 : decode cX7_count 41 = .ok (.getfield 162, 3) := by decide +kernel
theorem dX7_count_44 : decode cX7_count 44 = .ok (.goto 5, 3) := by decide +kernel
theorem dX7_count_47 : decode cX7_count 47 = .ok (.bipush (-2), 2) := by decide +kernel
theorem dX7_count_49 : decode cX7_count 49 = .ok (.ireturn, 1) := by decide +kernel
theorem dX7_isTape_0 : decode cX7_isTape 0 = .ok (.iload_n 0, 1) := by decide +kernel
theorem dX7_isTape_1 : decode cX7_isTape 1 = .ok (.iconst 0, 1) := by decide +kernel
theorem dX7_isTape_2 : decode cX7_isTape 2 = .ok (.iconst 5, 1) := by decide +kernel
theorem dX7_isTape_3 : decode cX7_isTape 3 = .ok (.invokestatic 89, 3) := by decide +kernel
theorem dX7_isTape_6 : decode cX7_isTape 6 = .ok (.ireturn, 1) := by decide +kernel
theorem dX7_tape_0 : decode cX7_tape 0 = .ok (.iload_n 1, 1) := by decide +kernel
theorem dX7_tape_1 : decode cX7_tape 1 = .ok (.invokestatic 303, 3) := by decide +kernel
theorem dX7_tape_4 : decode cX7_tape 4 = .ok (.ifCond .ne 5, 3) := by decide +kernel
theorem dX7_tape_7 : decode cX7_tape 7 = .ok (.iconst (-1), 1) := by decide +kernel
theorem dX7_tape_8 : decode cX7_tape 8 = .ok (.ireturn, 1) := by decide +kernel
theorem dX7_tape_9 : decode cX7_tape 9 = .ok (.iload_n 2, 1) := by decide +kernel
theorem dX7_tape_10 : decode cX7_tape 10 = .ok (.iconst (-1), 1) := by decide +kernel
theorem dX7_tape_11 : decode cX7_tape 11 = .ok (.iconst 4, 1) := by decide +kernel
theorem dX7_tape_12 : decode cX7_tape 12 = .ok (.invokestatic 89, 3) := by decide +kernel
theorem dX7_tape_15 : decode cX7_tape 15 = .ok (.ifCond .eq 13, 3) := by decide +kernel
theorem dX7_tape_18 : decode cX7_tape 18 = .ok (.iload_n 2, 1) := by decide +kernel
theorem dX7_tape_19 : decode cX7_tape 19 = .ok (.ifCond .lt 12, 3) := by decide +kernel
theorem dX7_tape_22 : decode cX7_tape 22 = .ok (.iload_n 3, 1) := by decide +kernel
theorem dX7_tape_23 : decode cX7_tape 23 = .ok (.bipush 60, 2) := by decide +kernel
theorem dX7_tape_25 : decode cX7_tape 25 = .ok (.if_icmp .le 6, 3) := by decide +kernel
theorem dX7_tape_28 : decode cX7_tape 28 = .ok (.bipush (-2), 2) := by decide +kernel
theorem dX7_tape_30 : decode cX7_tape 30 = .ok (.ireturn, 1) := by decide +kernel
theorem dX7_tape_31 : decode cX7_tape 31 = .ok (.iload_n 2, 1) := by decide +kernel
theorem dX7_tape_32 : decode cX7_tape 32 = .ok (.ifCond .lt 10, 3) := by decide +kernel
theorem dX7_tape_35 : decode cX7_tape 35 = .ok (.iload_n 3, 1) := by decide +kernel
theorem dX7_tape_36 : decode cX7_tape 36 = .ok (.ifCond .ge 6, 3) := by decide +kernel
theorem dX7_tape_39 : decode cX7_tape 39 = .ok (.bipush (-14), 2) := by decide +kernel
theorem dX7_tape_41 : decode cX7_tape 41 = .ok (.ireturn, 1) := by decide +kernel
theorem dX7_tape_42 : decode cX7_tape 42 = .ok (.aload_n 0, 1) := by decide +kernel
theorem dX7_tape_43 : decode cX7_tape 43 = .ok (.getfield 78, 3) := by decide +kernel
theorem dX7_tape_46 : decode cX7_tape 46 = .ok (.iload_n 1, 1) := by decide +kernel
theorem dX7_tape_47 : decode cX7_tape 47 = .ok (.iload_n 2, 1) := by decide +kernel
theorem dX7_tape_48 : decode cX7_tape 48 = .ok (.iastore, 1) := by decide +kernel
theorem dX7_tape_49 : decode cX7_tape 49 = .ok (.aload_n 0, 1) := by decide +kernel
theorem dX7_tape_50 : decode cX7_tape 50 = .ok (.getfield 81, 3) := by decide +kernel
theorem dX7_tape_53 : decode cX7_tape 53 = .ok (.iload_n 1, 1) := by decide +kernel
theorem dX7_tape_54 : decode cX7_tape 54 = .ok (.iload_n 2, 1) := by decide +kernel
theorem dX7_tape_55 : decode cX7_tape 55 = .ok (.ifCond .ge 7, 3) := by decide +kernel
theorem dX7_tape_58 : decode cX7_tape 58 = .ok (.iconst 0, 1) := by decide +kernel
theorem dX7_tape_59 : decode cX7_tape 59 = .ok (.goto 4, 3) := by decide +kernel
theorem dX7_tape_62 : decode cX7_tape 62 = .ok (.iload_n 3, 1) := by decide +kernel
theorem dX7_tape_63 : decode cX7_tape 63 = .ok (.iastore, 1) := by decide +kernel
theorem dX7_tape_64 : decode cX7_tape 64 = .ok (.iconst 0, 1) := by decide +kernel
theorem dX7_tape_65 : decode cX7_tape 65 = .ok (.istore 4, 2) := by decide +kernel
theorem dX7_tape_67 : decode cX7_tape 67 = .ok (.iload 4, 2) := by decide +kernel
theorem dX7_tape_69 : decode cX7_tape 69 = .ok (.bipush 60, 2) := by decide +kernel
theorem dX7_tape_71 : decode cX7_tape 71 = .ok (.if_icmp .ge 19, 3) := by decide +kernel
theorem dX7_tape_74 : decode cX7_tape 74 = .ok (.aload_n 0, 1) := by decide +kernel
theorem dX7_tape_75 : decode cX7_tape 75 = .ok (.getfield 86, 3) := by decide +kernel
theorem dX7_tape_78 : decode cX7_tape 78 = .ok (.iload_n 1, 1) := by decide +kernel
theorem dX7_tape_79 : decode cX7_tape 79 = .ok (.aaload, 1) := by decide +kernel
theorem dX7_tape_80 : decode cX7_tape 80 = .ok (.iload 4, 2) := by decide +kernel
theorem dX7_tape_82 : decode cX7_tape 82 = .ok (.lconst 0, 1) := by decide +kernel
theorem dX7_tape_83 : decode cX7_tape 83 = .ok (.lastore, 1) := by decide +kernel
theorem dX7_tape_84 : decode cX7_tape 84 = .ok (.iinc 4 1, 3) := by decide +kernel
theorem dX7_tape_87 : decode cX7_tape 87 = .ok (.goto (-20), 3) := by decide +kernel
theorem dX7_tape_90 : decode cX7_tape 90 = .ok (.iconst 1, 1) := by decide +kernel
theorem dX7_tape_91 : decode cX7_tape 91 = .ok (.ireturn, 1) := by decide +kernel
theorem dX7_asItem_0 : decode cX7_asItem 0 = .ok (.iload_n 0, 1) := by decide +kernel
theorem dX7_asItem_1 : decode cX7_asItem 1 = .ok (.tableswitch 47 0 3 #[31, 36, 41, 45], 31) := by decide +kernel
theorem dX7_asItem_32 : decode cX7_asItem 32 = .ok (.lload_n 1, 1) := by decide +kernel
theorem dX7_asItem_33 : decode cX7_asItem 33 = .ok (.l2i, 1) := by decide +kernel
theorem dX7_asItem_34 : decode cX7_asItem 34 = .ok (.i2b, 1) := by decide +kernel
theorem dX7_asItem_35 : decode cX7_asItem 35 = .ok (.i2l, 1) := by decide +kernel
theorem dX7_asItem_36 : decode cX7_asItem 36 = .ok (.lreturn, 1) := by decide +kernel
theorem dX7_asItem_37 : decode cX7_asItem 37 = .ok (.lload_n 1, 1) := by decide +kernel
theorem dX7_asItem_38 : decode cX7_asItem 38 = .ok (.l2i, 1) := by decide +kernel
theorem dX7_asItem_39 : decode cX7_asItem 39 = .ok (.i2s, 1) := by decide +kernel
theorem dX7_asItem_40 : decode cX7_asItem 40 = .ok (.i2l, 1) := by decide +kernel
theorem dX7_asItem_41 : decode cX7_asItem 41 = .ok (.lreturn, 1) := by decide +kernel
theorem dX7_asItem_42 : decode cX7_asItem 42 = .ok (.lload_n 1, 1) := by decide +kernel
theorem dX7_asItem_43 : decode cX7_asItem 43 = .ok (.l2i, 1) := by decide +kernel
theorem dX7_asItem_44 : decode cX7_asItem 44 = .ok (.i2l, 1) := by decide +kernel
theorem dX7_asItem_45 : decode cX7_asItem 45 = .ok (.lreturn, 1) := by decide +kernel
theorem dX7_asItem_46 : decode cX7_asItem 46 = .ok (.lload_n 1, 1) := by decide +kernel
theorem dX7_asItem_47 : decode cX7_asItem 47 = .ok (.lreturn, 1) := by decide +kernel
theorem dX7_asItem_48 : decode cX7_asItem 48 = .ok (.lload_n 1, 1) := by decide +kernel
theorem dX7_asItem_49 : decode cX7_asItem 49 = .ok (.lconst 0, 1) := by decide +kernel
theorem dX7_asItem_50 : decode cX7_asItem 50 = .ok (.lcmp, 1) := by decide +kernel
theorem dX7_asItem_51 : decode cX7_asItem 51 = .ok (.ifCond .eq 7, 3) := by decide +kernel
theorem dX7_asItem_54 : decode cX7_asItem 54 = .ok (.lconst 1, 1) := by decide +kernel
theorem dX7_asItem_55 : decode cX7_asItem 55 = .ok (.goto 4, 3) := by decide +kernel
theorem dX7_asItem_58 : decode cX7_asItem 58 = .ok (.lconst 0, 1) := by decide +kernel
theorem dX7_asItem_59 : decode cX7_asItem 59 = .ok (.lreturn, 1) := by decide +kernel
theorem dX7_item_0 : decode cX7_item 0 = .ok (.iload_n 1, 1) := by decide +kernel
theorem dX7_item_1 : decode cX7_item 1 = .ok (.invokestatic 303, 3) := by decide +kernel
theorem dX7_item_4 : decode cX7_item 4 = .ok (.ifCond .ne 5, 3) := by decide +kernel
theorem dX7_item_7 : decode cX7_item 7 = .ok (.iconst (-1), 1) := by decide +kernel
theorem dX7_item_8 : decode cX7_item 8 = .ok (.ireturn, 1) := by decide +kernel
theorem dX7_item_9 : decode cX7_item 9 = .ok (.aload_n 0, 1) := by decide +kernel
theorem dX7_item_10 : decode cX7_item 10 = .ok (.getfield 78, 3) := by decide +kernel
theorem dX7_item_13 : decode cX7_item 13 = .ok (.iload_n 1, 1) := by decide +kernel
theorem dX7_item_14 : decode cX7_item 14 = .ok (.iaload, 1) := by decide +kernel
theorem dX7_item_15 : decode cX7_item 15 = .ok (.ifCond .ge 6, 3) := by decide +kernel
theorem dX7_item_18 : decode cX7_item 18 = .ok (.bipush (-11), 2) := by decide +kernel
theorem dX7_item_20 : decode cX7_item 20 = .ok (.ireturn, 1) := by decide +kernel
theorem dX7_item_21 : decode cX7_item 21 = .ok (.iload_n 2, 1) := by decide +kernel
theorem dX7_item_22 : decode cX7_item 22 = .ok (.iconst 0, 1) := by decide +kernel
theorem dX7_item_23 : decode cX7_item 23 = .ok (.aload_n 0, 1) := by decide +kernel
theorem dX7_item_24 : decode cX7_item 24 = .ok (.getfield 81, 3) := by decide +kernel
theorem dX7_item_27 : decode cX7_item 27 = .ok (.iload_n 1, 1) := by decide +kernel
theorem dX7_item_28 : decode cX7_item 28 = .ok (.iaload, 1) := by decide +kernel
theorem dX7_item_29 : decode cX7_item 29 = .ok (.iconst 1, 1) := by decide +kernel
theorem dX7_item_30 : decode cX7_item 30 = .ok (.isub, 1) := by decide +kernel
theorem dX7_item_31 : decode cX7_item 31 = .ok (.invokestatic 89, 3) := by decide +kernel
theorem dX7_item_34 : decode cX7_item 34 = .ok (.ifCond .ne 6, 3) := by decide +kernel
theorem dX7_item_37 : decode cX7_item 37 = .ok (.bipush (-13), 2) := by decide +kernel
theorem dX7_item_39 : decode cX7_item 39 = .ok (.ireturn, 1) := by decide +kernel
theorem dX7_item_40 : decode cX7_item 40 = .ok (.aload_n 0, 1) := by decide +kernel
theorem dX7_item_41 : decode cX7_item 41 = .ok (.getfield 86, 3) := by decide +kernel
theorem dX7_item_44 : decode cX7_item 44 = .ok (.iload_n 1, 1) := by decide +kernel
theorem dX7_item_45 : decode cX7_item 45 = .ok (.aaload, 1) := by decide +kernel
theorem dX7_item_46 : decode cX7_item 46 = .ok (.iload_n 2, 1) := by decide +kernel
theorem dX7_item_47 : decode cX7_item 47 = .ok (.aload_n 0, 1) := by decide +kernel
theorem dX7_item_48 : decode cX7_item 48 = .ok (.getfield 78, 3) := by decide +kernel
theorem dX7_item_51 : decode cX7_item 51 = .ok (.iload_n 1, 1) := by decide +kernel
theorem dX7_item_52 : decode cX7_item 52 = .ok (.iaload, 1) := by decide +kernel
theorem dX7_item_53 : decode cX7_item 53 = .ok (.lload_n 3, 1) := by decide +kernel
theorem dX7_item_54 : decode cX7_item 54 = .ok (.invokestatic 317, 3) := by decide +kernel
theorem dX7_item_57 : decode cX7_item 57 = .ok (.lastore, 1) := by decide +kernel
theorem dX7_item_58 : decode cX7_item 58 = .ok (.iconst 1, 1) := by decide +kernel
theorem dX7_item_59 : decode cX7_item 59 = .ok (.ireturn, 1) := by decide +kernel
theorem dX7_peek_0 : decode cX7_peek 0 = .ok (.iload_n 1, 1) := by decide +kernel
theorem dX7_peek_1 : decode cX7_peek 1 = .ok (.invokestatic 303, 3) := by decide +kernel
theorem dX7_peek_4 : decode cX7_peek 4 = .ok (.ifCond .eq 39, 3) := by decide +kernel
theorem dX7_peek_7 : decode cX7_peek 7 = .ok (.aload_n 0, 1) := by decide +kernel
theorem dX7_peek_8 : decode cX7_peek 8 = .ok (.getfield 78, 3) := by decide +kernel
theorem dX7_peek_11 : decode cX7_peek 11 = .ok (.iload_n 1, 1) := by decide +kernel
theorem dX7_peek_12 : decode cX7_peek 12 = .ok (.iaload, 1) := by decide +kernel
theorem dX7_peek_13 : decode cX7_peek 13 = .ok (.ifCond .lt 30, 3) := by decide +kernel
theorem dX7_peek_16 : decode cX7_peek 16 = .ok (.iload_n 2, 1) := by decide +kernel
theorem dX7_peek_17 : decode cX7_peek 17 = .ok (.iconst 0, 1) := by decide +kernel
theorem dX7_peek_18 : decode cX7_peek 18 = .ok (.aload_n 0, 1) := by decide +kernel
theorem dX7_peek_19 : decode cX7_peek 19 = .ok (.getfield 81, 3) := by decide +kernel
theorem dX7_peek_22 : decode cX7_peek 22 = .ok (.iload_n 1, 1) := by decide +kernel
theorem dX7_peek_23 : decode cX7_peek 23 = .ok (.iaload, 1) := by decide +kernel
theorem dX7_peek_24 : decode cX7_peek 24 = .ok (.iconst 1, 1) := by decide +kernel
theorem dX7_peek_25 : decode cX7_peek 25 = .ok (.isub, 1) := by decide +kernel
theorem dX7_peek_26 : decode cX7_peek 26 = .ok (.invokestatic 89, 3) := by decide +kernel
theorem dX7_peek_29 : decode cX7_peek 29 = .ok (.ifCond .eq 14, 3) := by decide +kernel
theorem dX7_peek_32 : decode cX7_peek 32 = .ok (.aload_n 0, 1) := by decide +kernel
theorem dX7_peek_33 : decode cX7_peek 33 = .ok (.getfield 86, 3) := by decide +kernel
theorem dX7_peek_36 : decode cX7_peek 36 = .ok (.iload_n 1, 1) := by decide +kernel
theorem dX7_peek_37 : decode cX7_peek 37 = .ok (.aaload, 1) := by decide +kernel
theorem dX7_peek_38 : decode cX7_peek 38 = .ok (.iload_n 2, 1) := by decide +kernel
theorem dX7_peek_39 : decode cX7_peek 39 = .ok (.laload, 1) := by decide +kernel
theorem dX7_peek_40 : decode cX7_peek 40 = .ok (.goto 6, 3) := by decide +kernel
theorem dX7_peek_43 : decode cX7_peek 43 = .ok (.ldc2_w 243, 3) := by decide +kernel
theorem dX7_peek_46 : decode cX7_peek 46 = .ok (.lreturn, 1) := by decide +kernel
theorem dX7_isWithin_0 : decode cX7_isWithin 0 = .ok (.iload_n 2, 1) := by decide +kernel
theorem dX7_isWithin_1 : decode cX7_isWithin 1 = .ok (.ifCond .lt 19, 3) := by decide +kernel
theorem dX7_isWithin_4 : decode cX7_isWithin 4 = .ok (.iload_n 2, 1) := by decide +kernel
theorem dX7_isWithin_5 : decode cX7_isWithin 5 = .ok (.aload_n 0, 1) := by decide +kernel
theorem dX7_isWithin_6 : decode cX7_isWithin 6 = .ok (.getfield 81, 3) := by decide +kernel
theorem dX7_isWithin_9 : decode cX7_isWithin 9 = .ok (.iload_n 1, 1) := by decide +kernel
theorem dX7_isWithin_10 : decode cX7_isWithin 10 = .ok (.iaload, 1) := by decide +kernel
theorem dX7_isWithin_11 : decode cX7_isWithin 11 = .ok (.iload_n 3, 1) := by decide +kernel
theorem dX7_isWithin_12 : decode cX7_isWithin 12 = .ok (.isub, 1) := by decide +kernel
theorem dX7_isWithin_13 : decode cX7_isWithin 13 = .ok (.if_icmp .gt 7, 3) := by decide +kernel
theorem dX7_isWithin_16 : decode cX7_isWithin 16 = .ok (.iconst 1, 1) := by decide +kernel
theorem dX7_isWithin_17 : decode cX7_isWithin 17 = .ok (.goto 4, 3) := by decide +kernel
theorem dX7_isWithin_20 : decode cX7_isWithin 20 = .ok (.iconst 0, 1) := by decide +kernel
theorem dX7_isWithin_21 : decode cX7_isWithin 21 = .ok (.ireturn, 1) := by decide +kernel
theorem dX7_shift_0 : decode cX7_shift 0 = .ok (.iload_n 1, 1) := by decide +kernel
theorem dX7_shift_1 : decode cX7_shift 1 = .ok (.invokestatic 303, 3) := by decide +kernel
theorem dX7_shift_4 : decode cX7_shift 4 = .ok (.ifCond .eq 10, 3) := by decide +kernel
theorem dX7_shift_7 : decode cX7_shift 7 = .ok (.iload_n 3, 1) := by decide +kernel
theorem dX7_shift_8 : decode cX7_shift 8 = .ok (.invokestatic 303, 3) := by decide +kernel
theorem dX7_shift_11 : decode cX7_shift 11 = .ok (.ifCond .ne 5, 3) := by decide +kernel
theorem dX7_shift_14 : decode cX7_shift 14 = .ok (.iconst (-1), 1) := by decide +kernel
theorem dX7_shift_15 : decode cX7_shift 15 = .ok (.ireturn, 1) := by decide +kernel
theorem dX7_shift_16 : decode cX7_shift 16 = .ok (.aload_n 0, 1) := by decide +kernel
theorem dX7_shift_17 : decode cX7_shift 17 = .ok (.getfield 78, 3) := by decide +kernel
theorem dX7_shift_20 : decode cX7_shift 20 = .ok (.iload_n 1, 1) := by decide +kernel
theorem dX7_shift_21 : decode cX7_shift 21 = .ok (.iaload, 1) := by decide +kernel
theorem dX7_shift_22 : decode cX7_shift 22 = .ok (.ifCond .lt 12, 3) := by decide +kernel
theorem dX7_shift_25 : decode cX7_shift 25 = .ok (.aload_n 0, 1) := by decide +kernel
theorem dX7_shift_26 : decode cX7_shift 26 = .ok (.getfield 78, 3) := by decide +kernel
theorem dX7_shift_29 : decode cX7_shift 29 = .ok (.iload_n 3, 1) := by decide +kernel
theorem dX7_shift_30 : decode cX7_shift 30 = .ok (.iaload, 1) := by decide +kernel
theorem dX7_shift_31 : decode cX7_shift 31 = .ok (.ifCond .ge 6, 3) := by decide +kernel
theorem dX7_shift_34 : decode cX7_shift 34 = .ok (.bipush (-11), 2) := by decide +kernel
theorem dX7_shift_36 : decode cX7_shift 36 = .ok (.ireturn, 1) := by decide +kernel
theorem dX7_shift_37 : decode cX7_shift 37 = .ok (.aload_n 0, 1) := by decide +kernel
theorem dX7_shift_38 : decode cX7_shift 38 = .ok (.getfield 78, 3) := by decide +kernel
theorem dX7_shift_41 : decode cX7_shift 41 = .ok (.iload_n 1, 1) := by decide +kernel
theorem dX7_shift_42 : decode cX7_shift 42 = .ok (.iaload, 1) := by decide +kernel
theorem dX7_shift_43 : decode cX7_shift 43 = .ok (.aload_n 0, 1) := by decide +kernel
theorem dX7_shift_44 : decode cX7_shift 44 = .ok (.getfield 78, 3) := by decide +kernel
theorem dX7_shift_47 : decode cX7_shift 47 = .ok (.iload_n 3, 1) := by decide +kernel
theorem dX7_shift_48 : decode cX7_shift 48 = .ok (.iaload, 1) := by decide +kernel
theorem dX7_shift_49 : decode cX7_shift 49 = .ok (.if_icmp .eq 6, 3) := by decide +kernel
theorem dX7_shift_52 : decode cX7_shift 52 = .ok (.bipush (-12), 2) := by decide +kernel
theorem dX7_shift_54 : decode cX7_shift 54 = .ok (.ireturn, 1) := by decide +kernel
theorem dX7_shift_55 : decode cX7_shift 55 = .ok (.iload 5, 2) := by decide +kernel
theorem dX7_shift_57 : decode cX7_shift 57 = .ok (.ifCond .lt 26, 3) := by decide +kernel
theorem dX7_shift_60 : decode cX7_shift 60 = .ok (.aload_n 0, 1) := by decide +kernel
theorem dX7_shift_61 : decode cX7_shift 61 = .ok (.iload_n 1, 1) := by decide +kernel
theorem dX7_shift_62 : decode cX7_shift 62 = .ok (.iload_n 2, 1) := by decide +kernel
theorem dX7_shift_63 : decode cX7_shift 63 = .ok (.iload 5, 2) := by decide +kernel
theorem dX7_shift_65 : decode cX7_shift 65 = .ok (.invokevirtual 321, 3) := by decide +kernel
theorem dX7_shift_68 : decode cX7_shift 68 = .ok (.ifCond .eq 15, 3) := by decide +kernel
theorem dX7_shift_71 : decode cX7_shift 71 = .ok (.aload_n 0, 1) := by decide +kernel
theorem dX7_shift_72 : decode cX7_shift 72 = .ok (.iload_n 3, 1) := by decide +kernel
theorem dX7_shift_73 : decode cX7_shift 73 = .ok (.iload 4, 2) := by decide +kernel
theorem dX7_shift_75 : decode cX7_shift 75 = .ok (.iload 5, 2) := by decide +kernel
theorem dX7_shift_77 : decode cX7_shift 77 = .ok (.invokevirtual 321, 3) := by decide +kernel
theorem dX7_shift_80 : decode cX7_shift 80 = .ok (.ifCond .ne 6, 3) := by decide +kernel
theorem dX7_shift_83 : decode cX7_shift 83 = .ok (.bipush (-13), 2) := by decide +kernel
theorem dX7_shift_85 : decode cX7_shift 85 = .ok (.ireturn, 1) := by decide +kernel
theorem dX7_shift_86 : decode cX7_shift 86 = .ok (.aload_n 0, 1) := by decide +kernel
theorem dX7_shift_87 : decode cX7_shift 87 = .ok (.getfield 86, 3) := by decide +kernel
theorem dX7_shift_90 : decode cX7_shift 90 = .ok (.iload_n 1, 1) := by decide +kernel
theorem dX7_shift_91 : decode cX7_shift 91 = .ok (.aaload, 1) := by decide +kernel
theorem dX7_shift_92 : decode cX7_shift 92 = .ok (.iload_n 2, 1) := by decide +kernel
theorem dX7_shift_93 : decode cX7_shift 93 = .ok (.aload_n 0, 1) := by decide +kernel
theorem dX7_shift_94 : decode cX7_shift 94 = .ok (.getfield 86, 3) := by decide +kernel
theorem dX7_shift_97 : decode cX7_shift 97 = .ok (.iload_n 3, 1) := by decide +kernel
theorem dX7_shift_98 : decode cX7_shift 98 = .ok (.aaload, 1) := by decide +kernel
theorem dX7_shift_99 : decode cX7_shift 99 = .ok (.iload 4, 2) := by decide +kernel
theorem dX7_shift_101 : decode cX7_shift 101 = .ok (.iload 5, 2) := by decide +kernel
theorem dX7_shift_103 : decode cX7_shift 103 = .ok (.invokestatic 148, 3) := by decide +kernel
theorem dX7_shift_106 : decode cX7_shift 106 = .ok (.iload 5, 2) := by decide +kernel
theorem dX7_shift_108 : decode cX7_shift 108 = .ok (.ireturn, 1) := by decide +kernel
theorem dJ13_compare_74951_0 : decode cJ13_compare_74951 0 = .ok (.lload_n 0, 1) := by decide +kernel
theorem dJ13_compare_74951_1 : decode cJ13_compare_74951 1 = .ok (.lload_n 2, 1) := by decide +kernel
theorem dJ13_compare_74951_2 : decode cJ13_compare_74951 2 = .ok (.lcmp, 1) := by decide +kernel
theorem dJ13_compare_74951_3 : decode cJ13_compare_74951 3 = .ok (.ifCond .ge 7, 3) := by decide +kernel
theorem dJ13_compare_74951_6 : decode cJ13_compare_74951 6 = .ok (.iconst (-1), 1) := by decide +kernel
theorem dJ13_compare_74951_7 : decode cJ13_compare_74951 7 = .ok (.goto 14, 3) := by decide +kernel
theorem dJ13_compare_74951_10 : decode cJ13_compare_74951 10 = .ok (.lload_n 0, 1) := by decide +kernel
theorem dJ13_compare_74951_11 : decode cJ13_compare_74951 11 = .ok (.lload_n 2, 1) := by decide +kernel
theorem dJ13_compare_74951_12 : decode cJ13_compare_74951 12 = .ok (.lcmp, 1) := by decide +kernel
theorem dJ13_compare_74951_13 : decode cJ13_compare_74951 13 = .ok (.ifCond .ne 7, 3) := by decide +kernel
theorem dJ13_compare_74951_16 : decode cJ13_compare_74951 16 = .ok (.iconst 0, 1) := by decide +kernel
theorem dJ13_compare_74951_17 : decode cJ13_compare_74951 17 = .ok (.goto 4, 3) := by decide +kernel
theorem dJ13_compare_74951_20 : decode cJ13_compare_74951 20 = .ok (.iconst 1, 1) := by decide +kernel
theorem dJ13_compare_74951_21 : decode cJ13_compare_74951 21 = .ok (.ireturn, 1) := by decide +kernel
theorem dJ9_abs_067f4_0 : decode cJ9_abs_067f4 0 = .ok (.lload_n 0, 1) := by decide +kernel
theorem dJ9_abs_067f4_1 : decode cJ9_abs_067f4 1 = .ok (.lconst 0, 1) := by decide +kernel
theorem dJ9_abs_067f4_2 : decode cJ9_abs_067f4 2 = .ok (.lcmp, 1) := by decide +kernel
theorem dJ9_abs_067f4_3 : decode cJ9_abs_067f4 3 = .ok (.ifCond .ge 8, 3) := by decide +kernel
theorem dJ9_abs_067f4_6 : decode cJ9_abs_067f4 6 = .ok (.lload_n 0, 1) := by decide +kernel
theorem dJ9_abs_067f4_7 : decode cJ9_abs_067f4 7 = .ok (.lneg, 1) := by decide +kernel
theorem dJ9_abs_067f4_8 : decode cJ9_abs_067f4 8 = .ok (.goto 4, 3) := by decide +kernel
theorem dJ9_abs_067f4_11 : decode cJ9_abs_067f4 11 = .ok (.lload_n 0, 1) := by decide +kernel
theorem dJ9_abs_067f4_12 : decode cJ9_abs_067f4 12 = .ok (.lreturn, 1) := by decide +kernel
theorem dJ9_max_7cf53_0 : decode cJ9_max_7cf53 0 = .ok (.iload_n 0, 1) := by decide +kernel
theorem dJ9_max_7cf53_1 : decode cJ9_max_7cf53 1 = .ok (.iload_n 1, 1) := by decide +kernel
theorem dJ9_max_7cf53_2 : decode cJ9_max_7cf53 2 = .ok (.if_icmp .lt 7, 3) := by decide +kernel
theorem dJ9_max_7cf53_5 : decode cJ9_max_7cf53 5 = .ok (.iload_n 0, 1) := by decide +kernel
theorem dJ9_max_7cf53_6 : decode cJ9_max_7cf53 6 = .ok (.goto 4, 3) := by decide +kernel
theorem dJ9_max_7cf53_9 : decode cJ9_max_7cf53 9 = .ok (.iload_n 1, 1) := by decide +kernel
theorem dJ9_max_7cf53_10 : decode cJ9_max_7cf53 10 = .ok (.ireturn, 1) := by decide +kernel
theorem dJ9_min_7cf53_0 : decode cJ9_min_7cf53 0 = .ok (.iload_n 0, 1) := by decide +kernel
theorem dJ9_min_7cf53_1 : decode cJ9_min_7cf53 1 = .ok (.iload_n 1, 1) := by decide +kernel
theorem dJ9_min_7cf53_2 : decode cJ9_min_7cf53 2 = .ok (.if_icmp .gt 7, 3) := by decide +kernel
theorem dJ9_min_7cf53_5 : decode cJ9_min_7cf53 5 = .ok (.iload_n 0, 1) := by decide +kernel
theorem dJ9_min_7cf53_6 : decode cJ9_min_7cf53 6 = .ok (.goto 4, 3) := by decide +kernel
theorem dJ9_min_7cf53_9 : decode cJ9_min_7cf53 9 = .ok (.iload_n 1, 1) := by decide +kernel
theorem dJ9_min_7cf53_10 : decode cJ9_min_7cf53 10 = .ok (.ireturn, 1) := by decide +kernel
theorem dJ0_length_8abf5_0 : decode cJ0_length_8abf5 0 = .ok (.aload_n 0, 1) := by decide +kernel
theorem dJ0_length_8abf5_1 : decode cJ0_length_8abf5 1 = .ok (.getfield 9, 3) := by decide +kernel
theorem dJ0_length_8abf5_4 : decode cJ0_length_8abf5 4 = .ok (.arraylength, 1) := by decide +kernel
theorem dJ0_length_8abf5_5 : decode cJ0_length_8abf5 5 = .ok (.aload_n 0, 1) := by decide +kernel
theorem dJ0_length_8abf5_6 : decode cJ0_length_8abf5 6 = .ok (.invokevirtual 335, 3) := by decide +kernel
theorem dJ0_length_8abf5_9 : decode cJ0_length_8abf5 9 = .ok (.ishr, 1) := by decide +kernel
theorem dJ0_length_8abf5_10 : decode cJ0_length_8abf5 10 = .ok (.ireturn, 1) := by decide +kernel
theorem dJ0_charAt_5068e_0 : decode cJ0_charAt_5068e 0 = .ok (.aload_n 0, 1) := by decide +kernel
theorem dJ0_charAt_5068e_1 : decode cJ0_charAt_5068e 1 = .ok (.invokevirtual 492, 3) := by decide +kernel
theorem dJ0_charAt_5068e_4 : decode cJ0_charAt_5068e 4 = .ok (.ifCond .eq 12, 3) := by decide +kernel
theorem dJ0_charAt_5068e_7 : decode cJ0_charAt_5068e 7 = .ok (.aload_n 0, 1) := by decide +kernel
theorem dJ0_charAt_5068e_8 : decode cJ0_charAt_5068e 8 = .ok (.getfield 9, 3) := by decide +kernel
theorem dJ0_charAt_5068e_11 : decode cJ0_charAt_5068e 11 = .ok (.iload_n 1, 1) := by decide +kernel
theorem dJ0_charAt_5068e_12 : decode cJ0_charAt_5068e 12 = .ok (.invokestatic 495, 3) := by decide +kernel
theorem dJ0_charAt_5068e_15 : decode cJ0_charAt_5068e 15 = .ok (.ireturn, 1) := by decide +kernel
theorem dJ0_charAt_5068e_16 : decode cJ0_charAt_5068e 16 = .ok (.aload_n 0, 1) := by decide +kernel
theorem dJ0_charAt_5068e_17 : decode cJ0_charAt_5068e 17 = .ok (.getfield 9, 3) := by decide +kernel
theorem dJ0_charAt_5068e_20 : decode cJ0_charAt_5068e 20 = .ok (.iload_n 1, 1) := by decide +kernel
theorem dJ0_charAt_5068e_21 : decode cJ0_charAt_5068e 21 = .ok (.invokestatic 498, 3) := by decide +kernel
theorem dJ0_charAt_5068e_24 : decode cJ0_charAt_5068e 24 = .ok (.ireturn, 1) := by decide +kernel
theorem dJ0_coder_7d493_0 : decode cJ0_coder_7d493 0 = .ok (.getstatic 38, 3) := by decide +kernel
theorem dJ0_coder_7d493_3 : decode cJ0_coder_7d493 3 = .ok (.ifCond .eq 10, 3) := by decide +kernel
theorem dJ0_coder_7d493_6 : decode cJ0_coder_7d493 6 = .ok (.aload_n 0, 1) := by decide +kernel
theorem dJ0_coder_7d493_7 : decode cJ0_coder_7d493 7 = .ok (.getfield 15, 3) := by decide +kernel
theorem dJ0_coder_7d493_10 : decode cJ0_coder_7d493 10 = .ok (.goto 4, 3) := by decide +kernel
theorem dJ0_coder_7d493_13 : decode cJ0_coder_7d493 13 = .ok (.iconst 1, 1) := by decide +kernel
theorem dJ0_coder_7d493_14 : decode cJ0_coder_7d493 14 = .ok (.ireturn, 1) := by decide +kernel
theorem dJ0_isLatin1_aae02_0 : decode cJ0_isLatin1_aae02 0 = .ok (.getstatic 38, 3) := by decide +kernel
theorem dJ0_isLatin1_aae02_3 : decode cJ0_isLatin1_aae02 3 = .ok (.ifCond .eq 14, 3) := by decide +kernel
theorem dJ0_isLatin1_aae02_6 : decode cJ0_isLatin1_aae02 6 = .ok (.aload_n 0, 1) := by decide +kernel
theorem dJ0_isLatin1_aae02_7 : decode cJ0_isLatin1_aae02 7 = .ok (.getfield 15, 3) := by decide +kernel
theorem dJ0_isLatin1_aae02_10 : decode cJ0_isLatin1_aae02 10 = .ok (.ifCond .ne 7, 3) := by decide +kernel
theorem dJ0_isLatin1_aae02_13 : decode cJ0_isLatin1_aae02 13 = .ok (.iconst 1, 1) := by decide +kernel
theorem dJ0_isLatin1_aae02_14 : decode cJ0_isLatin1_aae02 14 = .ok (.goto 4, 3) := by decide +kernel
theorem dJ0_isLatin1_aae02_17 : decode cJ0_isLatin1_aae02 17 = .ok (.iconst 0, 1) := by decide +kernel
theorem dJ0_isLatin1_aae02_18 : decode cJ0_isLatin1_aae02 18 = .ok (.ireturn, 1) := by decide +kernel
theorem dJ0_checkIndex_df160_0 : decode cJ0_checkIndex_df160 0 = .ok (.iload_n 0, 1) := by decide +kernel
theorem dJ0_checkIndex_df160_1 : decode cJ0_checkIndex_df160 1 = .ok (.iload_n 1, 1) := by decide +kernel
theorem dJ0_checkIndex_df160_2 : decode cJ0_checkIndex_df160 2 = .ok (.getstatic 1053, 3) := by decide +kernel
theorem dJ0_checkIndex_df160_5 : decode cJ0_checkIndex_df160 5 = .ok (.invokestatic 1059, 3) := by decide +kernel
theorem dJ0_checkIndex_df160_8 : decode cJ0_checkIndex_df160 8 = .ok (.pop, 1) := by decide +kernel
theorem dJ0_checkIndex_df160_9 : decode cJ0_checkIndex_df160 9 = .ok (.return_, 1) := by decide +kernel
theorem dJ1_charAt_3b067_0 : decode cJ1_charAt_3b067 0 = .ok (.iload_n 1, 1) := by decide +kernel
theorem dJ1_charAt_3b067_1 : decode cJ1_charAt_3b067 1 = .ok (.aload_n 0, 1) := by decide +kernel
theorem dJ1_charAt_3b067_2 : decode cJ1_charAt_3b067 2 = .ok (.arraylength, 1) := by decide +kernel
theorem dJ1_charAt_3b067_3 : decode cJ1_charAt_3b067 3 = .ok (.invokestatic 9, 3) := by decide +kernel
theorem dJ1_charAt_3b067_6 : decode cJ1_charAt_3b067 6 = .ok (.aload_n 0, 1) := by decide +kernel
theorem dJ1_charAt_3b067_7 : decode cJ1_charAt_3b067 7 = .ok (.iload_n 1, 1) := by decide +kernel
theorem dJ1_charAt_3b067_8 : decode cJ1_charAt_3b067 8 = .ok (.baload, 1) := by decide +kernel
theorem dJ1_charAt_3b067_9 : decode cJ1_charAt_3b067 9 = .ok (.sipush 255, 3) := by decide +kernel
theorem dJ1_charAt_3b067_12 : decode cJ1_charAt_3b067 12 = .ok (.iand, 1) := by decide +kernel
theorem dJ1_charAt_3b067_13 : decode cJ1_charAt_3b067 13 = .ok (.i2c, 1) := by decide +kernel
theorem dJ1_charAt_3b067_14 : decode cJ1_charAt_3b067 14 = .ok (.ireturn, 1) := by decide +kernel
theorem dJ2_getChar_3b067_0 : decode cJ2_getChar_3b067 0 = .ok (.getstatic 44, 3) := by decide +kernel
theorem dJ2_getChar_3b067_3 : decode cJ2_getChar_3b067 3 = .ok (.ifCond .ne 25, 3) := by decide +kernel
theorem dJ2_getChar_3b067_6 : decode cJ2_getChar_3b067 6 = .ok (.iload_n 1, 1) := by decide +kernel
theorem dJ2_getChar_3b067_7 : decode cJ2_getChar_3b067 7 = .ok (.ifCond .lt 11, 3) := by decide +kernel
theorem dJ2_getChar_3b067_10 : decode cJ2_getChar_3b067 10 = .ok (.iload_n 1, 1) := by decide +kernel
theorem dJ2_getChar_3b067_11 : decode cJ2_getChar_3b067 11 = .ok (.aload_n 0, 1) := by decide +kernel
theorem dJ2_getChar_3b067_12 : decode cJ2_getChar_3b067 12 = .ok (.invokestatic 48, 3) := by decide +kernel
theorem dJ2_getChar_3b067_15 : decode cJ2_getChar_3b067 15 = .ok (.if_icmp .lt 13, 3) := by decide +kernel
theorem dJ2_getChar_3b067_18 : decode cJ2_getChar_3b067 18 = .ok (.new 52, 3) := by decide +kernel
theorem dJ2_getChar_3b067_21 : decode cJ2_getChar_3b067 21 = .ok (.dup, 1) := by decide +kernel
theorem dJ2_getChar_3b067_22 : decode cJ2_getChar_3b067 22 = .ok (.ldc 54, 2) := by decide +kernel
theorem dJ2_getChar_3b067_24 : decode cJ2_getChar_3b067 24 = .ok (.invokespecial 56, 3) := by decide +kernel
theorem dJ2_getChar_3b067_27 : decode cJ2_getChar_3b067 27 = .ok (.athrow, 1) := by decide +kernel
theorem dJ2_getChar_3b067_28 : decode cJ2_getChar_3b067 28 = .ok (.iload_n 1, 1) := by decide +kernel
theorem dJ2_getChar_3b067_29 : decode cJ2_getChar_3b067 29 = .ok (.iconst 1, 1) := by decide +kernel
theorem dJ2_getChar_3b067_30 : decode cJ2_getChar_3b067 30 = .ok (.ishl, 1) := by decide +kernel
theorem dJ2_getChar_3b067_31 : decode cJ2_getChar_3b067 31 = .ok (.istore_n 1, 1) := by decide +kernel
theorem dJ2_getChar_3b067_32 : decode cJ2_getChar_3b067 32 = .ok (.aload_n 0, 1) := by decide +kernel
theorem dJ2_getChar_3b067_33 : decode cJ2_getChar_3b067 33 = .ok (.iload_n 1, 1) := by decide +kernel
theorem dJ2_getChar_3b067_34 : decode cJ2_getChar_3b067 34 = .ok (.iinc 1 1, 3) := by decide +kernel
theorem dJ2_getChar_3b067_37 : decode cJ2_getChar_3b067 37 = .ok (.baload, 1) := by decide +kernel
theorem dJ2_getChar_3b067_38 : decode cJ2_getChar_3b067 38 = .ok (.sipush 255, 3) := by decide +kernel
theorem dJ2_getChar_3b067_41 : decode cJ2_getChar_3b067 41 = .ok (.iand, 1) := by decide +kernel
theorem dJ2_getChar_3b067_42 : decode cJ2_getChar_3b067 42 = .ok (.getstatic 59, 3) := by decide +kernel
theorem dJ2_getChar_3b067_45 : decode cJ2_getChar_3b067 45 = .ok (.ishl, 1) := by decide +kernel
theorem dJ2_getChar_3b067_46 : decode cJ2_getChar_3b067 46 = .ok (.aload_n 0, 1) := by decide +kernel
theorem dJ2_getChar_3b067_47 : decode cJ2_getChar_3b067 47 = .ok (.iload_n 1, 1) := by decide +kernel
theorem dJ2_getChar_3b067_48 : decode cJ2_getChar_3b067 48 = .ok (.baload, 1) := by decide +kernel
theorem dJ2_getChar_3b067_49 : decode cJ2_getChar_3b067 49 = .ok (.sipush 255, 3) := by decide +kernel
theorem dJ2_getChar_3b067_52 : decode cJ2_getChar_3b067 52 = .ok (.iand, 1) := by decide +kernel
theorem dJ2_getChar_3b067_53 : decode cJ2_getChar_3b067 53 = .ok (.getstatic 63, 3) := by decide +kernel
theorem dJ2_getChar_3b067_56 : decode cJ2_getChar_3b067 56 = .ok (.ishl, 1) := by decide +kernel
theorem dJ2_getChar_3b067_57 : decode cJ2_getChar_3b067 57 = .ok (.ior, 1) := by decide +kernel
theorem dJ2_getChar_3b067_58 : decode cJ2_getChar_3b067 58 = .ok (.i2c, 1) := by decide +kernel
theorem dJ2_getChar_3b067_59 : decode cJ2_getChar_3b067 59 = .ok (.ireturn, 1) := by decide +kernel
theorem dJ2_length_9d52b_0 : decode cJ2_length_9d52b 0 = .ok (.aload_n 0, 1) := by decide +kernel
theorem dJ2_length_9d52b_1 : decode cJ2_length_9d52b 1 = .ok (.arraylength, 1) := by decide +kernel
theorem dJ2_length_9d52b_2 : decode cJ2_length_9d52b 2 = .ok (.iconst 1, 1) := by decide +kernel
theorem dJ2_length_9d52b_3 : decode cJ2_length_9d52b 3 = .ok (.ishr, 1) := by decide +kernel
theorem dJ2_length_9d52b_4 : decode cJ2_length_9d52b 4 = .ok (.ireturn, 1) := by decide +kernel
theorem dJ2_charAt_3b067_0 : decode cJ2_charAt_3b067 0 = .ok (.iload_n 1, 1) := by decide +kernel
theorem dJ2_charAt_3b067_1 : decode cJ2_charAt_3b067 1 = .ok (.aload_n 0, 1) := by decide +kernel
theorem dJ2_charAt_3b067_2 : decode cJ2_charAt_3b067 2 = .ok (.invokestatic 67, 3) := by decide +kernel
theorem dJ2_charAt_3b067_5 : decode cJ2_charAt_3b067 5 = .ok (.aload_n 0, 1) := by decide +kernel
theorem dJ2_charAt_3b067_6 : decode cJ2_charAt_3b067 6 = .ok (.iload_n 1, 1) := by decide +kernel
theorem dJ2_charAt_3b067_7 : decode cJ2_charAt_3b067 7 = .ok (.invokestatic 71, 3) := by decide +kernel
theorem dJ2_charAt_3b067_10 : decode cJ2_charAt_3b067 10 = .ok (.ireturn, 1) := by decide +kernel
theorem dJ2_checkIndex_2214a_0 : decode cJ2_checkIndex_2214a 0 = .ok (.iload_n 0, 1) := by decide +kernel
theorem dJ2_checkIndex_2214a_1 : decode cJ2_checkIndex_2214a 1 = .ok (.aload_n 1, 1) := by decide +kernel
theorem dJ2_checkIndex_2214a_2 : decode cJ2_checkIndex_2214a 2 = .ok (.invokestatic 48, 3) := by decide +kernel
theorem dJ2_checkIndex_2214a_5 : decode cJ2_checkIndex_2214a 5 = .ok (.invokestatic 414, 3) := by decide +kernel
theorem dJ2_checkIndex_2214a_8 : decode cJ2_checkIndex_2214a 8 = .ok (.return_, 1) := by decide +kernel
theorem dJ3_checkIndex_8e157_0 : decode cJ3_checkIndex_8e157 0 = .ok (.iload_n 0, 1) := by decide +kernel
theorem dJ3_checkIndex_8e157_1 : decode cJ3_checkIndex_8e157 1 = .ok (.ifCond .lt 8, 3) := by decide +kernel
theorem dJ3_checkIndex_8e157_4 : decode cJ3_checkIndex_8e157 4 = .ok (.iload_n 0, 1) := by decide +kernel
theorem dJ3_checkIndex_8e157_5 : decode cJ3_checkIndex_8e157 5 = .ok (.iload_n 1, 1) := by decide +kernel
theorem dJ3_checkIndex_8e157_6 : decode cJ3_checkIndex_8e157 6 = .ok (.if_icmp .lt 10, 3) := by decide +kernel
theorem dJ3_checkIndex_8e157_9 : decode cJ3_checkIndex_8e157 9 = .ok (.aload_n 2, 1) := by decide +kernel
theorem dJ3_checkIndex_8e157_10 : decode cJ3_checkIndex_8e157 10 = .ok (.iload_n 0, 1) := by decide +kernel
theorem dJ3_checkIndex_8e157_11 : decode cJ3_checkIndex_8e157 11 = .ok (.iload_n 1, 1) := by decide +kernel
theorem dJ3_checkIndex_8e157_12 : decode cJ3_checkIndex_8e157 12 = .ok (.invokestatic 95, 3) := by decide +kernel
theorem dJ3_checkIndex_8e157_15 : decode cJ3_checkIndex_8e157 15 = .ok (.athrow, 1) := by decide +kernel
theorem dJ3_checkIndex_8e157_16 : decode cJ3_checkIndex_8e157 16 = .ok (.iload_n 0, 1) := by decide +kernel
theorem dJ3_checkIndex_8e157_17 : decode cJ3_checkIndex_8e157 17 = .ok (.ireturn, 1) := by decide +kernel
theorem dL_law_0 : decode cL_law 0 = .ok (.new 7, 3) := by decide +kernel
theorem dL_law_3 : decode cL_law 3 = .ok (.dup, 1) := by decide +kernel
theorem dL_law_4 : decode cL_law 4 = .ok (.invokespecial 9, 3) := by decide +kernel
theorem dL_law_7 : decode cL_law 7 = .ok (.astore_n 1, 1) := by decide +kernel
theorem dL_law_8 : decode cL_law 8 = .ok (.new 10, 3) := by decide +kernel
theorem dL_law_11 : decode cL_law 11 = .ok (.dup, 1) := by decide +kernel
theorem dL_law_12 : decode cL_law 12 = .ok (.invokespecial 12, 3) := by decide +kernel
theorem dL_law_15 : decode cL_law 15 = .ok (.astore_n 2, 1) := by decide +kernel
theorem dL_law_16 : decode cL_law 16 = .ok (.iconst 0, 1) := by decide +kernel
theorem dL_law_17 : decode cL_law 17 = .ok (.istore_n 3, 1) := by decide +kernel
theorem dL_law_18 : decode cL_law 18 = .ok (.iload_n 3, 1) := by decide +kernel
theorem dL_law_19 : decode cL_law 19 = .ok (.aload_n 0, 1) := by decide +kernel
theorem dL_law_20 : decode cL_law 20 = .ok (.arraylength, 1) := by decide +kernel
theorem dL_law_21 : decode cL_law 21 = .ok (.bipush 6, 2) := by decide +kernel
theorem dL_law_23 : decode cL_law 23 = .ok (.isub, 1) := by decide +kernel
theorem dL_law_24 : decode cL_law 24 = .ok (.if_icmp .gt 1299, 3) := by decide +kernel
theorem dL_law_27 : decode cL_law 27 = .ok (.aload_n 0, 1) := by decide +kernel
theorem dL_law_28 : decode cL_law 28 = .ok (.iload_n 3, 1) := by decide +kernel
theorem dL_law_29 : decode cL_law 29 = .ok (.iaload, 1) := by decide +kernel
theorem dL_law_30 : decode cL_law 30 = .ok (.bipush 31, 2) := by decide +kernel
theorem dL_law_32 : decode cL_law 32 = .ok (.iand, 1) := by decide +kernel
theorem dL_law_33 : decode cL_law 33 = .ok (.tableswitch 1284 0 31 #[143, 196, 229, 262, 295, 328, 381, 404, 417, 450, 483, 517, 550, 583, 616, 670, 713, 756, 799, 843, 867, 900, 933, 966, 979, 1022, 1035, 1048, 1071, 1114, 1187, 1221], 143) := by decide +kernel
theorem dL_law_176 : decode cL_law 176 = .ok (.aload_n 1, 1) := by decide +kernel
theorem dL_law_177 : decode cL_law 177 = .ok (.aload_n 0, 1) := by decide +kernel
theorem dL_law_178 : decode cL_law 178 = .ok (.iload_n 3, 1) := by decide +kernel
theorem dL_law_179 : decode cL_law 179 = .ok (.iconst 1, 1) := by decide +kernel
theorem dL_law_180 : decode cL_law 180 = .ok (.iadd, 1) := by decide +kernel
theorem dL_law_181 : decode cL_law 181 = .ok (.iaload, 1) := by decide +kernel
theorem dL_law_182 : decode cL_law 182 = .ok (.aload_n 0, 1) := by decide +kernel
theorem dL_law_183 : decode cL_law 183 = .ok (.iload_n 3, 1) := by decide +kernel
theorem dL_law_184 : decode cL_law 184 = .ok (.iconst 2, 1) := by decide +kernel
theorem dL_law_185 : decode cL_law 185 = .ok (.iadd, 1) := by decide +kernel
theorem dL_law_186 : decode cL_law 186 = .ok (.iaload, 1) := by decide +kernel
theorem dL_law_187 : decode cL_law 187 = .ok (.aload_n 0, 1) := by decide +kernel
theorem dL_law_188 : decode cL_law 188 = .ok (.iload_n 3, 1) := by decide +kernel
theorem dL_law_189 : decode cL_law 189 = .ok (.iconst 3, 1) := by decide +kernel
theorem dL_law_190 : decode cL_law 190 = .ok (.iadd, 1) := by decide +kernel
theorem dL_law_191 : decode cL_law 191 = .ok (.iaload, 1) := by decide +kernel
theorem dL_law_192 : decode cL_law 192 = .ok (.aload_n 0, 1) := by decide +kernel
theorem dL_law_193 : decode cL_law 193 = .ok (.iload_n 3, 1) := by decide +kernel
theorem dL_law_194 : decode cL_law 194 = .ok (.iconst 4, 1) := by decide +kernel
theorem dL_law_195 : decode cL_law 195 = .ok (.iadd, 1) := by decide +kernel
theorem dL_law_196 : decode cL_law 196 = .ok (.iaload, 1) := by decide +kernel
theorem dL_law_197 : decode cL_law 197 = .ok (.invokevirtual 13, 3) := by decide +kernel
theorem dL_law_200 : decode cL_law 200 = .ok (.aload_n 2, 1) := by decide +kernel
theorem dL_law_201 : decode cL_law 201 = .ok (.aload_n 0, 1) := by decide +kernel
theorem dL_law_202 : decode cL_law 202 = .ok (.iload_n 3, 1) := by decide +kernel
theorem dL_law_203 : decode cL_law 203 = .ok (.iconst 1, 1) := by decide +kernel
theorem dL_law_204 : decode cL_law 204 = .ok (.iadd, 1) := by decide +kernel
theorem dL_law_205 : decode cL_law 205 = .ok (.iaload, 1) := by decide +kernel
theorem dL_law_206 : decode cL_law 206 = .ok (.aload_n 0, 1) := by decide +kernel
theorem dL_law_207 : decode cL_law 207 = .ok (.iload_n 3, 1) := by decide +kernel
theorem dL_law_208 : decode cL_law 208 = .ok (.iconst 2, 1) := by decide +kernel
theorem dL_law_209 : decode cL_law 209 = .ok (.iadd, 1) := by decide +kernel
theorem dL_law_210 : decode cL_law 210 = .ok (.iaload, 1) := by decide +kernel
theorem dL_law_211 : decode cL_law 211 = .ok (.aload_n 0, 1) := by decide +kernel
theorem dL_law_212 : decode cL_law 212 = .ok (.iload_n 3, 1) := by decide +kernel
theorem dL_law_213 : decode cL_law 213 = .ok (.iconst 3, 1) := by decide +kernel
theorem dL_law_214 : decode cL_law 214 = .ok (.iadd, 1) := by decide +kernel
theorem dL_law_215 : decode cL_law 215 = .ok (.iaload, 1) := by decide +kernel
theorem dL_law_216 : decode cL_law 216 = .ok (.aload_n 0, 1) := by decide +kernel
theorem dL_law_217 : decode cL_law 217 = .ok (.iload_n 3, 1) := by decide +kernel
theorem dL_law_218 : decode cL_law 218 = .ok (.iconst 4, 1) := by decide +kernel
theorem dL_law_219 : decode cL_law 219 = .ok (.iadd, 1) := by decide +kernel
theorem dL_law_220 : decode cL_law 220 = .ok (.iaload, 1) := by decide +kernel
theorem dL_law_221 : decode cL_law 221 = .ok (.invokevirtual 17, 3) := by decide +kernel
theorem dL_law_224 : decode cL_law 224 = .ok (.if_icmp .eq 1093, 3) := by decide +kernel
theorem dL_law_227 : decode cL_law 227 = .ok (.iconst 0, 1) := by decide +kernel
theorem dL_law_228 : decode cL_law 228 = .ok (.ireturn, 1) := by decide +kernel
theorem dL_law_229 : decode cL_law 229 = .ok (.aload_n 1, 1) := by decide +kernel
theorem dL_law_230 : decode cL_law 230 = .ok (.aload_n 0, 1) := by decide +kernel
theorem dL_law_231 : decode cL_law 231 = .ok (.iload_n 3, 1) := by decide +kernel
theorem dL_law_232 : decode cL_law 232 = .ok (.iconst 1, 1) := by decide +kernel
theorem dL_law_233 : decode cL_law 233 = .ok (.iadd, 1) := by decide +kernel
theorem dL_law_234 : decode cL_law 234 = .ok (.iaload, 1) := by decide +kernel
theorem dL_law_235 : decode cL_law 235 = .ok (.aload_n 0, 1) := by decide +kernel
theorem dL_law_236 : decode cL_law 236 = .ok (.iload_n 3, 1) := by decide +kernel
theorem dL_law_237 : decode cL_law 237 = .ok (.iconst 2, 1) := by decide +kernel
theorem dL_law_238 : decode cL_law 238 = .ok (.iadd, 1) := by decide +kernel
theorem dL_law_239 : decode cL_law 239 = .ok (.iaload, 1) := by decide +kernel
theorem dL_law_240 : decode cL_law 240 = .ok (.invokevirtual 18, 3) := by decide +kernel
theorem dL_law_243 : decode cL_law 243 = .ok (.aload_n 2, 1) := by decide +kernel
theorem dL_law_244 : decode cL_law 244 = .ok (.aload_n 0, 1) := by decide +kernel
theorem dL_law_245 : decode cL_law 245 = .ok (.iload_n 3, 1) := by decide +kernel
theorem dL_law_246 : decode cL_law 246 = .ok (.iconst 1, 1) := by decide +kernel
theorem dL_law_247 : decode cL_law 247 = .ok (.iadd, 1) := by decide +kernel
theorem dL_law_248 : decode cL_law 248 = .ok (.iaload, 1) := by decide +kernel
theorem dL_law_249 : decode cL_law 249 = .ok (.aload_n 0, 1) := by decide +kernel
theorem dL_law_250 : decode cL_law 250 = .ok (.iload_n 3, 1) := by decide +kernel
theorem dL_law_251 : decode cL_law 251 = .ok (.iconst 2, 1) := by decide +kernel
theorem dL_law_252 : decode cL_law 252 = .ok (.iadd, 1) := by decide +kernel
theorem dL_law_253 : decode cL_law 253 = .ok (.iaload, 1) := by decide +kernel
theorem dL_law_254 : decode cL_law 254 = .ok (.invokevirtual 22, 3) := by decide +kernel
theorem dL_law_257 : decode cL_law 257 = .ok (.if_icmp .eq 1060, 3) := by decide +kernel
theorem dL_law_260 : decode cL_law 260 = .ok (.iconst 0, 1) := by decide +kernel
theorem dL_law_261 : decode cL_law 261 = .ok (.ireturn, 1) := by decide +kernel
theorem dL_law_262 : decode cL_law 262 = .ok (.aload_n 1, 1) := by decide +kernel
theorem dL_law_263 : decode cL_law 263 = .ok (.aload_n 0, 1) := by decide +kernel
theorem dL_law_264 : decode cL_law 264 = .ok (.iload_n 3, 1) := by decide +kernel
theorem dL_law_265 : decode cL_law 265 = .ok (.iconst 1, 1) := by decide +kernel
theorem dL_law_266 : decode cL_law 266 = .ok (.iadd, 1) := by decide +kernel
theorem dL_law_267 : decode cL_law 267 = .ok (.iaload, 1) := by decide +kernel
theorem dL_law_268 : decode cL_law 268 = .ok (.aload_n 0, 1) := by decide +kernel
theorem dL_law_269 : decode cL_law 269 = .ok (.iload_n 3, 1) := by decide +kernel
theorem dL_law_270 : decode cL_law 270 = .ok (.iconst 2, 1) := by decide +kernel
theorem dL_law_271 : decode cL_law 271 = .ok (.iadd, 1) := by decide +kernel
theorem dL_law_272 : decode cL_law 272 = .ok (.iaload, 1) := by decide +kernel
