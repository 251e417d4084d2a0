theorem dX7_cut_42 : decode cX7_cut 42 = .ok (.iload_n 3, 1) := by decide +kernel
theorem dX7_cut_43 : decode cX7_cut 43 = .ok (.ireturn, 1) := by decide +kernel
theorem dX7_copies_0 : decode cX7_copies 0 = .ok (.iload_n 1, 1) := by decide +kernel
theorem dX7_copies_1 : decode cX7_copies 1 = .ok (.invokestatic 135, 3) := by decide +kernel
theorem dX7_copies_4 : decode cX7_copies 4 = .ok (.ifCond .eq 10, 3) := by decide +kernel
theorem dX7_copies_7 : decode cX7_copies 7 = .ok (.iload_n 2, 1) := by decide +kernel
theorem dX7_copies_8 : decode cX7_copies 8 = .ok (.invokestatic 135, 3) := by decide +kernel
theorem dX7_copies_11 : decode cX7_copies 11 = .ok (.ifCond .ne 5, 3) := by decide +kernel
theorem dX7_copies_14 : decode cX7_copies 14 = .ok (.iconst (-1), 1) := by decide +kernel
theorem dX7_copies_15 : decode cX7_copies 15 = .ok (.ireturn, 1) := by decide +kernel
theorem dX7_copies_16 : decode cX7_copies 16 = .ok (.aload_n 0, 1) := by decide +kernel
theorem dX7_copies_17 : decode cX7_copies 17 = .ok (.getfield 11, 3) := by decide +kernel
theorem dX7_copies_20 : decode cX7_copies 20 = .ok (.iload_n 1, 1) := by decide +kernel
theorem dX7_copies_21 : decode cX7_copies 21 = .ok (.aload_n 0, 1) := by decide +kernel
theorem dX7_copies_22 : decode cX7_copies 22 = .ok (.getfield 11, 3) := by decide +kernel
theorem dX7_copies_25 : decode cX7_copies 25 = .ok (.iload_n 2, 1) := by decide +kernel
theorem dX7_copies_26 : decode cX7_copies 26 = .ok (.iaload, 1) := by decide +kernel
theorem dX7_copies_27 : decode cX7_copies 27 = .ok (.iastore, 1) := by decide +kernel
theorem dX7_copies_28 : decode cX7_copies 28 = .ok (.aload_n 0, 1) := by decide +kernel
theorem dX7_copies_29 : decode cX7_copies 29 = .ok (.getfield 15, 3) := by decide +kernel
theorem dX7_copies_32 : decode cX7_copies 32 = .ok (.iload_n 1, 1) := by decide +kernel
theorem dX7_copies_33 : decode cX7_copies 33 = .ok (.aload_n 0, 1) := by decide +kernel
theorem dX7_copies_34 : decode cX7_copies 34 = .ok (.getfield 15, 3) := by decide +kernel
theorem dX7_copies_37 : decode cX7_copies 37 = .ok (.iload_n 2, 1) := by decide +kernel
theorem dX7_copies_38 : decode cX7_copies 38 = .ok (.iaload, 1) := by decide +kernel
theorem dX7_copies_39 : decode cX7_copies 39 = .ok (.iastore, 1) := by decide +kernel
theorem dX7_copies_40 : decode cX7_copies 40 = .ok (.aload_n 0, 1) := by decide +kernel
theorem dX7_copies_41 : decode cX7_copies 41 = .ok (.getfield 20, 3) := by decide +kernel
theorem dX7_copies_44 : decode cX7_copies 44 = .ok (.iload_n 2, 1) := by decide +kernel
theorem dX7_copies_45 : decode cX7_copies 45 = .ok (.aaload, 1) := by decide +kernel
theorem dX7_copies_46 : decode cX7_copies 46 = .ok (.iconst 0, 1) := by decide +kernel
theorem dX7_copies_47 : decode cX7_copies 47 = .ok (.aload_n 0, 1) := by decide +kernel
theorem dX7_copies_48 : decode cX7_copies 48 = .ok (.getfield 20, 3) := by decide +kernel
theorem dX7_copies_51 : decode cX7_copies 51 = .ok (.iload_n 1, 1) := by decide +kernel
theorem dX7_copies_52 : decode cX7_copies 52 = .ok (.aaload, 1) := by decide +kernel
theorem dX7_copies_53 : decode cX7_copies 53 = .ok (.iconst 0, 1) := by decide +kernel
theorem dX7_copies_54 : decode cX7_copies 54 = .ok (.bipush 16, 2) := by decide +kernel
theorem dX7_copies_56 : decode cX7_copies 56 = .ok (.invokestatic 148, 3) := by decide +kernel
theorem dX7_copies_59 : decode cX7_copies 59 = .ok (.aload_n 0, 1) := by decide +kernel
theorem dX7_copies_60 : decode cX7_copies 60 = .ok (.getfield 15, 3) := by decide +kernel
theorem dX7_copies_63 : decode cX7_copies 63 = .ok (.iload_n 1, 1) := by decide +kernel
theorem dX7_copies_64 : decode cX7_copies 64 = .ok (.iaload, 1) := by decide +kernel
theorem dX7_copies_65 : decode cX7_copies 65 = .ok (.ireturn, 1) := by decide +kernel
theorem dX7_layWorked_0 : decode cX7_layWorked 0 = .ok (.aload_n 0, 1) := by decide +kernel
theorem dX7_layWorked_1 : decode cX7_layWorked 1 = .ok (.iload_n 1, 1) := by decide +kernel
theorem dX7_layWorked_2 : decode cX7_layWorked 2 = .ok (.aload_n 0, 1) := by decide +kernel
theorem dX7_layWorked_3 : decode cX7_layWorked 3 = .ok (.getfield 15, 3) := by decide +kernel
theorem dX7_layWorked_6 : decode cX7_layWorked 6 = .ok (.iload_n 1, 1) := by decide +kernel
theorem dX7_layWorked_7 : decode cX7_layWorked 7 = .ok (.iaload, 1) := by decide +kernel
theorem dX7_layWorked_8 : decode cX7_layWorked 8 = .ok (.invokevirtual 154, 3) := by decide +kernel
theorem dX7_layWorked_11 : decode cX7_layWorked 11 = .ok (.aload_n 0, 1) := by decide +kernel
theorem dX7_layWorked_12 : decode cX7_layWorked 12 = .ok (.getfield 103, 3) := by decide +kernel
theorem dX7_layWorked_15 : decode cX7_layWorked 15 = .ok (.lstore 4, 2) := by decide +kernel
theorem dX7_layWorked_17 : decode cX7_layWorked 17 = .ok (.aload_n 0, 1) := by decide +kernel
theorem dX7_layWorked_18 : decode cX7_layWorked 18 = .ok (.getfield 107, 3) := by decide +kernel
theorem dX7_layWorked_21 : decode cX7_layWorked 21 = .ok (.lstore 6, 2) := by decide +kernel
theorem dX7_layWorked_23 : decode cX7_layWorked 23 = .ok (.aload_n 0, 1) := by decide +kernel
theorem dX7_layWorked_24 : decode cX7_layWorked 24 = .ok (.iload_n 2, 1) := by decide +kernel
theorem dX7_layWorked_25 : decode cX7_layWorked 25 = .ok (.aload_n 0, 1) := by decide +kernel
theorem dX7_layWorked_26 : decode cX7_layWorked 26 = .ok (.getfield 15, 3) := by decide +kernel
theorem dX7_layWorked_29 : decode cX7_layWorked 29 = .ok (.iload_n 2, 1) := by decide +kernel
theorem dX7_layWorked_30 : decode cX7_layWorked 30 = .ok (.iaload, 1) := by decide +kernel
theorem dX7_layWorked_31 : decode cX7_layWorked 31 = .ok (.invokevirtual 154, 3) := by decide +kernel
theorem dX7_layWorked_34 : decode cX7_layWorked 34 = .ok (.lload 6, 2) := by decide +kernel
theorem dX7_layWorked_36 : decode cX7_layWorked 36 = .ok (.lconst 0, 1) := by decide +kernel
theorem dX7_layWorked_37 : decode cX7_layWorked 37 = .ok (.lcmp, 1) := by decide +kernel
theorem dX7_layWorked_38 : decode cX7_layWorked 38 = .ok (.ifCond .ne 8, 3) := by decide +kernel
theorem dX7_layWorked_41 : decode cX7_layWorked 41 = .ok (.aload_n 0, 1) := by decide +kernel
theorem dX7_layWorked_42 : decode cX7_layWorked 42 = .ok (.lconst 0, 1) := by decide +kernel
theorem dX7_layWorked_43 : decode cX7_layWorked 43 = .ok (.putfield 107, 3) := by decide +kernel
theorem dX7_layWorked_46 : decode cX7_layWorked 46 = .ok (.aload_n 0, 1) := by decide +kernel
theorem dX7_layWorked_47 : decode cX7_layWorked 47 = .ok (.invokevirtual 112, 3) := by decide +kernel
theorem dX7_layWorked_50 : decode cX7_layWorked 50 = .ok (.ifCond .ne 4, 3) := by decide +kernel
theorem dX7_layWorked_53 : decode cX7_layWorked 53 = .ok (.return_, 1) := by decide +kernel
theorem dX7_layWorked_54 : decode cX7_layWorked 54 = .ok (.iload_n 3, 1) := by decide +kernel
theorem dX7_layWorked_55 : decode cX7_layWorked 55 = .ok (.iconst 2, 1) := by decide +kernel
theorem dX7_layWorked_56 : decode cX7_layWorked 56 = .ok (.if_icmp .ne 12, 3) := by decide +kernel
theorem dX7_layWorked_59 : decode cX7_layWorked 59 = .ok (.aload_n 0, 1) := by decide +kernel
theorem dX7_layWorked_60 : decode cX7_layWorked 60 = .ok (.lload 4, 2) := by decide +kernel
theorem dX7_layWorked_62 : decode cX7_layWorked 62 = .ok (.lload 6, 2) := by decide +kernel
theorem dX7_layWorked_64 : decode cX7_layWorked 64 = .ok (.invokevirtual 123, 3) := by decide +kernel
theorem dX7_layWorked_67 : decode cX7_layWorked 67 = .ok (.return_, 1) := by decide +kernel
theorem dX7_layWorked_68 : decode cX7_layWorked 68 = .ok (.iload_n 3, 1) := by decide +kernel
theorem dX7_layWorked_69 : decode cX7_layWorked 69 = .ok (.iconst 1, 1) := by decide +kernel
theorem dX7_layWorked_70 : decode cX7_layWorked 70 = .ok (.if_icmp .ne 7, 3) := by decide +kernel
theorem dX7_layWorked_73 : decode cX7_layWorked 73 = .ok (.aload_n 0, 1) := by decide +kernel
theorem dX7_layWorked_74 : decode cX7_layWorked 74 = .ok (.invokevirtual 126, 3) := by decide +kernel
theorem dX7_layWorked_77 : decode cX7_layWorked 77 = .ok (.aload_n 0, 1) := by decide +kernel
theorem dX7_layWorked_78 : decode cX7_layWorked 78 = .ok (.lload 4, 2) := by decide +kernel
theorem dX7_layWorked_80 : decode cX7_layWorked 80 = .ok (.lload 6, 2) := by decide +kernel
theorem dX7_layWorked_82 : decode cX7_layWorked 82 = .ok (.invokevirtual 120, 3) := by decide +kernel
theorem dX7_layWorked_85 : decode cX7_layWorked 85 = .ok (.return_, 1) := by decide +kernel
theorem dX7_works_0 : decode cX7_works 0 = .ok (.iload_n 1, 1) := by decide +kernel
theorem dX7_works_1 : decode cX7_works 1 = .ok (.invokestatic 135, 3) := by decide +kernel
theorem dX7_works_4 : decode cX7_works 4 = .ok (.ifCond .eq 27, 3) := by decide +kernel
theorem dX7_works_7 : decode cX7_works 7 = .ok (.iload_n 2, 1) := by decide +kernel
theorem dX7_works_8 : decode cX7_works 8 = .ok (.invokestatic 135, 3) := by decide +kernel
theorem dX7_works_11 : decode cX7_works 11 = .ok (.ifCond .eq 20, 3) := by decide +kernel
theorem dX7_works_14 : decode cX7_works 14 = .ok (.iload_n 3, 1) := by decide +kernel
theorem dX7_works_15 : decode cX7_works 15 = .ok (.invokestatic 135, 3) := by decide +kernel
theorem dX7_works_18 : decode cX7_works 18 = .ok (.ifCond .eq 13, 3) := by decide +kernel
theorem dX7_works_21 : decode cX7_works 21 = .ok (.iload 4, 2) := by decide +kernel
theorem dX7_works_23 : decode cX7_works 23 = .ok (.iconst 0, 1) := by decide +kernel
theorem dX7_works_24 : decode cX7_works 24 = .ok (.iconst 2, 1) := by decide +kernel
theorem dX7_works_25 : decode cX7_works 25 = .ok (.invokestatic 89, 3) := by decide +kernel
theorem dX7_works_28 : decode cX7_works 28 = .ok (.ifCond .ne 5, 3) := by decide +kernel
theorem dX7_works_31 : decode cX7_works 31 = .ok (.iconst (-1), 1) := by decide +kernel
theorem dX7_works_32 : decode cX7_works 32 = .ok (.ireturn, 1) := by decide +kernel
theorem dX7_works_33 : decode cX7_works 33 = .ok (.aload_n 0, 1) := by decide +kernel
theorem dX7_works_34 : decode cX7_works 34 = .ok (.iload_n 2, 1) := by decide +kernel
theorem dX7_works_35 : decode cX7_works 35 = .ok (.iload_n 3, 1) := by decide +kernel
theorem dX7_works_36 : decode cX7_works 36 = .ok (.iload 4, 2) := by decide +kernel
theorem dX7_works_38 : decode cX7_works 38 = .ok (.invokevirtual 158, 3) := by decide +kernel
theorem dX7_works_41 : decode cX7_works 41 = .ok (.aload_n 0, 1) := by decide +kernel
theorem dX7_works_42 : decode cX7_works 42 = .ok (.invokevirtual 112, 3) := by decide +kernel
theorem dX7_works_45 : decode cX7_works 45 = .ok (.ifCond .eq 24, 3) := by decide +kernel
theorem dX7_works_48 : decode cX7_works 48 = .ok (.aload_n 0, 1) := by decide +kernel
theorem dX7_works_49 : decode cX7_works 49 = .ok (.getfield 103, 3) := by decide +kernel
theorem dX7_works_52 : decode cX7_works 52 = .ok (.lconst 0, 1) := by decide +kernel
theorem dX7_works_53 : decode cX7_works 53 = .ok (.lcmp, 1) := by decide +kernel
theorem dX7_works_54 : decode cX7_works 54 = .ok (.ifCond .le 15, 3) := by decide +kernel
theorem dX7_works_57 : decode cX7_works 57 = .ok (.aload_n 0, 1) := by decide +kernel
theorem dX7_works_58 : decode cX7_works 58 = .ok (.getfield 103, 3) := by decide +kernel
theorem dX7_works_61 : decode cX7_works 61 = .ok (.aload_n 0, 1) := by decide +kernel
theorem dX7_works_62 : decode cX7_works 62 = .ok (.getfield 107, 3) := by decide +kernel
theorem dX7_works_65 : decode cX7_works 65 = .ok (.lcmp, 1) := by decide +kernel
theorem dX7_works_66 : decode cX7_works 66 = .ok (.ifCond .lt 6, 3) := by decide +kernel
theorem dX7_works_69 : decode cX7_works 69 = .ok (.bipush (-3), 2) := by decide +kernel
theorem dX7_works_71 : decode cX7_works 71 = .ok (.ireturn, 1) := by decide +kernel
theorem dX7_works_72 : decode cX7_works 72 = .ok (.aload_n 0, 1) := by decide +kernel
theorem dX7_works_73 : decode cX7_works 73 = .ok (.iload_n 1, 1) := by decide +kernel
theorem dX7_works_74 : decode cX7_works 74 = .ok (.invokevirtual 143, 3) := by decide +kernel
theorem dX7_works_77 : decode cX7_works 77 = .ok (.ireturn, 1) := by decide +kernel
theorem dX7_feed_0 : decode cX7_feed 0 = .ok (.iload_n 1, 1) := by decide +kernel
theorem dX7_feed_1 : decode cX7_feed 1 = .ok (.iconst 0, 1) := by decide +kernel
theorem dX7_feed_2 : decode cX7_feed 2 = .ok (.bipush 127, 2) := by decide +kernel
theorem dX7_feed_4 : decode cX7_feed 4 = .ok (.invokestatic 89, 3) := by decide +kernel
theorem dX7_feed_7 : decode cX7_feed 7 = .ok (.ifCond .ne 6, 3) := by decide +kernel
theorem dX7_feed_10 : decode cX7_feed 10 = .ok (.bipush (-2), 2) := by decide +kernel
theorem dX7_feed_12 : decode cX7_feed 12 = .ok (.ireturn, 1) := by decide +kernel
theorem dX7_feed_13 : decode cX7_feed 13 = .ok (.aload_n 0, 1) := by decide +kernel
theorem dX7_feed_14 : decode cX7_feed 14 = .ok (.getfield 162, 3) := by decide +kernel
theorem dX7_feed_17 : decode cX7_feed 17 = .ok (.bipush 100, 2) := by decide +kernel
theorem dX7_feed_19 : decode cX7_feed 19 = .ok (.if_icmp .ne 6, 3) := by decide +kernel
theorem dX7_feed_22 : decode cX7_feed 22 = .ok (.bipush (-4), 2) := by decide +kernel
theorem dX7_feed_24 : decode cX7_feed 24 = .ok (.ireturn, 1) := by decide +kernel
theorem dX7_feed_25 : decode cX7_feed 25 = .ok (.aload_n 0, 1) := by decide +kernel
theorem dX7_feed_26 : decode cX7_feed 26 = .ok (.getfield 23, 3) := by decide +kernel
theorem dX7_feed_29 : decode cX7_feed 29 = .ok (.aload_n 0, 1) := by decide +kernel
theorem dX7_feed_30 : decode cX7_feed 30 = .ok (.getfield 162, 3) := by decide +kernel
theorem dX7_feed_33 : decode cX7_feed 33 = .ok (.iload_n 1, 1) := by decide +kernel
theorem dX7_feed_34 : decode cX7_feed 34 = .ok (.i2b, 1) := by decide +kernel
theorem dX7_feed_35 : decode cX7_feed 35 = .ok (.bastore, 1) := by decide +kernel
theorem dX7_feed_36 : decode cX7_feed 36 = .ok (.aload_n 0, 1) := by decide +kernel
theorem dX7_feed_37 : decode cX7_feed 37 = .ok (.dup, 1) := by decide +kernel
theorem dX7_feed_38 : decode cX7_feed 38 = .ok (.getfield 162, 3) := by decide +kernel
theorem dX7_feed_41 : decode cX7_feed 41 = .ok (.iconst 1, 1) := by decide +kernel
theorem dX7_feed_42 : decode cX7_feed 42 = .ok (.iadd, 1) := by decide +kernel
theorem dX7_feed_43 : decode cX7_feed 43 = .ok (.putfield 162, 3) := by decide +kernel
theorem dX7_feed_46 : decode cX7_feed 46 = .ok (.aload_n 0, 1) := by decide +kernel
theorem dX7_feed_47 : decode cX7_feed 47 = .ok (.getfield 162, 3) := by decide +kernel
theorem dX7_feed_50 : decode cX7_feed 50 = .ok (.ireturn, 1) := by decide +kernel
theorem dX7_wordOf_0 : decode cX7_wordOf 0 = .ok (.iload_n 0, 1) := by decide +kernel
theorem dX7_wordOf_1 : decode cX7_wordOf 1 = .ok (.tableswitch 43 0 3 #[31, 34, 37, 40], 31) := by decide +kernel
theorem dX7_wordOf_32 : decode cX7_wordOf 32 = .ok (.ldc 166, 2) := by decide +kernel
theorem dX7_wordOf_34 : decode cX7_wordOf 34 = .ok (.areturn, 1) := by decide +kernel
theorem dX7_wordOf_35 : decode cX7_wordOf 35 = .ok (.ldc 168, 2) := by decide +kernel
theorem dX7_wordOf_37 : decode cX7_wordOf 37 = .ok (.areturn, 1) := by decide +kernel
theorem dX7_wordOf_38 : decode cX7_wordOf 38 = .ok (.ldc 170, 2) := by decide +kernel
theorem dX7_wordOf_40 : decode cX7_wordOf 40 = .ok (.areturn, 1) := by decide +kernel
theorem dX7_wordOf_41 : decode cX7_wordOf 41 = .ok (.ldc 172, 2) := by decide +kernel
theorem dX7_wordOf_43 : decode cX7_wordOf 43 = .ok (.areturn, 1) := by decide +kernel
theorem dX7_wordOf_44 : decode cX7_wordOf 44 = .ok (.ldc 174, 2) := by decide +kernel
theorem dX7_wordOf_46 : decode cX7_wordOf 46 = .ok (.areturn, 1) := by decide +kernel
theorem dX7_isDigit_0 : decode cX7_isDigit 0 = .ok (.aload_n 0, 1) := by decide +kernel
theorem dX7_isDigit_1 : decode cX7_isDigit 1 = .ok (.getfield 176, 3) := by decide +kernel
theorem dX7_isDigit_4 : decode cX7_isDigit 4 = .ok (.aload_n 0, 1) := by decide +kernel
theorem dX7_isDigit_5 : decode cX7_isDigit 5 = .ok (.getfield 162, 3) := by decide +kernel
theorem dX7_isDigit_8 : decode cX7_isDigit 8 = .ok (.if_icmp .ge 26, 3) := by decide +kernel
theorem dX7_isDigit_11 : decode cX7_isDigit 11 = .ok (.aload_n 0, 1) := by decide +kernel
theorem dX7_isDigit_12 : decode cX7_isDigit 12 = .ok (.getfield 23, 3) := by decide +kernel
theorem dX7_isDigit_15 : decode cX7_isDigit 15 = .ok (.aload_n 0, 1) := by decide +kernel
theorem dX7_isDigit_16 : decode cX7_isDigit 16 = .ok (.getfield 176, 3) := by decide +kernel
theorem dX7_isDigit_19 : decode cX7_isDigit 19 = .ok (.baload, 1) := by decide +kernel
theorem dX7_isDigit_20 : decode cX7_isDigit 20 = .ok (.bipush 48, 2) := by decide +kernel
theorem dX7_isDigit_22 : decode cX7_isDigit 22 = .ok (.bipush 57, 2) := by decide +kernel
theorem dX7_isDigit_24 : decode cX7_isDigit 24 = .ok (.invokestatic 89, 3) := by decide +kernel
theorem dX7_isDigit_27 : decode cX7_isDigit 27 = .ok (.ifCond .eq 7, 3) := by decide +kernel
theorem dX7_isDigit_30 : decode cX7_isDigit 30 = .ok (.iconst 1, 1) := by decide +kernel
theorem dX7_isDigit_31 : decode cX7_isDigit 31 = .ok (.goto 4, 3) := by decide +kernel
theorem dX7_isDigit_34 : decode cX7_isDigit 34 = .ok (.iconst 0, 1) := by decide +kernel
theorem dX7_isDigit_35 : decode cX7_isDigit 35 = .ok (.ireturn, 1) := by decide +kernel
theorem dX7_begun_0 : decode cX7_begun 0 = .ok (.iload_n 1, 1) := by decide +kernel
theorem dX7_begun_1 : decode cX7_begun 1 = .ok (.invokestatic 179, 3) := by decide +kernel
theorem dX7_begun_4 : decode cX7_begun 4 = .ok (.astore_n 3, 1) := by decide +kernel
theorem dX7_begun_5 : decode cX7_begun 5 = .ok (.iconst 0, 1) := by decide +kernel
theorem dX7_begun_6 : decode cX7_begun 6 = .ok (.istore 4, 2) := by decide +kernel
theorem dX7_begun_8 : decode cX7_begun 8 = .ok (.iload 4, 2) := by decide +kernel
theorem dX7_begun_10 : decode cX7_begun 10 = .ok (.aload_n 3, 1) := by decide +kernel
theorem dX7_begun_11 : decode cX7_begun 11 = .ok (.invokevirtual 183, 3) := by decide +kernel
theorem dX7_begun_14 : decode cX7_begun 14 = .ok (.if_icmp .ge 38, 3) := by decide +kernel
theorem dX7_begun_17 : decode cX7_begun 17 = .ok (.iload_n 2, 1) := by decide +kernel
theorem dX7_begun_18 : decode cX7_begun 18 = .ok (.iload 4, 2) := by decide +kernel
theorem dX7_begun_20 : decode cX7_begun 20 = .ok (.iadd, 1) := by decide +kernel
theorem dX7_begun_21 : decode cX7_begun 21 = .ok (.aload_n 0, 1) := by decide +kernel
theorem dX7_begun_22 : decode cX7_begun 22 = .ok (.getfield 162, 3) := by decide +kernel
theorem dX7_begun_25 : decode cX7_begun 25 = .ok (.if_icmp .ge 27, 3) := by decide +kernel
theorem dX7_begun_28 : decode cX7_begun 28 = .ok (.aload_n 0, 1) := by decide +kernel
theorem dX7_begun_29 : decode cX7_begun 29 = .ok (.getfield 23, 3) := by decide +kernel
theorem dX7_begun_32 : decode cX7_begun 32 = .ok (.iload_n 2, 1) := by decide +kernel
theorem dX7_begun_33 : decode cX7_begun 33 = .ok (.iload 4, 2) := by decide +kernel
theorem dX7_begun_35 : decode cX7_begun 35 = .ok (.iadd, 1) := by decide +kernel
theorem dX7_begun_36 : decode cX7_begun 36 = .ok (.baload, 1) := by decide +kernel
theorem dX7_begun_37 : decode cX7_begun 37 = .ok (.aload_n 3, 1) := by decide +kernel
theorem dX7_begun_38 : decode cX7_begun 38 = .ok (.iload 4, 2) := by decide +kernel
theorem dX7_begun_40 : decode cX7_begun 40 = .ok (.invokevirtual 189, 3) := by decide +kernel
theorem dX7_begun_43 : decode cX7_begun 43 = .ok (.if_icmp .ne 9, 3) := by decide +kernel
theorem dX7_begun_46 : decode cX7_begun 46 = .ok (.iinc 4 1, 3) := by decide +kernel
theorem dX7_begun_49 : decode cX7_begun 49 = .ok (.goto (-41), 3) := by decide +kernel
theorem dX7_begun_52 : decode cX7_begun 52 = .ok (.iload 4, 2) := by decide +kernel
theorem dX7_begun_54 : decode cX7_begun 54 = .ok (.ireturn, 1) := by decide +kernel
theorem dX7_takesWord_0 : decode cX7_takesWord 0 = .ok (.iconst 0, 1) := by decide +kernel
theorem dX7_takesWord_1 : decode cX7_takesWord 1 = .ok (.istore_n 1, 1) := by decide +kernel
theorem dX7_takesWord_2 : decode cX7_takesWord 2 = .ok (.iconst 1, 1) := by decide +kernel
theorem dX7_takesWord_3 : decode cX7_takesWord 3 = .ok (.istore_n 2, 1) := by decide +kernel
theorem dX7_takesWord_4 : decode cX7_takesWord 4 = .ok (.iload_n 2, 1) := by decide +kernel
theorem dX7_takesWord_5 : decode cX7_takesWord 5 = .ok (.iconst 5, 1) := by decide +kernel
theorem dX7_takesWord_6 : decode cX7_takesWord 6 = .ok (.if_icmp .ge 32, 3) := by decide +kernel
theorem dX7_takesWord_9 : decode cX7_takesWord 9 = .ok (.aload_n 0, 1) := by decide +kernel
theorem dX7_takesWord_10 : decode cX7_takesWord 10 = .ok (.iload_n 2, 1) := by decide +kernel
theorem dX7_takesWord_11 : decode cX7_takesWord 11 = .ok (.aload_n 0, 1) := by decide +kernel
theorem dX7_takesWord_12 : decode cX7_takesWord 12 = .ok (.getfield 176, 3) := by decide +kernel
theorem dX7_takesWord_15 : decode cX7_takesWord 15 = .ok (.invokevirtual 193, 3) := by decide +kernel
theorem dX7_takesWord_18 : decode cX7_takesWord 18 = .ok (.aload_n 0, 1) := by decide +kernel
theorem dX7_takesWord_19 : decode cX7_takesWord 19 = .ok (.iload_n 1, 1) := by decide +kernel
theorem dX7_takesWord_20 : decode cX7_takesWord 20 = .ok (.aload_n 0, 1) := by decide +kernel
theorem dX7_takesWord_21 : decode cX7_takesWord 21 = .ok (.getfield 176, 3) := by decide +kernel
theorem dX7_takesWord_24 : decode cX7_takesWord 24 = .ok (.invokevirtual 193, 3) := by decide +kernel
theorem dX7_takesWord_27 : decode cX7_takesWord 27 = .ok (.if_icmp .le 5, 3) := by decide +kernel
theorem dX7_takesWord_30 : decode cX7_takesWord 30 = .ok (.iload_n 2, 1) := by decide +kernel
theorem dX7_takesWord_31 : decode cX7_takesWord 31 = .ok (.istore_n 1, 1) := by decide +kernel
theorem dX7_takesWord_32 : decode cX7_takesWord 32 = .ok (.iinc 2 1, 3) := by decide +kernel
theorem dX7_takesWord_35 : decode cX7_takesWord 35 = .ok (.goto (-31), 3) := by decide +kernel
theorem dX7_takesWord_38 : decode cX7_takesWord 38 = .ok (.aload_n 0, 1) := by decide +kernel
theorem dX7_takesWord_39 : decode cX7_takesWord 39 = .ok (.getfield 27, 3) := by decide +kernel
theorem dX7_takesWord_42 : decode cX7_takesWord 42 = .ok (.aload_n 0, 1) := by decide +kernel
theorem dX7_takesWord_43 : decode cX7_takesWord 43 = .ok (.getfield 197, 3) := by decide +kernel
theorem dX7_takesWord_46 : decode cX7_takesWord 46 = .ok (.iload_n 1, 1) := by decide +kernel
theorem dX7_takesWord_47 : decode cX7_takesWord 47 = .ok (.iastore, 1) := by decide +kernel
theorem dX7_takesWord_48 : decode cX7_takesWord 48 = .ok (.aload_n 0, 1) := by decide +kernel
theorem dX7_takesWord_49 : decode cX7_takesWord 49 = .ok (.iload_n 1, 1) := by decide +kernel
theorem dX7_takesWord_50 : decode cX7_takesWord 50 = .ok (.aload_n 0, 1) := by decide +kernel
theorem dX7_takesWord_51 : decode cX7_takesWord 51 = .ok (.getfield 176, 3) := by decide +kernel
theorem dX7_takesWord_54 : decode cX7_takesWord 54 = .ok (.invokevirtual 193, 3) := by decide +kernel
theorem dX7_takesWord_57 : decode cX7_takesWord 57 = .ok (.istore_n 2, 1) := by decide +kernel
theorem dX7_takesWord_58 : decode cX7_takesWord 58 = .ok (.aload_n 0, 1) := by decide +kernel
theorem dX7_takesWord_59 : decode cX7_takesWord 59 = .ok (.dup, 1) := by decide +kernel
theorem dX7_takesWord_60 : decode cX7_takesWord 60 = .ok (.getfield 176, 3) := by decide +kernel
theorem dX7_takesWord_63 : decode cX7_takesWord 63 = .ok (.iload_n 2, 1) := by decide +kernel
theorem dX7_takesWord_64 : decode cX7_takesWord 64 = .ok (.iadd, 1) := by decide +kernel
theorem dX7_takesWord_65 : decode cX7_takesWord 65 = .ok (.putfield 176, 3) := by decide +kernel
theorem dX7_takesWord_68 : decode cX7_takesWord 68 = .ok (.iload_n 2, 1) := by decide +kernel
theorem dX7_takesWord_69 : decode cX7_takesWord 69 = .ok (.iload_n 1, 1) := by decide +kernel
theorem dX7_takesWord_70 : decode cX7_takesWord 70 = .ok (.invokestatic 179, 3) := by decide +kernel
theorem dX7_takesWord_73 : decode cX7_takesWord 73 = .ok (.invokevirtual 183, 3) := by decide +kernel
theorem dX7_takesWord_76 : decode cX7_takesWord 76 = .ok (.if_icmp .ne 7, 3) := by decide +kernel
theorem dX7_takesWord_79 : decode cX7_takesWord 79 = .ok (.iconst 1, 1) := by decide +kernel
theorem dX7_takesWord_80 : decode cX7_takesWord 80 = .ok (.goto 4, 3) := by decide +kernel
theorem dX7_takesWord_83 : decode cX7_takesWord 83 = .ok (.iconst 0, 1) := by decide +kernel
theorem dX7_takesWord_84 : decode cX7_takesWord 84 = .ok (.ireturn, 1) := by decide +kernel
theorem dX7_takesNumber_0 : decode cX7_takesNumber 0 = .ok (.aload_n 0, 1) := by decide +kernel
theorem dX7_takesNumber_1 : decode cX7_takesNumber 1 = .ok (.getfield 176, 3) := by decide +kernel
theorem dX7_takesNumber_4 : decode cX7_takesNumber 4 = .ok (.aload_n 0, 1) := by decide +kernel
theorem dX7_takesNumber_5 : decode cX7_takesNumber 5 = .ok (.getfield 162, 3) := by decide +kernel
theorem dX7_takesNumber_8 : decode cX7_takesNumber 8 = .ok (.if_icmp .ge 17, 3) := by decide +kernel
theorem dX7_takesNumber_11 : decode cX7_takesNumber 11 = .ok (.aload_n 0, 1) := by decide +kernel
theorem dX7_takesNumber_12 : decode cX7_takesNumber 12 = .ok (.getfield 23, 3) := by decide +kernel
theorem dX7_takesNumber_15 : decode cX7_takesNumber 15 = .ok (.aload_n 0, 1) := by decide +kernel
theorem dX7_takesNumber_16 : decode cX7_takesNumber 16 = .ok (.getfield 176, 3) := by decide +kernel
theorem dX7_takesNumber_19 : decode cX7_takesNumber 19 = .ok (.baload, 1) := by decide +kernel
theorem dX7_takesNumber_20 : decode cX7_takesNumber 20 = .ok (.bipush 32, 2) := by decide +kernel
theorem dX7_takesNumber_22 : decode cX7_takesNumber 22 = .ok (.if_icmp .eq 5, 3) := by decide +kernel
theorem dX7_takesNumber_25 : decode cX7_takesNumber 25 = .ok (.iconst 0, 1) := by decide +kernel
theorem dX7_takesNumber_26 : decode cX7_takesNumber 26 = .ok (.ireturn, 1) := by decide +kernel
theorem dX7_takesNumber_27 : decode cX7_takesNumber 27 = .ok (.aload_n 0, 1) := by decide +kernel
theorem dX7_takesNumber_28 : decode cX7_takesNumber 28 = .ok (.dup, 1) := by decide +kernel
theorem dX7_takesNumber_29 : decode cX7_takesNumber 29 = .ok (.getfield 176, 3) := by decide +kernel
theorem dX7_takesNumber_32 : decode cX7_takesNumber 32 = .ok (.iconst 1, 1) := by decide +kernel
theorem dX7_takesNumber_33 : decode cX7_takesNumber 33 = .ok (.iadd, 1) := by decide +kernel
theorem dX7_takesNumber_34 : decode cX7_takesNumber 34 = .ok (.putfield 176, 3) := by decide +kernel
theorem dX7_takesNumber_37 : decode cX7_takesNumber 37 = .ok (.aload_n 0, 1) := by decide +kernel
theorem dX7_takesNumber_38 : decode cX7_takesNumber 38 = .ok (.invokevirtual 200, 3) := by decide +kernel
theorem dX7_takesNumber_41 : decode cX7_takesNumber 41 = .ok (.ifCond .ne 5, 3) := by decide +kernel
theorem dX7_takesNumber_44 : decode cX7_takesNumber 44 = .ok (.iconst 0, 1) := by decide +kernel
theorem dX7_takesNumber_45 : decode cX7_takesNumber 45 = .ok (.ireturn, 1) := by decide +kernel
theorem dX7_takesNumber_46 : decode cX7_takesNumber 46 = .ok (.iconst 0, 1) := by decide +kernel
theorem dX7_takesNumber_47 : decode cX7_takesNumber 47 = .ok (.istore_n 2, 1) := by decide +kernel
theorem dX7_takesNumber_48 : decode cX7_takesNumber 48 = .ok (.iconst 0, 1) := by decide +kernel
theorem dX7_takesNumber_49 : decode cX7_takesNumber 49 = .ok (.istore_n 3, 1) := by decide +kernel
theorem dX7_takesNumber_50 : decode cX7_takesNumber 50 = .ok (.iload_n 3, 1) := by decide +kernel
theorem dX7_takesNumber_51 : decode cX7_takesNumber 51 = .ok (.bipush 9, 2) := by decide +kernel
theorem dX7_takesNumber_53 : decode cX7_takesNumber 53 = .ok (.if_icmp .ge 44, 3) := by decide +kernel
theorem dX7_takesNumber_56 : decode cX7_takesNumber 56 = .ok (.aload_n 0, 1) := by decide +kernel
theorem dX7_takesNumber_57 : decode cX7_takesNumber 57 = .ok (.invokevirtual 200, 3) := by decide +kernel
theorem dX7_takesNumber_60 : decode cX7_takesNumber 60 = .ok (.ifCond .eq 37, 3) := by decide +kernel
theorem dX7_takesNumber_63 : decode cX7_takesNumber 63 = .ok (.bipush 10, 2) := by decide +kernel
theorem dX7_takesNumber_65 : decode cX7_takesNumber 65 = .ok (.iload_n 2, 1) := by decide +kernel
theorem dX7_takesNumber_66 : decode cX7_takesNumber 66 = .ok (.imul, 1) := by decide +kernel
theorem dX7_takesNumber_67 : decode cX7_takesNumber 67 = .ok (.aload_n 0, 1) := by decide +kernel
theorem dX7_takesNumber_68 : decode cX7_takesNumber 68 = .ok (.getfield 23, 3) := by decide +kernel
theorem dX7_takesNumber_71 : decode cX7_takesNumber 71 = .ok (.aload_n 0, 1) := by decide +kernel
theorem dX7_takesNumber_72 : decode cX7_takesNumber 72 = .ok (.getfield 176, 3) := by decide +kernel
theorem dX7_takesNumber_75 : decode cX7_takesNumber 75 = .ok (.baload, 1) := by decide +kernel
theorem dX7_takesNumber_76 : decode cX7_takesNumber 76 = .ok (.iadd, 1) := by decide +kernel
theorem dX7_takesNumber_77 : decode cX7_takesNumber 77 = .ok (.bipush 48, 2) := by decide +kernel
theorem dX7_takesNumber_79 : decode cX7_takesNumber 79 = .ok (.isub, 1) := by decide +kernel
theorem dX7_takesNumber_80 : decode cX7_takesNumber 80 = .ok (.istore_n 2, 1) := by decide +kernel
theorem dX7_takesNumber_81 : decode cX7_takesNumber 81 = .ok (.aload_n 0, 1) := by decide +kernel
theorem dX7_takesNumber_82 : decode cX7_takesNumber 82 = .ok (.dup, 1) := by decide +kernel
theorem dX7_takesNumber_83 : decode cX7_takesNumber 83 = .ok (.getfield 176, 3) := by decide +kernel
theorem dX7_takesNumber_86 : decode cX7_takesNumber 86 = .ok (.iconst 1, 1) := by decide +kernel
theorem dX7_takesNumber_87 : decode cX7_takesNumber 87 = .ok (.iadd, 1) := by decide +kernel
theorem dX7_takesNumber_88 : decode cX7_takesNumber 88 = .ok (.putfield 176, 3) := by decide +kernel
theorem dX7_takesNumber_91 : decode cX7_takesNumber 91 = .ok (.iinc 3 1, 3) := by decide +kernel
theorem dX7_takesNumber_94 : decode cX7_takesNumber 94 = .ok (.goto (-44), 3) := by decide +kernel
theorem dX7_takesNumber_97 : decode cX7_takesNumber 97 = .ok (.aload_n 0, 1) := by decide +kernel
theorem dX7_takesNumber_98 : decode cX7_takesNumber 98 = .ok (.getfield 30, 3) := by decide +kernel
theorem dX7_takesNumber_101 : decode cX7_takesNumber 101 = .ok (.iconst 4, 1) := by decide +kernel
theorem dX7_takesNumber_102 : decode cX7_takesNumber 102 = .ok (.aload_n 0, 1) := by decide +kernel
theorem dX7_takesNumber_103 : decode cX7_takesNumber 103 = .ok (.getfield 197, 3) := by decide +kernel
theorem dX7_takesNumber_106 : decode cX7_takesNumber 106 = .ok (.imul, 1) := by decide +kernel
theorem dX7_takesNumber_107 : decode cX7_takesNumber 107 = .ok (.iload_n 1, 1) := by decide +kernel
theorem dX7_takesNumber_108 : decode cX7_takesNumber 108 = .ok (.iadd, 1) := by decide +kernel
theorem dX7_takesNumber_109 : decode cX7_takesNumber 109 = .ok (.iload_n 2, 1) := by decide +kernel
theorem dX7_takesNumber_110 : decode cX7_takesNumber 110 = .ok (.iastore, 1) := by decide +kernel
theorem dX7_takesNumber_111 : decode cX7_takesNumber 111 = .ok (.iconst 1, 1) := by decide +kernel
theorem dX7_takesNumber_112 : decode cX7_takesNumber 112 = .ok (.ireturn, 1) := by decide +kernel
theorem dX7_takesClause_0 : decode cX7_takesClause 0 = .ok (.aload_n 0, 1) := by decide +kernel
theorem dX7_takesClause_1 : decode cX7_takesClause 1 = .ok (.invokevirtual 203, 3) := by decide +kernel
theorem dX7_takesClause_4 : decode cX7_takesClause 4 = .ok (.ifCond .ne 5, 3) := by decide +kernel
theorem dX7_takesClause_7 : decode cX7_takesClause 7 = .ok (.iconst 0, 1) := by decide +kernel
theorem dX7_takesClause_8 : decode cX7_takesClause 8 = .ok (.ireturn, 1) := by decide +kernel
theorem dX7_takesClause_9 : decode cX7_takesClause 9 = .ok (.aload_n 0, 1) := by decide +kernel
theorem dX7_takesClause_10 : decode cX7_takesClause 10 = .ok (.getfield 27, 3) := by decide +kernel
theorem dX7_takesClause_13 : decode cX7_takesClause 13 = .ok (.aload_n 0, 1) := by decide +kernel
theorem dX7_takesClause_14 : decode cX7_takesClause 14 = .ok (.getfield 197, 3) := by decide +kernel
theorem dX7_takesClause_17 : decode cX7_takesClause 17 = .ok (.iaload, 1) := by decide +kernel
theorem dX7_takesClause_18 : decode cX7_takesClause 18 = .ok (.ifCond .ne 7, 3) := by decide +kernel
theorem dX7_takesClause_21 : decode cX7_takesClause 21 = .ok (.iconst 4, 1) := by decide +kernel
theorem dX7_takesClause_22 : decode cX7_takesClause 22 = .ok (.goto 4, 3) := by decide +kernel
theorem dX7_takesClause_25 : decode cX7_takesClause 25 = .ok (.iconst 2, 1) := by decide +kernel
theorem dX7_takesClause_26 : decode cX7_takesClause 26 = .ok (.istore_n 1, 1) := by decide +kernel
theorem dX7_takesClause_27 : decode cX7_takesClause 27 = .ok (.iconst 0, 1) := by decide +kernel
theorem dX7_takesClause_28 : decode cX7_takesClause 28 = .ok (.istore_n 2, 1) := by decide +kernel
theorem dX7_takesClause_29 : decode cX7_takesClause 29 = .ok (.iload_n 2, 1) := by decide +kernel
theorem dX7_takesClause_30 : decode cX7_takesClause 30 = .ok (.iload_n 1, 1) := by decide +kernel
theorem dX7_takesClause_31 : decode cX7_takesClause 31 = .ok (.if_icmp .ge 19, 3) := by decide +kernel
theorem dX7_takesClause_34 : decode cX7_takesClause 34 = .ok (.aload_n 0, 1) := by decide +kernel
theorem dX7_takesClause_35 : decode cX7_takesClause 35 = .ok (.iload_n 2, 1) := by decide +kernel
theorem dX7_takesClause_36 : decode cX7_takesClause 36 = .ok (.invokevirtual 206, 3) := by decide +kernel
theorem dX7_takesClause_39 : decode cX7_takesClause 39 = .ok (.ifCond .ne 5, 3) := by decide +kernel
theorem dX7_takesClause_42 : decode cX7_takesClause 42 = .ok (.iconst 0, 1) := by decide +kernel
theorem dX7_takesClause_43 : decode cX7_takesClause 43 = .ok (.ireturn, 1) := by decide +kernel
theorem dX7_takesClause_44 : decode cX7_takesClause 44 = .ok (.iinc 2 1, 3) := by decide +kernel
theorem dX7_takesClause_47 : decode cX7_takesClause 47 = .ok (.goto (-18), 3) := by decide +kernel
theorem dX7_takesClause_50 : decode cX7_takesClause 50 = .ok (.aload_n 0, 1) := by decide +kernel
theorem dX7_takesClause_51 : decode cX7_takesClause 51 = .ok (.dup, 1) := by decide +kernel
theorem dX7_takesClause_52 : decode cX7_takesClause 52 = .ok (.getfield 197, 3) := by decide +kernel
theorem dX7_takesClause_55 : decode cX7_takesClause 55 = .ok (.iconst 1, 1) := by decide +kernel
theorem dX7_takesClause_56 : decode cX7_takesClause 56 = .ok (.iadd, 1) := by decide +kernel
theorem dX7_takesClause_57 : decode cX7_takesClause 57 = .ok (.putfield 197, 3) := by decide +kernel
theorem dX7_takesClause_60 : decode cX7_takesClause 60 = .ok (.iconst 1, 1) := by decide +kernel
theorem dX7_takesClause_61 : decode cX7_takesClause 61 = .ok (.ireturn, 1) := by decide +kernel
theorem dX7_takesAll_0 : decode cX7_takesAll 0 = .ok (.aload_n 0, 1) := by decide +kernel
theorem dX7_takesAll_1 : decode cX7_takesAll 1 = .ok (.iconst 0, 1) := by decide +kernel
theorem dX7_takesAll_2 : decode cX7_takesAll 2 = .ok (.putfield 176, 3) := by decide +kernel
theorem dX7_takesAll_5 : decode cX7_takesAll 5 = .ok (.aload_n 0, 1) := by decide +kernel
theorem dX7_takesAll_6 : decode cX7_takesAll 6 = .ok (.iconst 0, 1) := by decide +kernel
theorem dX7_takesAll_7 : decode cX7_takesAll 7 = .ok (.putfield 197, 3) := by decide +kernel
theorem dX7_takesAll_10 : decode cX7_takesAll 10 = .ok (.aload_n 0, 1) := by decide +kernel
theorem dX7_takesAll_11 : decode cX7_takesAll 11 = .ok (.invokevirtual 209, 3) := by decide +kernel
theorem dX7_takesAll_14 : decode cX7_takesAll 14 = .ok (.ifCond .ne 5, 3) := by decide +kernel
theorem dX7_takesAll_17 : decode cX7_takesAll 17 = .ok (.iconst 0, 1) := by decide +kernel
theorem dX7_takesAll_18 : decode cX7_takesAll 18 = .ok (.ireturn, 1) := by decide +kernel
theorem dX7_takesAll_19 : decode cX7_takesAll 19 = .ok (.aload_n 0, 1) := by decide +kernel
theorem dX7_takesAll_20 : decode cX7_takesAll 20 = .ok (.getfield 176, 3) := by decide +kernel
theorem dX7_takesAll_23 : decode cX7_takesAll 23 = .ok (.aload_n 0, 1) := by decide +kernel
theorem dX7_takesAll_24 : decode cX7_takesAll 24 = .ok (.getfield 162, 3) := by decide +kernel
theorem dX7_takesAll_27 : decode cX7_takesAll 27 = .ok (.if_icmp .ge 47, 3) := by decide +kernel
theorem dX7_takesAll_30 : decode cX7_takesAll 30 = .ok (.aload_n 0, 1) := by decide +kernel
theorem dX7_takesAll_31 : decode cX7_takesAll 31 = .ok (.getfield 197, 3) := by decide +kernel
theorem dX7_takesAll_34 : decode cX7_takesAll 34 = .ok (.bipush 12, 2) := by decide +kernel
theorem dX7_takesAll_36 : decode cX7_takesAll 36 = .ok (.if_icmp .eq 17, 3) := by decide +kernel
theorem dX7_takesAll_39 : decode cX7_takesAll 39 = .ok (.aload_n 0, 1) := by decide +kernel
theorem dX7_takesAll_40 : decode cX7_takesAll 40 = .ok (.getfield 23, 3) := by decide +kernel
theorem dX7_takesAll_43 : decode cX7_takesAll 43 = .ok (.aload_n 0, 1) := by decide +kernel
theorem dX7_takesAll_44 : decode cX7_takesAll 44 = .ok (.getfield 176, 3) := by decide +kernel
theorem dX7_takesAll_47 : decode cX7_takesAll 47 = .ok (.baload, 1) := by decide +kernel
theorem dX7_takesAll_48 : decode cX7_takesAll 48 = .ok (.bipush 59, 2) := by decide +kernel
theorem dX7_takesAll_50 : decode cX7_takesAll 50 = .ok (.if_icmp .eq 5, 3) := by decide +kernel
theorem dX7_takesAll_53 : decode cX7_takesAll 53 = .ok (.iconst 0, 1) := by decide +kernel
theorem dX7_takesAll_54 : decode cX7_takesAll 54 = .ok (.ireturn, 1) := by decide +kernel
theorem dX7_takesAll_55 : decode cX7_takesAll 55 = .ok (.aload_n 0, 1) := by decide +kernel
theorem dX7_takesAll_56 : decode cX7_takesAll 56 = .ok (.dup, 1) := by decide +kernel
theorem dX7_takesAll_57 : decode cX7_takesAll 57 = .ok (.getfield 176, 3) := by decide +kernel
theorem dX7_takesAll_60 : decode cX7_takesAll 60 = .ok (.iconst 1, 1) := by decide +kernel
theorem dX7_takesAll_61 : decode cX7_takesAll 61 = .ok (.iadd, 1) := by decide +kernel
theorem dX7_takesAll_62 : decode cX7_takesAll 62 = .ok (.putfield 176, 3) := by decide +kernel
theorem dX7_takesAll_65 : decode cX7_takesAll 65 = .ok (.aload_n 0, 1) := by decide +kernel
theorem dX7_takesAll_66 : decode cX7_takesAll 66 = .ok (.invokevirtual 209, 3) := by decide +kernel
theorem dX7_takesAll_69 : decode cX7_takesAll 69 = .ok (.ifCond .ne (-50), 3) := by decide +kernel
theorem dX7_takesAll_72 : decode cX7_takesAll 72 = .ok (.iconst 0, 1) := by decide +kernel
theorem dX7_takesAll_73 : decode cX7_takesAll 73 = .ok (.ireturn, 1) := by decide +kernel
theorem dX7_takesAll_74 : decode cX7_takesAll 74 = .ok (.iconst 1, 1) := by decide +kernel
theorem dX7_takesAll_75 : decode cX7_takesAll 75 = .ok (.ireturn, 1) := by decide +kernel
theorem dX7_done_0 : decode cX7_done 0 = .ok (.aload_n 0, 1) := by decide +kernel
theorem dX7_done_1 : decode cX7_done 1 = .ok (.getfield 30, 3) := by decide +kernel
theorem dX7_done_4 : decode cX7_done 4 = .ok (.iconst 4, 1) := by decide +kernel
theorem dX7_done_5 : decode cX7_done 5 = .ok (.iload_n 1, 1) := by decide +kernel
theorem dX7_done_6 : decode cX7_done 6 = .ok (.imul, 1) := by decide +kernel
theorem dX7_done_7 : decode cX7_done 7 = .ok (.iaload, 1) := by decide +kernel
theorem dX7_done_8 : decode cX7_done 8 = .ok (.istore_n 2, 1) := by decide +kernel
theorem dX7_done_9 : decode cX7_done 9 = .ok (.aload_n 0, 1) := by decide +kernel
theorem dX7_done_10 : decode cX7_done 10 = .ok (.getfield 30, 3) := by decide +kernel
theorem dX7_done_13 : decode cX7_done 13 = .ok (.iconst 4, 1) := by decide +kernel
theorem dX7_done_14 : decode cX7_done 14 = .ok (.iload_n 1, 1) := by decide +kernel
theorem dX7_done_15 : decode cX7_done 15 = .ok (.imul, 1) := by decide +kernel
theorem dX7_done_16 : decode cX7_done 16 = .ok (.iconst 1, 1) := by decide +kernel
theorem dX7_done_17 : decode cX7_done 17 = .ok (.iadd, 1) := by decide +kernel
theorem dX7_done_18 : decode cX7_done 18 = .ok (.iaload, 1) := by decide +kernel
theorem dX7_done_19 : decode cX7_done 19 = .ok (.istore_n 3, 1) := by decide +kernel
theorem dX7_done_20 : decode cX7_done 20 = .ok (.aload_n 0, 1) := by decide +kernel
theorem dX7_done_21 : decode cX7_done 21 = .ok (.getfield 27, 3) := by decide +kernel
theorem dX7_done_24 : decode cX7_done 24 = .ok (.iload_n 1, 1) := by decide +kernel
theorem dX7_done_25 : decode cX7_done 25 = .ok (.iaload, 1) := by decide +kernel
theorem dX7_done_26 : decode cX7_done 26 = .ok (.tableswitch 78 0 3 #[30, 57, 64, 71], 30) := by decide +kernel
theorem dX7_done_56 : decode cX7_done 56 = .ok (.aload_n 0, 1) := by decide +kernel
theorem dX7_done_57 : decode cX7_done 57 = .ok (.iload_n 2, 1) := by decide +kernel
theorem dX7_done_58 : decode cX7_done 58 = .ok (.iload_n 3, 1) := by decide +kernel
theorem dX7_done_59 : decode cX7_done 59 = .ok (.aload_n 0, 1) := by decide +kernel
theorem dX7_done_60 : decode cX7_done 60 = .ok (.getfield 30, 3) := by decide +kernel
theorem dX7_done_63 : decode cX7_done 63 = .ok (.iconst 4, 1) := by decide +kernel
theorem dX7_done_64 : decode cX7_done 64 = .ok (.iload_n 1, 1) := by decide +kernel
theorem dX7_done_65 : decode cX7_done 65 = .ok (.imul, 1) := by decide +kernel
theorem dX7_done_66 : decode cX7_done 66 = .ok (.iconst 2, 1) := by decide +kernel
theorem dX7_done_67 : decode cX7_done 67 = .ok (.iadd, 1) := by decide +kernel
theorem dX7_done_68 : decode cX7_done 68 = .ok (.iaload, 1) := by decide +kernel
theorem dX7_done_69 : decode cX7_done 69 = .ok (.aload_n 0, 1) := by decide +kernel
theorem dX7_done_70 : decode cX7_done 70 = .ok (.getfield 30, 3) := by decide +kernel
theorem dX7_done_73 : decode cX7_done 73 = .ok (.iconst 4, 1) := by decide +kernel
theorem dX7_done_74 : decode cX7_done 74 = .ok (.iload_n 1, 1) := by decide +kernel
theorem dX7_done_75 : decode cX7_done 75 = .ok (.imul, 1) := by decide +kernel
theorem dX7_done_76 : decode cX7_done 76 = .ok (.iconst 3, 1) := by decide +kernel
theorem dX7_done_77 : decode cX7_done 77 = .ok (.iadd, 1) := by decide +kernel
theorem dX7_done_78 : decode cX7_done 78 = .ok (.iaload, 1) := by decide +kernel
theorem dX7_done_79 : decode cX7_done 79 = .ok (.invokevirtual 212, 3) := by decide +kernel
theorem dX7_done_82 : decode cX7_done 82 = .ok (.ireturn, 1) := by decide +kernel
theorem dX7_done_83 : decode cX7_done 83 = .ok (.aload_n 0, 1) := by decide +kernel
theorem dX7_done_84 : decode cX7_done 84 = .ok (.iload_n 2, 1) := by decide +kernel
theorem dX7_done_85 : decode cX7_done 85 = .ok (.iload_n 3, 1) := by decide +kernel
theorem dX7_done_86 : decode cX7_done 86 = .ok (.invokevirtual 215, 3) := by decide +kernel
theorem dX7_done_89 : decode cX7_done 89 = .ok (.ireturn, 1) := by decide +kernel
theorem dX7_done_90 : decode cX7_done 90 = .ok (.aload_n 0, 1) := by decide +kernel
theorem dX7_done_91 : decode cX7_done 91 = .ok (.iload_n 2, 1) := by decide +kernel
theorem dX7_done_92 : decode cX7_done 92 = .ok (.iload_n 3, 1) := by decide +kernel
theorem dX7_done_93 : decode cX7_done 93 = .ok (.invokevirtual 218, 3) := by decide +kernel
theorem dX7_done_96 : decode cX7_done 96 = .ok (.ireturn, 1) := by decide +kernel
theorem dX7_done_97 : decode cX7_done 97 = .ok (.aload_n 0, 1) := by decide +kernel
theorem dX7_done_98 : decode cX7_done 98 = .ok (.iload_n 2, 1) := by decide +kernel
theorem dX7_done_99 : decode cX7_done 99 = .ok (.iload_n 3, 1) := by decide +kernel
theorem dX7_done_100 : decode cX7_done 100 = .ok (.invokevirtual 220, 3) := by decide +kernel
theorem dX7_done_103 : decode cX7_done 103 = .ok (.ireturn, 1) := by decide +kernel
theorem dX7_done_104 : decode cX7_done 104 = .ok (.aload_n 0, 1) := by decide +kernel
theorem dX7_done_105 : decode cX7_done 105 = .ok (.iload_n 2, 1) := by decide +kernel
theorem dX7_done_106 : decode cX7_done 106 = .ok (.iload_n 3, 1) := by decide +kernel
theorem dX7_done_107 : decode cX7_done 107 = .ok (.invokevirtual 222, 3) := by decide +kernel
theorem dX7_done_110 : decode cX7_done 110 = .ok (.ireturn, 1) := by decide +kernel
theorem dX7_read_0 : decode cX7_read 0 = .ok (.aload_n 0, 1) := by decide +kernel
theorem dX7_read_1 : decode cX7_read 1 = .ok (.invokevirtual 225, 3) := by decide +kernel
theorem dX7_read_4 : decode cX7_read 4 = .ok (.istore_n 1, 1) := by decide +kernel
theorem dX7_read_5 : decode cX7_read 5 = .ok (.aload_n 0, 1) := by decide +kernel
theorem dX7_read_6 : decode cX7_read 6 = .ok (.iconst 0, 1) := by decide +kernel
theorem dX7_read_7 : decode cX7_read 7 = .ok (.putfield 162, 3) := by decide +kernel
theorem dX7_read_10 : decode cX7_read 10 = .ok (.iload_n 1, 1) := by decide +kernel
theorem dX7_read_11 : decode cX7_read 11 = .ok (.ifCond .ne 11, 3) := by decide +kernel
theorem dX7_read_14 : decode cX7_read 14 = .ok (.bipush (-10), 2) := by decide +kernel
theorem dX7_read_16 : decode cX7_read 16 = .ok (.aload_n 0, 1) := by decide +kernel
theorem dX7_read_17 : decode cX7_read 17 = .ok (.getfield 176, 3) := by decide +kernel
theorem dX7_read_20 : decode cX7_read 20 = .ok (.isub, 1) := by decide +kernel
theorem dX7_read_21 : decode cX7_read 21 = .ok (.ireturn, 1) := by decide +kernel
theorem dX7_read_22 : decode cX7_read 22 = .ok (.iconst 0, 1) := by decide +kernel
theorem dX7_read_23 : decode cX7_read 23 = .ok (.istore_n 2, 1) := by decide +kernel
theorem dX7_read_24 : decode cX7_read 24 = .ok (.iconst 0, 1) := by decide +kernel
theorem dX7_read_25 : decode cX7_read 25 = .ok (.istore_n 3, 1) := by decide +kernel
theorem dX7_read_26 : decode cX7_read 26 = .ok (.iload_n 3, 1) := by decide +kernel
theorem dX7_read_27 : decode cX7_read 27 = .ok (.aload_n 0, 1) := by decide +kernel
theorem dX7_read_28 : decode cX7_read 28 = .ok (.getfield 197, 3) := by decide +kernel
theorem dX7_read_31 : decode cX7_read 31 = .ok (.if_icmp .ge 20, 3) := by decide +kernel
theorem dX7_read_34 : decode cX7_read 34 = .ok (.aload_n 0, 1) := by decide +kernel
theorem dX7_read_35 : decode cX7_read 35 = .ok (.iload_n 3, 1) := by decide +kernel
theorem dX7_read_36 : decode cX7_read 36 = .ok (.invokevirtual 228, 3) := by decide +kernel
theorem dX7_read_39 : decode cX7_read 39 = .ok (.ifCond .lt 6, 3) := by decide +kernel
theorem dX7_read_42 : decode cX7_read 42 = .ok (.iinc 2 1, 3) := by decide +kernel
theorem dX7_read_45 : decode cX7_read 45 = .ok (.iinc 3 1, 3) := by decide +kernel
theorem dX7_read_48 : decode cX7_read 48 = .ok (.goto (-22), 3) := by decide +kernel
theorem dX7_read_51 : decode cX7_read 51 = .ok (.iload_n 2, 1) := by decide +kernel
theorem dX7_read_52 : decode cX7_read 52 = .ok (.ireturn, 1) := by decide +kernel
theorem dX7_of_0 : decode cX7_of 0 = .ok (.iload_n 1, 1) := by decide +kernel
theorem dX7_of_1 : decode cX7_of 1 = .ok (.invokestatic 135, 3) := by decide +kernel
theorem dX7_of_4 : decode cX7_of 4 = .ok (.ifCond .eq 7, 3) := by decide +kernel
theorem dX7_of_7 : decode cX7_of 7 = .ok (.iload_n 2, 1) := by decide +kernel
theorem dX7_of_8 : decode cX7_of 8 = .ok (.ifCond .ge 5, 3) := by decide +kernel
theorem dX7_of_11 : decode cX7_of 11 = .ok (.iconst (-1), 1) := by decide +kernel
theorem dX7_of_12 : decode cX7_of 12 = .ok (.ireturn, 1) := by decide +kernel
theorem dX7_of_13 : decode cX7_of 13 = .ok (.iload_n 2, 1) := by decide +kernel
theorem dX7_of_14 : decode cX7_of 14 = .ok (.aload_n 0, 1) := by decide +kernel
theorem dX7_of_15 : decode cX7_of 15 = .ok (.getfield 15, 3) := by decide +kernel
theorem dX7_of_18 : decode cX7_of 18 = .ok (.iload_n 1, 1) := by decide +kernel
theorem dX7_of_19 : decode cX7_of 19 = .ok (.iaload, 1) := by decide +kernel
theorem dX7_of_20 : decode cX7_of 20 = .ok (.if_icmp .ge 14, 3) := by decide +kernel
theorem dX7_of_23 : decode cX7_of 23 = .ok (.aload_n 0, 1) := by decide +kernel
theorem dX7_of_24 : decode cX7_of 24 = .ok (.getfield 20, 3) := by decide +kernel
theorem dX7_of_27 : decode cX7_of 27 = .ok (.iload_n 1, 1) := by decide +kernel
theorem dX7_of_28 : decode cX7_of 28 = .ok (.aaload, 1) := by decide +kernel
theorem dX7_of_29 : decode cX7_of 29 = .ok (.iload_n 2, 1) := by decide +kernel
theorem dX7_of_30 : decode cX7_of 30 = .ok (.iaload, 1) := by decide +kernel
theorem dX7_of_31 : decode cX7_of 31 = .ok (.goto 5, 3) := by decide +kernel
theorem dX7_of_34 : decode cX7_of 34 = .ok (.bipush (-5), 2) := by decide +kernel
theorem dX7_of_36 : decode cX7_of 36 = .ok (.ireturn, 1) := by decide +kernel
theorem dX7_isFlaw_0 : decode cX7_isFlaw 0 = .ok (.aload_n 0, 1) := by decide +kernel
theorem dX7_isFlaw_1 : decode cX7_isFlaw 1 = .ok (.getfield 20, 3) := by decide +kernel
theorem dX7_isFlaw_4 : decode cX7_isFlaw 4 = .ok (.iload_n 1, 1) := by decide +kernel
theorem dX7_isFlaw_5 : decode cX7_isFlaw 5 = .ok (.aaload, 1) := by decide +kernel
theorem dX7_isFlaw_6 : decode cX7_isFlaw 6 = .ok (.iload_n 2, 1) := by decide +kernel
theorem dX7_isFlaw_7 : decode cX7_isFlaw 7 = .ok (.iaload, 1) := by decide +kernel
theorem dX7_isFlaw_8 : decode cX7_isFlaw 8 = .ok (.i2l, 1) := by decide +kernel
theorem dX7_isFlaw_9 : decode cX7_isFlaw 9 = .ok (.lstore_n 3, 1) := by decide +kernel
theorem dX7_isFlaw_10 : decode cX7_isFlaw 10 = .ok (.iload_n 2, 1) := by decide +kernel
theorem dX7_isFlaw_11 : decode cX7_isFlaw 11 = .ok (.ifCond .le 17, 3) := by decide +kernel
theorem dX7_isFlaw_14 : decode cX7_isFlaw 14 = .ok (.aload_n 0, 1) := by decide +kernel
theorem dX7_isFlaw_15 : decode cX7_isFlaw 15 = .ok (.getfield 20, 3) := by decide +kernel
theorem dX7_isFlaw_18 : decode cX7_isFlaw 18 = .ok (.iload_n 1, 1) := by decide +kernel
theorem dX7_isFlaw_19 : decode cX7_isFlaw 19 = .ok (.aaload, 1) := by decide +kernel
theorem dX7_isFlaw_20 : decode cX7_isFlaw 20 = .ok (.iload_n 2, 1) := by decide +kernel
theorem dX7_isFlaw_21 : decode cX7_isFlaw 21 = .ok (.iconst 1, 1) := by decide +kernel
theorem dX7_isFlaw_22 : decode cX7_isFlaw 22 = .ok (.isub, 1) := by decide +kernel
theorem dX7_isFlaw_23 : decode cX7_isFlaw 23 = .ok (.iaload, 1) := by decide +kernel
theorem dX7_isFlaw_24 : decode cX7_isFlaw 24 = .ok (.i2l, 1) := by decide +kernel
theorem dX7_isFlaw_25 : decode cX7_isFlaw 25 = .ok (.goto 4, 3) := by decide +kernel
theorem dX7_isFlaw_28 : decode cX7_isFlaw 28 = .ok (.lconst 0, 1) := by decide +kernel
theorem dX7_isFlaw_29 : decode cX7_isFlaw 29 = .ok (.lstore 5, 2) := by decide +kernel
theorem dX7_isFlaw_31 : decode cX7_isFlaw 31 = .ok (.iload_n 2, 1) := by decide +kernel
theorem dX7_isFlaw_32 : decode cX7_isFlaw 32 = .ok (.aload_n 0, 1) := by decide +kernel
theorem dX7_isFlaw_33 : decode cX7_isFlaw 33 = .ok (.getfield 15, 3) := by decide +kernel
theorem dX7_isFlaw_36 : decode cX7_isFlaw 36 = .ok (.iload_n 1, 1) := by decide +kernel
theorem dX7_isFlaw_37 : decode cX7_isFlaw 37 = .ok (.iaload, 1) := by decide +kernel
theorem dX7_isFlaw_38 : decode cX7_isFlaw 38 = .ok (.iconst 1, 1) := by decide +kernel
theorem dX7_isFlaw_39 : decode cX7_isFlaw 39 = .ok (.isub, 1) := by decide +kernel
theorem dX7_isFlaw_40 : decode cX7_isFlaw 40 = .ok (.if_icmp .ne 7, 3) := by decide +kernel
theorem dX7_isFlaw_43 : decode cX7_isFlaw 43 = .ok (.iconst 1, 1) := by decide +kernel
theorem dX7_isFlaw_44 : decode cX7_isFlaw 44 = .ok (.goto 4, 3) := by decide +kernel
theorem dX7_isFlaw_47 : decode cX7_isFlaw 47 = .ok (.iconst 0, 1) := by decide +kernel
theorem dX7_isFlaw_48 : decode cX7_isFlaw 48 = .ok (.istore 7, 2) := by decide +kernel
theorem dX7_isFlaw_50 : decode cX7_isFlaw 50 = .ok (.aload_n 0, 1) := by decide +kernel
theorem dX7_isFlaw_51 : decode cX7_isFlaw 51 = .ok (.getfield 11, 3) := by decide +kernel
theorem dX7_isFlaw_54 : decode cX7_isFlaw 54 = .ok (.iload_n 1, 1) := by decide +kernel
theorem dX7_isFlaw_55 : decode cX7_isFlaw 55 = .ok (.iaload, 1) := by decide +kernel
theorem dX7_isFlaw_56 : decode cX7_isFlaw 56 = .ok (.tableswitch 157 0 2 #[28, 68, 101], 28) := by decide +kernel
theorem dX7_isFlaw_84 : decode cX7_isFlaw 84 = .ok (.iload_n 2, 1) := by decide +kernel
theorem dX7_isFlaw_85 : decode cX7_isFlaw 85 = .ok (.ifCond .ne 19, 3) := by decide +kernel
theorem dX7_isFlaw_88 : decode cX7_isFlaw 88 = .ok (.lload_n 3, 1) := by decide +kernel
theorem dX7_isFlaw_89 : decode cX7_isFlaw 89 = .ok (.ldc2_w 231, 3) := by decide +kernel
theorem dX7_isFlaw_92 : decode cX7_isFlaw 92 = .ok (.lcmp, 1) := by decide +kernel
theorem dX7_isFlaw_93 : decode cX7_isFlaw 93 = .ok (.ifCond .ge 7, 3) := by decide +kernel
theorem dX7_isFlaw_96 : decode cX7_isFlaw 96 = .ok (.iconst 1, 1) := by decide +kernel
theorem dX7_isFlaw_97 : decode cX7_isFlaw 97 = .ok (.goto 26, 3) := by decide +kernel
theorem dX7_isFlaw_100 : decode cX7_isFlaw 100 = .ok (.iconst 0, 1) := by decide +kernel
theorem dX7_isFlaw_101 : decode cX7_isFlaw 101 = .ok (.goto 22, 3) := by decide +kernel
theorem dX7_isFlaw_104 : decode cX7_isFlaw 104 = .ok (.lload_n 3, 1) := by decide +kernel
theorem dX7_isFlaw_105 : decode cX7_isFlaw 105 = .ok (.lload 5, 2) := by decide +kernel
theorem dX7_isFlaw_107 : decode cX7_isFlaw 107 = .ok (.lload 5, 2) := by decide +kernel
theorem dX7_isFlaw_109 : decode cX7_isFlaw 109 = .ok (.lconst 1, 1) := by decide +kernel
theorem dX7_isFlaw_110 : decode cX7_isFlaw 110 = .ok (.lsub, 1) := by decide +kernel
theorem dX7_isFlaw_111 : decode cX7_isFlaw 111 = .ok (.lmul, 1) := by decide +kernel
theorem dX7_isFlaw_112 : decode cX7_isFlaw 112 = .ok (.lconst 1, 1) := by decide +kernel
theorem dX7_isFlaw_113 : decode cX7_isFlaw 113 = .ok (.ladd, 1) := by decide +kernel
theorem dX7_isFlaw_114 : decode cX7_isFlaw 114 = .ok (.lcmp, 1) := by decide +kernel
theorem dX7_isFlaw_115 : decode cX7_isFlaw 115 = .ok (.ifCond .ge 7, 3) := by decide +kernel
theorem dX7_isFlaw_118 : decode cX7_isFlaw 118 = .ok (.iconst 1, 1) := by decide +kernel
theorem dX7_isFlaw_119 : decode cX7_isFlaw 119 = .ok (.goto 4, 3) := by decide +kernel
theorem dX7_isFlaw_122 : decode cX7_isFlaw 122 = .ok (.iconst 0, 1) := by decide +kernel
theorem dX7_isFlaw_123 : decode cX7_isFlaw 123 = .ok (.ireturn, 1) := by decide +kernel
theorem dX7_isFlaw_124 : decode cX7_isFlaw 124 = .ok (.iload_n 2, 1) := by decide +kernel
theorem dX7_isFlaw_125 : decode cX7_isFlaw 125 = .ok (.ifCond .ne 19, 3) := by decide +kernel
theorem dX7_isFlaw_128 : decode cX7_isFlaw 128 = .ok (.lload_n 3, 1) := by decide +kernel
theorem dX7_isFlaw_129 : decode cX7_isFlaw 129 = .ok (.ldc2_w 231, 3) := by decide +kernel
theorem dX7_isFlaw_132 : decode cX7_isFlaw 132 = .ok (.lcmp, 1) := by decide +kernel
theorem dX7_isFlaw_133 : decode cX7_isFlaw 133 = .ok (.ifCond .ge 7, 3) := by decide +kernel
theorem dX7_isFlaw_136 : decode cX7_isFlaw 136 = .ok (.iconst 1, 1) := by decide +kernel
theorem dX7_isFlaw_137 : decode cX7_isFlaw 137 = .ok (.goto 19, 3) := by decide +kernel
theorem dX7_isFlaw_140 : decode cX7_isFlaw 140 = .ok (.iconst 0, 1) := by decide +kernel
theorem dX7_isFlaw_141 : decode cX7_isFlaw 141 = .ok (.goto 15, 3) := by decide +kernel
theorem dX7_isFlaw_144 : decode cX7_isFlaw 144 = .ok (.lload_n 3, 1) := by decide +kernel
theorem dX7_isFlaw_145 : decode cX7_isFlaw 145 = .ok (.lload 5, 2) := by decide +kernel
theorem dX7_isFlaw_147 : decode cX7_isFlaw 147 = .ok (.lcmp, 1) := by decide +kernel
theorem dX7_isFlaw_148 : decode cX7_isFlaw 148 = .ok (.ifCond .ge 7, 3) := by decide +kernel
theorem dX7_isFlaw_151 : decode cX7_isFlaw 151 = .ok (.iconst 1, 1) := by decide +kernel
theorem dX7_isFlaw_152 : decode cX7_isFlaw 152 = .ok (.goto 4, 3) := by decide +kernel
theorem dX7_isFlaw_155 : decode cX7_isFlaw 155 = .ok (.iconst 0, 1) := by decide +kernel
theorem dX7_isFlaw_156 : decode cX7_isFlaw 156 = .ok (.ireturn, 1) := by decide +kernel
theorem dX7_isFlaw_157 : decode cX7_isFlaw 157 = .ok (.iload_n 2, 1) := by decide +kernel
theorem dX7_isFlaw_158 : decode cX7_isFlaw 158 = .ok (.ifCond .ne 28, 3) := by decide +kernel
theorem dX7_isFlaw_161 : decode cX7_isFlaw 161 = .ok (.lload_n 3, 1) := by decide +kernel
theorem dX7_isFlaw_162 : decode cX7_isFlaw 162 = .ok (.lconst 1, 1) := by decide +kernel
theorem dX7_isFlaw_163 : decode cX7_isFlaw 163 = .ok (.lcmp, 1) := by decide +kernel
theorem dX7_isFlaw_164 : decode cX7_isFlaw 164 = .ok (.ifCond .lt 14, 3) := by decide +kernel
theorem dX7_isFlaw_167 : decode cX7_isFlaw 167 = .ok (.iload 7, 2) := by decide +kernel
theorem dX7_isFlaw_169 : decode cX7_isFlaw 169 = .ok (.ifCond .eq 13, 3) := by decide +kernel
theorem dX7_isFlaw_172 : decode cX7_isFlaw 172 = .ok (.lload_n 3, 1) := by decide +kernel
theorem dX7_isFlaw_173 : decode cX7_isFlaw 173 = .ok (.lconst 1, 1) := by decide +kernel
theorem dX7_isFlaw_174 : decode cX7_isFlaw 174 = .ok (.lcmp, 1) := by decide +kernel
theorem dX7_isFlaw_175 : decode cX7_isFlaw 175 = .ok (.ifCond .ne 7, 3) := by decide +kernel
theorem dX7_isFlaw_178 : decode cX7_isFlaw 178 = .ok (.iconst 1, 1) := by decide +kernel
theorem dX7_isFlaw_179 : decode cX7_isFlaw 179 = .ok (.goto 33, 3) := by decide +kernel
theorem dX7_isFlaw_182 : decode cX7_isFlaw 182 = .ok (.iconst 0, 1) := by decide +kernel
theorem dX7_isFlaw_183 : decode cX7_isFlaw 183 = .ok (.goto 29, 3) := by decide +kernel
theorem dX7_isFlaw_186 : decode cX7_isFlaw 186 = .ok (.lload_n 3, 1) := by decide +kernel
theorem dX7_isFlaw_187 : decode cX7_isFlaw 187 = .ok (.lload 5, 2) := by decide +kernel
theorem dX7_isFlaw_189 : decode cX7_isFlaw 189 = .ok (.lcmp, 1) := by decide +kernel
theorem dX7_isFlaw_190 : decode cX7_isFlaw 190 = .ok (.ifCond .le 17, 3) := by decide +kernel
theorem dX7_isFlaw_193 : decode cX7_isFlaw 193 = .ok (.iload 7, 2) := by decide +kernel
theorem dX7_isFlaw_195 : decode cX7_isFlaw 195 = .ok (.ifCond .eq 16, 3) := by decide +kernel
theorem dX7_isFlaw_198 : decode cX7_isFlaw 198 = .ok (.lload_n 3, 1) := by decide +kernel
theorem dX7_isFlaw_199 : decode cX7_isFlaw 199 = .ok (.lload 5, 2) := by decide +kernel
theorem dX7_isFlaw_201 : decode cX7_isFlaw 201 = .ok (.lconst 1, 1) := by decide +kernel
theorem dX7_isFlaw_202 : decode cX7_isFlaw 202 = .ok (.ladd, 1) := by decide +kernel
theorem dX7_isFlaw_203 : decode cX7_isFlaw 203 = .ok (.lcmp, 1) := by decide +kernel
theorem dX7_isFlaw_204 : decode cX7_isFlaw 204 = .ok (.ifCond .ne 7, 3) := by decide +kernel
theorem dX7_isFlaw_207 : decode cX7_isFlaw 207 = .ok (.iconst 1, 1) := by decide +kernel
theorem dX7_isFlaw_208 : decode cX7_isFlaw 208 = .ok (.goto 4, 3) := by decide +kernel
theorem dX7_isFlaw_211 : decode cX7_isFlaw 211 = .ok (.iconst 0, 1) := by decide +kernel
theorem dX7_isFlaw_212 : decode cX7_isFlaw 212 = .ok (.ireturn, 1) := by decide +kernel
theorem dX7_isFlaw_213 : decode cX7_isFlaw 213 = .ok (.lload_n 3, 1) := by decide +kernel
theorem dX7_isFlaw_214 : decode cX7_isFlaw 214 = .ok (.iload_n 2, 1) := by decide +kernel
theorem dX7_isFlaw_215 : decode cX7_isFlaw 215 = .ok (.iconst 1, 1) := by decide +kernel
theorem dX7_isFlaw_216 : decode cX7_isFlaw 216 = .ok (.iadd, 1) := by decide +kernel
theorem dX7_isFlaw_217 : decode cX7_isFlaw 217 = .ok (.i2l, 1) := by decide +kernel
theorem dX7_isFlaw_218 : decode cX7_isFlaw 218 = .ok (.lcmp, 1) := by decide +kernel
theorem dX7_isFlaw_219 : decode cX7_isFlaw 219 = .ok (.ifCond .gt 14, 3) := by decide +kernel
theorem dX7_isFlaw_222 : decode cX7_isFlaw 222 = .ok (.iload 7, 2) := by decide +kernel
theorem dX7_isFlaw_224 : decode cX7_isFlaw 224 = .ok (.ifCond .eq 13, 3) := by decide +kernel
theorem dX7_isFlaw_227 : decode cX7_isFlaw 227 = .ok (.lload_n 3, 1) := by decide +kernel
theorem dX7_isFlaw_228 : decode cX7_isFlaw 228 = .ok (.lconst 0, 1) := by decide +kernel
theorem dX7_isFlaw_229 : decode cX7_isFlaw 229 = .ok (.lcmp, 1) := by decide +kernel
theorem dX7_isFlaw_230 : decode cX7_isFlaw 230 = .ok (.ifCond .ne 7, 3) := by decide +kernel
theorem dX7_isFlaw_233 : decode cX7_isFlaw 233 = .ok (.iconst 1, 1) := by decide +kernel
theorem dX7_isFlaw_234 : decode cX7_isFlaw 234 = .ok (.goto 4, 3) := by decide +kernel
theorem dX7_isFlaw_237 : decode cX7_isFlaw 237 = .ok (.iconst 0, 1) := by decide +kernel
theorem dX7_isFlaw_238 : decode cX7_isFlaw 238 = .ok (.ireturn, 1) := by decide +kernel
theorem dX7_flaw_0 : decode cX7_flaw 0 = .ok (.aload_n 0, 1) := by decide +kernel
theorem dX7_flaw_1 : decode cX7_flaw 1 = .ok (.getfield 15, 3) := by decide +kernel
theorem dX7_flaw_4 : decode cX7_flaw 4 = .ok (.iload_n 1, 1) := by decide +kernel
theorem dX7_flaw_5 : decode cX7_flaw 5 = .ok (.iaload, 1) := by decide +kernel
theorem dX7_flaw_6 : decode cX7_flaw 6 = .ok (.ifCond .ne 5, 3) := by decide +kernel
theorem dX7_flaw_9 : decode cX7_flaw 9 = .ok (.iconst 0, 1) := by decide +kernel
theorem dX7_flaw_10 : decode cX7_flaw 10 = .ok (.ireturn, 1) := by decide +kernel
theorem dX7_flaw_11 : decode cX7_flaw 11 = .ok (.iconst 0, 1) := by decide +kernel
theorem dX7_flaw_12 : decode cX7_flaw 12 = .ok (.istore_n 2, 1) := by decide +kernel
theorem dX7_flaw_13 : decode cX7_flaw 13 = .ok (.iload_n 2, 1) := by decide +kernel
theorem dX7_flaw_14 : decode cX7_flaw 14 = .ok (.aload_n 0, 1) := by decide +kernel
theorem dX7_flaw_15 : decode cX7_flaw 15 = .ok (.getfield 15, 3) := by decide +kernel
theorem dX7_flaw_18 : decode cX7_flaw 18 = .ok (.iload_n 1, 1) := by decide +kernel
theorem dX7_flaw_19 : decode cX7_flaw 19 = .ok (.iaload, 1) := by decide +kernel
theorem dX7_flaw_20 : decode cX7_flaw 20 = .ok (.if_icmp .ge 20, 3) := by decide +kernel
theorem dX7_flaw_23 : decode cX7_flaw 23 = .ok (.aload_n 0, 1) := by decide +kernel
theorem dX7_flaw_24 : decode cX7_flaw 24 = .ok (.iload_n 1, 1) := by decide +kernel
theorem dX7_flaw_25 : decode cX7_flaw 25 = .ok (.iload_n 2, 1) := by decide +kernel
theorem dX7_flaw_26 : decode cX7_flaw 26 = .ok (.invokevirtual 233, 3) := by decide +kernel
theorem dX7_flaw_29 : decode cX7_flaw 29 = .ok (.ifCond .eq 5, 3) := by decide +kernel
theorem dX7_flaw_32 : decode cX7_flaw 32 = .ok (.iload_n 2, 1) := by decide +kernel
theorem dX7_flaw_33 : decode cX7_flaw 33 = .ok (.ireturn, 1) := by decide +kernel
theorem dX7_flaw_34 : decode cX7_flaw 34 = .ok (.iinc 2 1, 3) := by decide +kernel
theorem dX7_flaw_37 : decode cX7_flaw 37 = .ok (.goto (-24), 3) := by decide +kernel
theorem dX7_flaw_40 : decode cX7_flaw 40 = .ok (.bipush (-5), 2) := by decide +kernel
theorem dX7_flaw_42 : decode cX7_flaw 42 = .ok (.ireturn, 1) := by decide +kernel
theorem dX7_hasWorth_0 : decode cX7_hasWorth 0 = .ok (.aload_n 0, 1) := by decide +kernel
theorem dX7_hasWorth_1 : decode cX7_hasWorth 1 = .ok (.iload_n 1, 1) := by decide +kernel
theorem dX7_hasWorth_2 : decode cX7_hasWorth 2 = .ok (.aload_n 0, 1) := by decide +kernel
theorem dX7_hasWorth_3 : decode cX7_hasWorth 3 = .ok (.getfield 15, 3) := by decide +kernel
theorem dX7_hasWorth_6 : decode cX7_hasWorth 6 = .ok (.iload_n 1, 1) := by decide +kernel
theorem dX7_hasWorth_7 : decode cX7_hasWorth 7 = .ok (.iaload, 1) := by decide +kernel
theorem dX7_hasWorth_8 : decode cX7_hasWorth 8 = .ok (.invokevirtual 154, 3) := by decide +kernel
theorem dX7_hasWorth_11 : decode cX7_hasWorth 11 = .ok (.aload_n 0, 1) := by decide +kernel
theorem dX7_hasWorth_12 : decode cX7_hasWorth 12 = .ok (.invokevirtual 112, 3) := by decide +kernel
theorem dX7_hasWorth_15 : decode cX7_hasWorth 15 = .ok (.ireturn, 1) := by decide +kernel
theorem dX7_told_0 : decode cX7_told 0 = .ok (.iload_n 1, 1) := by decide +kernel
theorem dX7_told_1 : decode cX7_told 1 = .ok (.invokestatic 135, 3) := by decide +kernel
theorem dX7_told_4 : decode cX7_told 4 = .ok (.ifCond .ne 5, 3) := by decide +kernel
theorem dX7_told_7 : decode cX7_told 7 = .ok (.iconst (-1), 1) := by decide +kernel
theorem dX7_told_8 : decode cX7_told 8 = .ok (.ireturn, 1) := by decide +kernel
theorem dX7_told_9 : decode cX7_told 9 = .ok (.iload_n 2, 1) := by decide +kernel
theorem dX7_told_10 : decode cX7_told 10 = .ok (.tableswitch 64 0 3 #[30, 37, 44, 50], 30) := by decide +kernel
theorem dX7_told_40 : decode cX7_told 40 = .ok (.aload_n 0, 1) := by decide +kernel
theorem dX7_told_41 : decode cX7_told 41 = .ok (.getfield 11, 3) := by decide +kernel
theorem dX7_told_44 : decode cX7_told 44 = .ok (.iload_n 1, 1) := by decide +kernel
theorem dX7_told_45 : decode cX7_told 45 = .ok (.iaload, 1) := by decide +kernel
theorem dX7_told_46 : decode cX7_told 46 = .ok (.ireturn, 1) := by decide +kernel
theorem dX7_told_47 : decode cX7_told 47 = .ok (.aload_n 0, 1) := by decide +kernel
theorem dX7_told_48 : decode cX7_told 48 = .ok (.getfield 15, 3) := by decide +kernel
theorem dX7_told_51 : decode cX7_told 51 = .ok (.iload_n 1, 1) := by decide +kernel
theorem dX7_told_52 : decode cX7_told 52 = .ok (.iaload, 1) := by decide +kernel
theorem dX7_told_53 : decode cX7_told 53 = .ok (.ireturn, 1) := by decide +kernel
theorem dX7_told_54 : decode cX7_told 54 = .ok (.aload_n 0, 1) := by decide +kernel
theorem dX7_told_55 : decode cX7_told 55 = .ok (.iload_n 1, 1) := by decide +kernel
theorem dX7_told_56 : decode cX7_told 56 = .ok (.invokevirtual 237, 3) := by decide +kernel
theorem dX7_told_59 : decode cX7_told 59 = .ok (.ireturn, 1) := by decide +kernel
theorem dX7_told_60 : decode cX7_told 60 = .ok (.aload_n 0, 1) := by decide +kernel
theorem dX7_told_61 : decode cX7_told 61 = .ok (.iload_n 1, 1) := by decide +kernel
theorem dX7_told_62 : decode cX7_told 62 = .ok (.invokevirtual 240, 3) := by decide +kernel
theorem dX7_told_65 : decode cX7_told 65 = .ok (.ifCond .eq 7, 3) := by decide +kernel
theorem dX7_told_68 : decode cX7_told 68 = .ok (.iconst 1, 1) := by decide +kernel
theorem dX7_told_69 : decode cX7_told 69 = .ok (.goto 4, 3) := by decide +kernel
theorem dX7_told_72 : decode cX7_told 72 = .ok (.iconst 0, 1) := by decide +kernel
theorem dX7_told_73 : decode cX7_told 73 = .ok (.ireturn, 1) := by decide +kernel
theorem dX7_told_74 : decode cX7_told 74 = .ok (.iconst (-1), 1) := by decide +kernel
theorem dX7_told_75 : decode cX7_told 75 = .ok (.ireturn, 1) := by decide +kernel
theorem dX7_isPart_0 : decode cX7_isPart 0 = .ok (.iload_n 0, 1) := by decide +kernel
theorem dX7_isPart_1 : decode cX7_isPart 1 = .ok (.iconst 0, 1) := by decide +kernel
theorem dX7_isPart_2 : decode cX7_isPart 2 = .ok (.iconst 1, 1) := by decide +kernel
theorem dX7_isPart_3 : decode cX7_isPart 3 = .ok (.invokestatic 89, 3) := by decide +kernel
theorem dX7_isPart_6 : decode cX7_isPart 6 = .ok (.ireturn, 1) := by decide +kernel
theorem dX7_partOf_0 : decode cX7_partOf 0 = .ok (.aload_n 0, 1) := by decide +kernel
theorem dX7_partOf_1 : decode cX7_partOf 1 = .ok (.invokevirtual 112, 3) := by decide +kernel
theorem dX7_partOf_4 : decode cX7_partOf 4 = .ok (.ifCond .ne 9, 3) := by decide +kernel
theorem dX7_partOf_7 : decode cX7_partOf 7 = .ok (.ldc2_w 243, 3) := by decide +kernel
theorem dX7_partOf_10 : decode cX7_partOf 10 = .ok (.goto 18, 3) := by decide +kernel
theorem dX7_partOf_13 : decode cX7_partOf 13 = .ok (.iload_n 1, 1) := by decide +kernel
theorem dX7_partOf_14 : decode cX7_partOf 14 = .ok (.ifCond .ne 10, 3) := by decide +kernel
theorem dX7_partOf_17 : decode cX7_partOf 17 = .ok (.aload_n 0, 1) := by decide +kernel
theorem dX7_partOf_18 : decode cX7_partOf 18 = .ok (.getfield 103, 3) := by decide +kernel
theorem dX7_partOf_21 : decode cX7_partOf 21 = .ok (.goto 7, 3) := by decide +kernel
theorem dX7_partOf_24 : decode cX7_partOf 24 = .ok (.aload_n 0, 1) := by decide +kernel
theorem dX7_partOf_25 : decode cX7_partOf 25 = .ok (.getfield 107, 3) := by decide +kernel
theorem dX7_partOf_28 : decode cX7_partOf 28 = .ok (.lreturn, 1) := by decide +kernel
theorem dX7_worth_0 : decode cX7_worth 0 = .ok (.iload_n 1, 1) := by decide +kernel
theorem dX7_worth_1 : decode cX7_worth 1 = .ok (.invokestatic 135, 3) := by decide +kernel
theorem dX7_worth_4 : decode cX7_worth 4 = .ok (.ifCond .eq 10, 3) := by decide +kernel
theorem dX7_worth_7 : decode cX7_worth 7 = .ok (.iload_n 2, 1) := by decide +kernel
theorem dX7_worth_8 : decode cX7_worth 8 = .ok (.invokestatic 245, 3) := by decide +kernel
theorem dX7_worth_11 : decode cX7_worth 11 = .ok (.ifCond .ne 7, 3) := by decide +kernel
theorem dX7_worth_14 : decode cX7_worth 14 = .ok (.ldc2_w 243, 3) := by decide +kernel
theorem dX7_worth_17 : decode cX7_worth 17 = .ok (.lreturn, 1) := by decide +kernel
theorem dX7_worth_18 : decode cX7_worth 18 = .ok (.aload_n 0, 1) := by decide +kernel
theorem dX7_worth_19 : decode cX7_worth 19 = .ok (.iload_n 1, 1) := by decide +kernel
theorem dX7_worth_20 : decode cX7_worth 20 = .ok (.aload_n 0, 1) := by decide +kernel
theorem dX7_worth_21 : decode cX7_worth 21 = .ok (.getfield 15, 3) := by decide +kernel
theorem dX7_worth_24 : decode cX7_worth 24 = .ok (.iload_n 1, 1) := by decide +kernel
theorem dX7_worth_25 : decode cX7_worth 25 = .ok (.iaload, 1) := by decide +kernel
theorem dX7_worth_26 : decode cX7_worth 26 = .ok (.invokevirtual 154, 3) := by decide +kernel
theorem dX7_worth_29 : decode cX7_worth 29 = .ok (.aload_n 0, 1) := by decide +kernel
theorem dX7_worth_30 : decode cX7_worth 30 = .ok (.iload_n 2, 1) := by decide +kernel
theorem dX7_worth_31 : decode cX7_worth 31 = .ok (.invokevirtual 248, 3) := by decide +kernel
theorem dX7_worth_34 : decode cX7_worth 34 = .ok (.lreturn, 1) := by decide +kernel
theorem dX7_says_0 : decode cX7_says 0 = .ok (.aload_n 0, 1) := by decide +kernel
theorem dX7_says_1 : decode cX7_says 1 = .ok (.getfield 33, 3) := by decide +kernel
theorem dX7_says_4 : decode cX7_says 4 = .ok (.aload_n 0, 1) := by decide +kernel
theorem dX7_says_5 : decode cX7_says 5 = .ok (.getfield 252, 3) := by decide +kernel
theorem dX7_says_8 : decode cX7_says 8 = .ok (.iload_n 1, 1) := by decide +kernel
theorem dX7_says_9 : decode cX7_says 9 = .ok (.i2b, 1) := by decide +kernel
theorem dX7_says_10 : decode cX7_says 10 = .ok (.bastore, 1) := by decide +kernel
theorem dX7_says_11 : decode cX7_says 11 = .ok (.aload_n 0, 1) := by decide +kernel
theorem dX7_says_12 : decode cX7_says 12 = .ok (.dup, 1) := by decide +kernel
theorem dX7_says_13 : decode cX7_says 13 = .ok (.getfield 252, 3) := by decide +kernel
theorem dX7_says_16 : decode cX7_says 16 = .ok (.iconst 1, 1) := by decide +kernel
theorem dX7_says_17 : decode cX7_says 17 = .ok (.iadd, 1) := by decide +kernel
theorem dX7_says_18 : decode cX7_says 18 = .ok (.putfield 252, 3) := by decide +kernel
theorem dX7_says_21 : decode cX7_says 21 = .ok (.return_, 1) := by decide +kernel
theorem dX7_saysNumber_0 : decode cX7_saysNumber 0 = .ok (.iload_n 1, 1) := by decide +kernel
theorem dX7_saysNumber_1 : decode cX7_saysNumber 1 = .ok (.bipush 9, 2) := by decide +kernel
theorem dX7_saysNumber_3 : decode cX7_saysNumber 3 = .ok (.if_icmp .le 11, 3) := by decide +kernel
theorem dX7_saysNumber_6 : decode cX7_saysNumber 6 = .ok (.aload_n 0, 1) := by decide +kernel
theorem dX7_saysNumber_7 : decode cX7_saysNumber 7 = .ok (.iload_n 1, 1) := by decide +kernel
theorem dX7_saysNumber_8 : decode cX7_saysNumber 8 = .ok (.bipush 10, 2) := by decide +kernel
theorem dX7_saysNumber_10 : decode cX7_saysNumber 10 = .ok (.idiv, 1) := by decide +kernel
theorem dX7_saysNumber_11 : decode cX7_saysNumber 11 = .ok (.invokevirtual 255, 3) := by decide +kernel
theorem dX7_saysNumber_14 : decode cX7_saysNumber 14 = .ok (.aload_n 0, 1) := by decide +kernel
theorem dX7_saysNumber_15 : decode cX7_saysNumber 15 = .ok (.bipush 48, 2) := by decide +kernel
theorem dX7_saysNumber_17 : decode cX7_saysNumber 17 = .ok (.iload_n 1, 1) := by decide +kernel
theorem dX7_saysNumber_18 : decode cX7_saysNumber 18 = .ok (.bipush 10, 2) := by decide +kernel
theorem dX7_saysNumber_20 : decode cX7_saysNumber 20 = .ok (.irem, 1) := by decide +kernel
theorem dX7_saysNumber_21 : decode cX7_saysNumber 21 = .ok (.iadd, 1) := by decide +kernel
theorem dX7_saysNumber_22 : decode cX7_saysNumber 22 = .ok (.invokevirtual 259, 3) := by decide +kernel
theorem dX7_saysNumber_25 : decode cX7_saysNumber 25 = .ok (.return_, 1) := by decide +kernel
theorem dX7_written_0 : decode cX7_written 0 = .ok (.iload_n 1, 1) := by decide +kernel
theorem dX7_written_1 : decode cX7_written 1 = .ok (.invokestatic 135, 3) := by decide +kernel
theorem dX7_written_4 : decode cX7_written 4 = .ok (.ifCond .eq 7, 3) := by decide +kernel
theorem dX7_written_7 : decode cX7_written 7 = .ok (.iload_n 2, 1) := by decide +kernel
theorem dX7_written_8 : decode cX7_written 8 = .ok (.ifCond .ge 5, 3) := by decide +kernel
theorem dX7_written_11 : decode cX7_written 11 = .ok (.iconst (-1), 1) := by decide +kernel
theorem dX7_written_12 : decode cX7_written 12 = .ok (.ireturn, 1) := by decide +kernel
theorem dX7_written_13 : decode cX7_written 13 = .ok (.aload_n 0, 1) := by decide +kernel
theorem dX7_written_14 : decode cX7_written 14 = .ok (.iconst 0, 1) := by decide +kernel
theorem dX7_written_15 : decode cX7_written 15 = .ok (.putfield 252, 3) := by decide +kernel
theorem dX7_written_18 : decode cX7_written 18 = .ok (.aload_n 0, 1) := by decide +kernel
theorem dX7_written_19 : decode cX7_written 19 = .ok (.ldc_w 262, 3) := by decide +kernel
theorem dX7_written_22 : decode cX7_written 22 = .ok (.aload_n 0, 1) := by decide +kernel
theorem dX7_written_23 : decode cX7_written 23 = .ok (.getfield 11, 3) := by decide +kernel
theorem dX7_written_26 : decode cX7_written 26 = .ok (.iload_n 1, 1) := by decide +kernel
theorem dX7_written_27 : decode cX7_written 27 = .ok (.iaload, 1) := by decide +kernel
theorem dX7_written_28 : decode cX7_written 28 = .ok (.invokevirtual 189, 3) := by decide +kernel
theorem dX7_written_31 : decode cX7_written 31 = .ok (.invokevirtual 259, 3) := by decide +kernel
theorem dX7_written_34 : decode cX7_written 34 = .ok (.aload_n 0, 1) := by decide +kernel
theorem dX7_written_35 : decode cX7_written 35 = .ok (.bipush 58, 2) := by decide +kernel
theorem dX7_written_37 : decode cX7_written 37 = .ok (.invokevirtual 259, 3) := by decide +kernel
theorem dX7_written_40 : decode cX7_written 40 = .ok (.iconst 0, 1) := by decide +kernel
theorem dX7_written_41 : decode cX7_written 41 = .ok (.istore_n 3, 1) := by decide +kernel
theorem dX7_written_42 : decode cX7_written 42 = .ok (.iload_n 3, 1) := by decide +kernel
theorem dX7_written_43 : decode cX7_written 43 = .ok (.aload_n 0, 1) := by decide +kernel
theorem dX7_written_44 : decode cX7_written 44 = .ok (.getfield 15, 3) := by decide +kernel
theorem dX7_written_47 : decode cX7_written 47 = .ok (.iload_n 1, 1) := by decide +kernel
theorem dX7_written_48 : decode cX7_written 48 = .ok (.iaload, 1) := by decide +kernel
theorem dX7_written_49 : decode cX7_written 49 = .ok (.if_icmp .ge 31, 3) := by decide +kernel
theorem dX7_written_52 : decode cX7_written 52 = .ok (.iload_n 3, 1) := by decide +kernel
theorem dX7_written_53 : decode cX7_written 53 = .ok (.ifCond .le 9, 3) := by decide +kernel
theorem dX7_written_56 : decode cX7_written 56 = .ok (.aload_n 0, 1) := by decide +kernel
theorem dX7_written_57 : decode cX7_written 57 = .ok (.bipush 44, 2) := by decide +kernel
theorem dX7_written_59 : decode cX7_written 59 = .ok (.invokevirtual 259, 3) := by decide +kernel
theorem dX7_written_62 : decode cX7_written 62 = .ok (.aload_n 0, 1) := by decide +kernel
theorem dX7_written_63 : decode cX7_written 63 = .ok (.aload_n 0, 1) := by decide +kernel
theorem dX7_written_64 : decode cX7_written 64 = .ok (.getfield 20, 3) := by decide +kernel
theorem dX7_written_67 : decode cX7_written 67 = .ok (.iload_n 1, 1) := by decide +kernel
theorem dX7_written_68 : decode cX7_written 68 = .ok (.aaload, 1) := by decide +kernel
theorem dX7_written_69 : decode cX7_written 69 = .ok (.iload_n 3, 1) := by decide +kernel
theorem dX7_written_70 : decode cX7_written 70 = .ok (.iaload, 1) := by decide +kernel
theorem dX7_written_71 : decode cX7_written 71 = .ok (.invokevirtual 255, 3) := by decide +kernel
theorem dX7_written_74 : decode cX7_written 74 = .ok (.iinc 3 1, 3) := by decide +kernel
theorem dX7_written_77 : decode cX7_written 77 = .ok (.goto (-35), 3) := by decide +kernel
theorem dX7_written_80 : decode cX7_written 80 = .ok (.iload_n 2, 1) := by decide +kernel
theorem dX7_written_81 : decode cX7_written 81 = .ok (.aload_n 0, 1) := by decide +kernel
theorem dX7_written_82 : decode cX7_written 82 = .ok (.getfield 252, 3) := by decide +kernel
theorem dX7_written_85 : decode cX7_written 85 = .ok (.if_icmp .ge 12, 3) := by decide +kernel
theorem dX7_written_88 : decode cX7_written 88 = .ok (.aload_n 0, 1) := by decide +kernel
theorem dX7_written_89 : decode cX7_written 89 = .ok (.getfield 33, 3) := by decide +kernel
theorem dX7_written_92 : decode cX7_written 92 = .ok (.iload_n 2, 1) := by decide +kernel
theorem dX7_written_93 : decode cX7_written 93 = .ok (.baload, 1) := by decide +kernel
theorem dX7_written_94 : decode cX7_written 94 = .ok (.goto 5, 3) := by decide +kernel
theorem dX7_written_97 : decode cX7_written 97 = .ok (.bipush (-5), 2) := by decide +kernel
theorem dX7_written_99 : decode cX7_written 99 = .ok (.ireturn, 1) := by decide +kernel
theorem dX7_greater_0 : decode cX7_greater 0 = .ok (.iload_n 1, 1) := by decide +kernel
theorem dX7_greater_1 : decode cX7_greater 1 = .ok (.invokestatic 135, 3) := by decide +kernel
theorem dX7_greater_4 : decode cX7_greater 4 = .ok (.ifCond .eq 10, 3) := by decide +kernel
theorem dX7_greater_7 : decode cX7_greater 7 = .ok (.iload_n 2, 1) := by decide +kernel
theorem dX7_greater_8 : decode cX7_greater 8 = .ok (.invokestatic 135, 3) := by decide +kernel
theorem dX7_greater_11 : decode cX7_greater 11 = .ok (.ifCond .ne 5, 3) := by decide +kernel
theorem dX7_greater_14 : decode cX7_greater 14 = .ok (.iconst (-1), 1) := by decide +kernel
theorem dX7_greater_15 : decode cX7_greater 15 = .ok (.ireturn, 1) := by decide +kernel
theorem dX7_greater_16 : decode cX7_greater 16 = .ok (.aload_n 0, 1) := by decide +kernel
theorem dX7_greater_17 : decode cX7_greater 17 = .ok (.getfield 11, 3) := by decide +kernel
theorem dX7_greater_20 : decode cX7_greater 20 = .ok (.iload_n 1, 1) := by decide +kernel
theorem dX7_greater_21 : decode cX7_greater 21 = .ok (.iaload, 1) := by decide +kernel
theorem dX7_greater_22 : decode cX7_greater 22 = .ok (.aload_n 0, 1) := by decide +kernel
theorem dX7_greater_23 : decode cX7_greater 23 = .ok (.getfield 11, 3) := by decide +kernel
theorem dX7_greater_26 : decode cX7_greater 26 = .ok (.iload_n 2, 1) := by decide +kernel
theorem dX7_greater_27 : decode cX7_greater 27 = .ok (.iaload, 1) := by decide +kernel
theorem dX7_greater_28 : decode cX7_greater 28 = .ok (.if_icmp .eq 6, 3) := by decide +kernel
theorem dX7_greater_31 : decode cX7_greater 31 = .ok (.bipush (-3), 2) := by decide +kernel
theorem dX7_greater_33 : decode cX7_greater 33 = .ok (.ireturn, 1) := by decide +kernel
theorem dX7_greater_34 : decode cX7_greater 34 = .ok (.iconst 0, 1) := by decide +kernel
theorem dX7_greater_35 : decode cX7_greater 35 = .ok (.istore_n 3, 1) := by decide +kernel
theorem dX7_greater_36 : decode cX7_greater 36 = .ok (.iload_n 3, 1) := by decide +kernel
theorem dX7_greater_37 : decode cX7_greater 37 = .ok (.aload_n 0, 1) := by decide +kernel
theorem dX7_greater_38 : decode cX7_greater 38 = .ok (.getfield 15, 3) := by decide +kernel
theorem dX7_greater_41 : decode cX7_greater 41 = .ok (.iload_n 1, 1) := by decide +kernel
theorem dX7_greater_42 : decode cX7_greater 42 = .ok (.iaload, 1) := by decide +kernel
theorem dX7_greater_43 : decode cX7_greater 43 = .ok (.if_icmp .ge 38, 3) := by decide +kernel
theorem dX7_greater_46 : decode cX7_greater 46 = .ok (.iload_n 3, 1) := by decide +kernel
theorem dX7_greater_47 : decode cX7_greater 47 = .ok (.aload_n 0, 1) := by decide +kernel
theorem dX7_greater_48 : decode cX7_greater 48 = .ok (.getfield 15, 3) := by decide +kernel
theorem dX7_greater_51 : decode cX7_greater 51 = .ok (.iload_n 2, 1) := by decide +kernel
theorem dX7_greater_52 : decode cX7_greater 52 = .ok (.iaload, 1) := by decide +kernel
theorem dX7_greater_53 : decode cX7_greater 53 = .ok (.if_icmp .ge 28, 3) := by decide +kernel
theorem dX7_greater_56 : decode cX7_greater 56 = .ok (.aload_n 0, 1) := by decide +kernel
theorem dX7_greater_57 : decode cX7_greater 57 = .ok (.getfield 20, 3) := by decide +kernel
theorem dX7_greater_60 : decode cX7_greater 60 = .ok (.iload_n 1, 1) := by decide +kernel
theorem dX7_greater_61 : decode cX7_greater 61 = .ok (.aaload, 1) := by decide +kernel
theorem dX7_greater_62 : decode cX7_greater 62 = .ok (.iload_n 3, 1) := by decide +kernel
theorem dX7_greater_63 : decode cX7_greater 63 = .ok (.iaload, 1) := by decide +kernel
theorem dX7_greater_64 : decode cX7_greater 64 = .ok (.aload_n 0, 1) := by decide +kernel
theorem dX7_greater_65 : decode cX7_greater 65 = .ok (.getfield 20, 3) := by decide +kernel
theorem dX7_greater_68 : decode cX7_greater 68 = .ok (.iload_n 2, 1) := by decide +kernel
theorem dX7_greater_69 : decode cX7_greater 69 = .ok (.aaload, 1) := by decide +kernel
theorem dX7_greater_70 : decode cX7_greater 70 = .ok (.iload_n 3, 1) := by decide +kernel
theorem dX7_greater_71 : decode cX7_greater 71 = .ok (.iaload, 1) := by decide +kernel
theorem dX7_greater_72 : decode cX7_greater 72 = .ok (.if_icmp .ne 9, 3) := by decide +kernel
theorem dX7_greater_75 : decode cX7_greater 75 = .ok (.iinc 3 1, 3) := by decide +kernel
theorem dX7_greater_78 : decode cX7_greater 78 = .ok (.goto (-42), 3) := by decide +kernel
theorem dX7_greater_81 : decode cX7_greater 81 = .ok (.iload_n 3, 1) := by decide +kernel
theorem dX7_greater_82 : decode cX7_greater 82 = .ok (.aload_n 0, 1) := by decide +kernel
theorem dX7_greater_83 : decode cX7_greater 83 = .ok (.getfield 15, 3) := by decide +kernel
theorem dX7_greater_86 : decode cX7_greater 86 = .ok (.iload_n 1, 1) := by decide +kernel
theorem dX7_greater_87 : decode cX7_greater 87 = .ok (.iaload, 1) := by decide +kernel
theorem dX7_greater_88 : decode cX7_greater 88 = .ok (.if_icmp .ge 7, 3) := by decide +kernel
theorem dX7_greater_91 : decode cX7_greater 91 = .ok (.iconst 1, 1) := by decide +kernel
theorem dX7_greater_92 : decode cX7_greater 92 = .ok (.goto 4, 3) := by decide +kernel
theorem dX7_greater_95 : decode cX7_greater 95 = .ok (.iconst 0, 1) := by decide +kernel
theorem dX7_greater_96 : decode cX7_greater 96 = .ok (.istore 4, 2) := by decide +kernel
theorem dX7_greater_98 : decode cX7_greater 98 = .ok (.iload_n 3, 1) := by decide +kernel
theorem dX7_greater_99 : decode cX7_greater 99 = .ok (.aload_n 0, 1) := by decide +kernel
theorem dX7_greater_100 : decode cX7_greater 100 = .ok (.getfield 15, 3) := by decide +kernel
theorem dX7_greater_103 : decode cX7_greater 103 = .ok (.iload_n 2, 1) := by decide +kernel
theorem dX7_greater_104 : decode cX7_greater 104 = .ok (.iaload, 1) := by decide +kernel
theorem dX7_greater_105 : decode cX7_greater 105 = .ok (.if_icmp .ge 7, 3) := by decide +kernel
theorem dX7_greater_108 : decode cX7_greater 108 = .ok (.iconst 1, 1) := by decide +kernel
theorem dX7_greater_109 : decode cX7_greater 109 = .ok (.goto 4, 3) := by decide +kernel
theorem dX7_greater_112 : decode cX7_greater 112 = .ok (.iconst 0, 1) := by decide +kernel
theorem dX7_greater_113 : decode cX7_greater 113 = .ok (.istore 5, 2) := by decide +kernel
theorem dX7_greater_115 : decode cX7_greater 115 = .ok (.iload 4, 2) := by decide +kernel
theorem dX7_greater_117 : decode cX7_greater 117 = .ok (.ifCond .ne 10, 3) := by decide +kernel
theorem dX7_greater_120 : decode cX7_greater 120 = .ok (.iload 5, 2) := by decide +kernel
theorem dX7_greater_122 : decode cX7_greater 122 = .ok (.ifCond .ne 5, 3) := by decide +kernel
theorem dX7_greater_125 : decode cX7_greater 125 = .ok (.iconst 0, 1) := by decide +kernel
theorem dX7_greater_126 : decode cX7_greater 126 = .ok (.ireturn, 1) := by decide +kernel
theorem dX7_greater_127 : decode cX7_greater 127 = .ok (.aload_n 0, 1) := by decide +kernel
theorem dX7_greater_128 : decode cX7_greater 128 = .ok (.getfield 11, 3) := by decide +kernel
theorem dX7_greater_131 : decode cX7_greater 131 = .ok (.iload_n 1, 1) := by decide +kernel
theorem dX7_greater_132 : decode cX7_greater 132 = .ok (.iaload, 1) := by decide +kernel
theorem dX7_greater_133 : decode cX7_greater 133 = .ok (.iconst 2, 1) := by decide +kernel
theorem dX7_greater_134 : decode cX7_greater 134 = .ok (.if_icmp .ne 14, 3) := by decide +kernel
theorem dX7_greater_137 : decode cX7_greater 137 = .ok (.iload_n 3, 1) := by decide +kernel
theorem dX7_greater_138 : decode cX7_greater 138 = .ok (.iconst 2, 1) := by decide +kernel
theorem dX7_greater_139 : decode cX7_greater 139 = .ok (.irem, 1) := by decide +kernel
theorem dX7_greater_140 : decode cX7_greater 140 = .ok (.iconst 1, 1) := by decide +kernel
theorem dX7_greater_141 : decode cX7_greater 141 = .ok (.if_icmp .ne 7, 3) := by decide +kernel
theorem dX7_greater_144 : decode cX7_greater 144 = .ok (.iconst 1, 1) := by decide +kernel
theorem dX7_greater_145 : decode cX7_greater 145 = .ok (.goto 4, 3) := by decide +kernel
theorem dX7_greater_148 : decode cX7_greater 148 = .ok (.iconst 0, 1) := by decide +kernel
theorem dX7_greater_149 : decode cX7_greater 149 = .ok (.istore 6, 2) := by decide +kernel
theorem dX7_greater_151 : decode cX7_greater 151 = .ok (.iload 4, 2) := by decide +kernel
theorem dX7_greater_153 : decode cX7_greater 153 = .ok (.ifCond .eq 77, 3) := by decide +kernel
theorem dX7_greater_156 : decode cX7_greater 156 = .ok (.iload 5, 2) := by decide +kernel
theorem dX7_greater_158 : decode cX7_greater 158 = .ok (.ifCond .eq 72, 3) := by decide +kernel
theorem dX7_greater_161 : decode cX7_greater 161 = .ok (.aload_n 0, 1) := by decide +kernel
theorem dX7_greater_162 : decode cX7_greater 162 = .ok (.getfield 20, 3) := by decide +kernel
theorem dX7_greater_165 : decode cX7_greater 165 = .ok (.iload_n 1, 1) := by decide +kernel
theorem dX7_greater_166 : decode cX7_greater 166 = .ok (.aaload, 1) := by decide +kernel
theorem dX7_greater_167 : decode cX7_greater 167 = .ok (.iload_n 3, 1) := by decide +kernel
theorem dX7_greater_168 : decode cX7_greater 168 = .ok (.iaload, 1) := by decide +kernel
theorem dX7_greater_169 : decode cX7_greater 169 = .ok (.aload_n 0, 1) := by decide +kernel
theorem dX7_greater_170 : decode cX7_greater 170 = .ok (.getfield 20, 3) := by decide +kernel
theorem dX7_greater_173 : decode cX7_greater 173 = .ok (.iload_n 2, 1) := by decide +kernel
theorem dX7_greater_174 : decode cX7_greater 174 = .ok (.aaload, 1) := by decide +kernel
theorem dX7_greater_175 : decode cX7_greater 175 = .ok (.iload_n 3, 1) := by decide +kernel
theorem dX7_greater_176 : decode cX7_greater 176 = .ok (.iaload, 1) := by decide +kernel
theorem dX7_greater_177 : decode cX7_greater 177 = .ok (.if_icmp .ge 7, 3) := by decide +kernel
theorem dX7_greater_180 : decode cX7_greater 180 = .ok (.iconst 1, 1) := by decide +kernel
theorem dX7_greater_181 : decode cX7_greater 181 = .ok (.goto 4, 3) := by decide +kernel
theorem dX7_greater_184 : decode cX7_greater 184 = .ok (.iconst 0, 1) := by decide +kernel
theorem dX7_greater_185 : decode cX7_greater 185 = .ok (.istore 7, 2) := by decide +kernel
theorem dX7_greater_187 : decode cX7_greater 187 = .ok (.aload_n 0, 1) := by decide +kernel
theorem dX7_greater_188 : decode cX7_greater 188 = .ok (.getfield 11, 3) := by decide +kernel
theorem dX7_greater_191 : decode cX7_greater 191 = .ok (.iload_n 1, 1) := by decide +kernel
theorem dX7_greater_192 : decode cX7_greater 192 = .ok (.iaload, 1) := by decide +kernel
theorem dX7_greater_193 : decode cX7_greater 193 = .ok (.iconst 3, 1) := by decide +kernel
theorem dX7_greater_194 : decode cX7_greater 194 = .ok (.if_icmp .eq 8, 3) := by decide +kernel
theorem dX7_greater_197 : decode cX7_greater 197 = .ok (.iload 6, 2) := by decide +kernel
theorem dX7_greater_199 : decode cX7_greater 199 = .ok (.ifCond .eq 16, 3) := by decide +kernel
theorem dX7_greater_202 : decode cX7_greater 202 = .ok (.iload 7, 2) := by decide +kernel
theorem dX7_greater_204 : decode cX7_greater 204 = .ok (.ifCond .ne 7, 3) := by decide +kernel
theorem dX7_greater_207 : decode cX7_greater 207 = .ok (.iconst 1, 1) := by decide +kernel
theorem dX7_greater_208 : decode cX7_greater 208 = .ok (.goto 9, 3) := by decide +kernel
theorem dX7_greater_211 : decode cX7_greater 211 = .ok (.iconst 0, 1) := by decide +kernel
theorem dX7_greater_212 : decode cX7_greater 212 = .ok (.goto 5, 3) := by decide +kernel
theorem dX7_greater_215 : decode cX7_greater 215 = .ok (.iload 7, 2) := by decide +kernel
theorem dX7_greater_217 : decode cX7_greater 217 = .ok (.istore 8, 2) := by decide +kernel
theorem dX7_greater_219 : decode cX7_greater 219 = .ok (.iload 8, 2) := by decide +kernel
theorem dX7_greater_221 : decode cX7_greater 221 = .ok (.ifCond .eq 7, 3) := by decide +kernel
theorem dX7_greater_224 : decode cX7_greater 224 = .ok (.iconst 1, 1) := by decide +kernel
theorem dX7_greater_225 : decode cX7_greater 225 = .ok (.goto 4, 3) := by decide +kernel
theorem dX7_greater_228 : decode cX7_greater 228 = .ok (.iconst 2, 1) := by decide +kernel
theorem dX7_greater_229 : decode cX7_greater 229 = .ok (.ireturn, 1) := by decide +kernel
theorem dX7_greater_230 : decode cX7_greater 230 = .ok (.iload 4, 2) := by decide +kernel
theorem dX7_greater_232 : decode cX7_greater 232 = .ok (.iload 6, 2) := by decide +kernel
theorem dX7_greater_234 : decode cX7_greater 234 = .ok (.if_icmp .eq 7, 3) := by decide +kernel
theorem dX7_greater_237 : decode cX7_greater 237 = .ok (.iconst 1, 1) := by decide +kernel
theorem dX7_greater_238 : decode cX7_greater 238 = .ok (.goto 4, 3) := by decide +kernel
theorem dX7_greater_241 : decode cX7_greater 241 = .ok (.iconst 2, 1) := by decide +kernel
theorem dX7_greater_242 : decode cX7_greater 242 = .ok (.ireturn, 1) := by decide +kernel
theorem dX7_against_0 : decode cX7_against 0 = .ok (.aload_n 0, 1) := by decide +kernel
theorem dX7_against_1 : decode cX7_against 1 = .ok (.getfield 103, 3) := by decide +kernel
theorem dX7_against_4 : decode cX7_against 4 = .ok (.lload_n 3, 1) := by decide +kernel
theorem dX7_against_5 : decode cX7_against 5 = .ok (.lmul, 1) := by decide +kernel
theorem dX7_against_6 : decode cX7_against 6 = .ok (.lload_n 1, 1) := by decide +kernel
theorem dX7_against_7 : decode cX7_against 7 = .ok (.aload_n 0, 1) := by decide +kernel
theorem dX7_against_8 : decode cX7_against 8 = .ok (.getfield 107, 3) := by decide +kernel
theorem dX7_against_11 : decode cX7_against 11 = .ok (.lmul, 1) := by decide +kernel
theorem dX7_against_12 : decode cX7_against 12 = .ok (.invokestatic 264, 3) := by decide +kernel
theorem dX7_against_15 : decode cX7_against 15 = .ok (.ireturn, 1) := by decide +kernel
theorem dX7_worthier_0 : decode cX7_worthier 0 = .ok (.iload_n 1, 1) := by decide +kernel
theorem dX7_worthier_1 : decode cX7_worthier 1 = .ok (.invokestatic 135, 3) := by decide +kernel
theorem dX7_worthier_4 : decode cX7_worthier 4 = .ok (.ifCond .eq 10, 3) := by decide +kernel
theorem dX7_worthier_7 : decode cX7_worthier 7 = .ok (.iload_n 2, 1) := by decide +kernel
theorem dX7_worthier_8 : decode cX7_worthier 8 = .ok (.invokestatic 135, 3) := by decide +kernel
theorem dX7_worthier_11 : decode cX7_worthier 11 = .ok (.ifCond .ne 5, 3) := by decide +kernel
theorem dX7_worthier_14 : decode cX7_worthier 14 = .ok (.iconst (-1), 1) := by decide +kernel
theorem dX7_worthier_15 : decode cX7_worthier 15 = .ok (.ireturn, 1) := by decide +kernel
theorem dX7_worthier_16 : decode cX7_worthier 16 = .ok (.aload_n 0, 1) := by decide +kernel
theorem dX7_worthier_17 : decode cX7_worthier 17 = .ok (.iload_n 2, 1) := by decide +kernel
theorem dX7_worthier_18 : decode cX7_worthier 18 = .ok (.aload_n 0, 1) := by decide +kernel
theorem dX7_worthier_19 : decode cX7_worthier 19 = .ok (.getfield 15, 3) := by decide +kernel
theorem dX7_worthier_22 : decode cX7_worthier 22 = .ok (.iload_n 2, 1) := by decide +kernel
theorem dX7_worthier_23 : decode cX7_worthier 23 = .ok (.iaload, 1) := by decide +kernel
theorem dX7_worthier_24 : decode cX7_worthier 24 = .ok (.invokevirtual 154, 3) := by decide +kernel
theorem dX7_worthier_27 : decode cX7_worthier 27 = .ok (.aload_n 0, 1) := by decide +kernel
theorem dX7_worthier_28 : decode cX7_worthier 28 = .ok (.getfield 103, 3) := by decide +kernel
theorem dX7_worthier_31 : decode cX7_worthier 31 = .ok (.lstore_n 3, 1) := by decide +kernel
theorem dX7_worthier_32 : decode cX7_worthier 32 = .ok (.aload_n 0, 1) := by decide +kernel
theorem dX7_worthier_33 : decode cX7_worthier 33 = .ok (.getfield 107, 3) := by decide +kernel
theorem dX7_worthier_36 : decode cX7_worthier 36 = .ok (.lstore 5, 2) := by decide +kernel
theorem dX7_worthier_38 : decode cX7_worthier 38 = .ok (.lload 5, 2) := by decide +kernel
theorem dX7_worthier_40 : decode cX7_worthier 40 = .ok (.lconst 0, 1) := by decide +kernel
theorem dX7_worthier_41 : decode cX7_worthier 41 = .ok (.lcmp, 1) := by decide +kernel
theorem dX7_worthier_42 : decode cX7_worthier 42 = .ok (.ifCond .eq 11, 3) := by decide +kernel
theorem dX7_worthier_45 : decode cX7_worthier 45 = .ok (.aload_n 0, 1) := by decide +kernel
theorem dX7_worthier_46 : decode cX7_worthier 46 = .ok (.iload_n 1, 1) := by decide +kernel
theorem dX7_worthier_47 : decode cX7_worthier 47 = .ok (.invokevirtual 240, 3) := by decide +kernel
theorem dX7_worthier_50 : decode cX7_worthier 50 = .ok (.ifCond .ne 6, 3) := by decide +kernel
theorem dX7_worthier_53 : decode cX7_worthier 53 = .ok (.bipush (-3), 2) := by decide +kernel
theorem dX7_worthier_55 : decode cX7_worthier 55 = .ok (.ireturn, 1) := by decide +kernel
theorem dX7_worthier_56 : decode cX7_worthier 56 = .ok (.aload_n 0, 1) := by decide +kernel
theorem dX7_worthier_57 : decode cX7_worthier 57 = .ok (.lload_n 3, 1) := by decide +kernel
theorem dX7_worthier_58 : decode cX7_worthier 58 = .ok (.lload 5, 2) := by decide +kernel
theorem dX7_worthier_60 : decode cX7_worthier 60 = .ok (.invokevirtual 268, 3) := by decide +kernel
theorem dX7_worthier_63 : decode cX7_worthier 63 = .ok (.istore 7, 2) := by decide +kernel
theorem dX7_worthier_65 : decode cX7_worthier 65 = .ok (.iload 7, 2) := by decide +kernel
theorem dX7_worthier_67 : decode cX7_worthier 67 = .ok (.ifCond .le 7, 3) := by decide +kernel
theorem dX7_worthier_70 : decode cX7_worthier 70 = .ok (.iconst 1, 1) := by decide +kernel
theorem dX7_worthier_71 : decode cX7_worthier 71 = .ok (.goto 13, 3) := by decide +kernel
theorem dX7_worthier_74 : decode cX7_worthier 74 = .ok (.iload 7, 2) := by decide +kernel
theorem dX7_worthier_76 : decode cX7_worthier 76 = .ok (.ifCond .ge 7, 3) := by decide +kernel
theorem dX7_worthier_79 : decode cX7_worthier 79 = .ok (.iconst 2, 1) := by decide +kernel
theorem dX7_worthier_80 : decode cX7_worthier 80 = .ok (.goto 4, 3) := by decide +kernel
theorem dX7_worthier_83 : decode cX7_worthier 83 = .ok (.iconst 0, 1) := by decide +kernel
theorem dX7_worthier_84 : decode cX7_worthier 84 = .ok (.ireturn, 1) := by decide +kernel
theorem dX7_beginning_0 : decode cX7_beginning 0 = .ok (.iload_n 1, 1) := by decide +kernel
theorem dX7_beginning_1 : decode cX7_beginning 1 = .ok (.invokestatic 135, 3) := by decide +kernel
theorem dX7_beginning_4 : decode cX7_beginning 4 = .ok (.ifCond .eq 34, 3) := by decide +kernel
theorem dX7_beginning_7 : decode cX7_beginning 7 = .ok (.iload_n 2, 1) := by decide +kernel
theorem dX7_beginning_8 : decode cX7_beginning 8 = .ok (.iconst 0, 1) := by decide +kernel
theorem dX7_beginning_9 : decode cX7_beginning 9 = .ok (.aload_n 0, 1) := by decide +kernel
theorem dX7_beginning_10 : decode cX7_beginning 10 = .ok (.getfield 15, 3) := by decide +kernel
theorem dX7_beginning_13 : decode cX7_beginning 13 = .ok (.iload_n 1, 1) := by decide +kernel
theorem dX7_beginning_14 : decode cX7_beginning 14 = .ok (.iaload, 1) := by decide +kernel
theorem dX7_beginning_15 : decode cX7_beginning 15 = .ok (.invokestatic 89, 3) := by decide +kernel
theorem dX7_beginning_18 : decode cX7_beginning 18 = .ok (.ifCond .eq 20, 3) := by decide +kernel
theorem dX7_beginning_21 : decode cX7_beginning 21 = .ok (.iload_n 3, 1) := by decide +kernel
theorem dX7_beginning_22 : decode cX7_beginning 22 = .ok (.iconst 0, 1) := by decide +kernel
theorem dX7_beginning_23 : decode cX7_beginning 23 = .ok (.iconst 1, 1) := by decide +kernel
theorem dX7_beginning_24 : decode cX7_beginning 24 = .ok (.invokestatic 89, 3) := by decide +kernel
theorem dX7_beginning_27 : decode cX7_beginning 27 = .ok (.ifCond .eq 11, 3) := by decide +kernel
theorem dX7_beginning_30 : decode cX7_beginning 30 = .ok (.iload 4, 2) := by decide +kernel
theorem dX7_beginning_32 : decode cX7_beginning 32 = .ok (.invokestatic 245, 3) := by decide +kernel
theorem dX7_beginning_35 : decode cX7_beginning 35 = .ok (.ifCond .ne 7, 3) := by decide +kernel
theorem dX7_beginning_38 : decode cX7_beginning 38 = .ok (.ldc2_w 243, 3) := by decide +kernel
theorem dX7_beginning_41 : decode cX7_beginning 41 = .ok (.lreturn, 1) := by decide +kernel
theorem dX7_beginning_42 : decode cX7_beginning 42 = .ok (.aload_n 0, 1) := by decide +kernel
theorem dX7_beginning_43 : decode cX7_beginning 43 = .ok (.iload_n 1, 1) := by decide +kernel
theorem dX7_beginning_44 : decode cX7_beginning 44 = .ok (.iload_n 2, 1) := by decide +kernel
theorem dX7_beginning_45 : decode cX7_beginning 45 = .ok (.invokevirtual 154, 3) := by decide +kernel
theorem dX7_beginning_48 : decode cX7_beginning 48 = .ok (.iload_n 3, 1) := by decide +kernel
theorem dX7_beginning_49 : decode cX7_beginning 49 = .ok (.iconst 1, 1) := by decide +kernel
theorem dX7_beginning_50 : decode cX7_beginning 50 = .ok (.if_icmp .ne 42, 3) := by decide +kernel
theorem dX7_beginning_53 : decode cX7_beginning 53 = .ok (.aload_n 0, 1) := by decide +kernel
theorem dX7_beginning_54 : decode cX7_beginning 54 = .ok (.invokevirtual 112, 3) := by decide +kernel
theorem dX7_beginning_57 : decode cX7_beginning 57 = .ok (.ifCond .eq 35, 3) := by decide +kernel
theorem dX7_beginning_60 : decode cX7_beginning 60 = .ok (.aload_n 0, 1) := by decide +kernel
theorem dX7_beginning_61 : decode cX7_beginning 61 = .ok (.getfield 103, 3) := by decide +kernel
theorem dX7_beginning_64 : decode cX7_beginning 64 = .ok (.lstore 5, 2) := by decide +kernel
theorem dX7_beginning_66 : decode cX7_beginning 66 = .ok (.aload_n 0, 1) := by decide +kernel
theorem dX7_beginning_67 : decode cX7_beginning 67 = .ok (.getfield 107, 3) := by decide +kernel
theorem dX7_beginning_70 : decode cX7_beginning 70 = .ok (.lstore 7, 2) := by decide +kernel
theorem dX7_beginning_72 : decode cX7_beginning 72 = .ok (.aload_n 0, 1) := by decide +kernel
theorem dX7_beginning_73 : decode cX7_beginning 73 = .ok (.iload_n 1, 1) := by decide +kernel
theorem dX7_beginning_74 : decode cX7_beginning 74 = .ok (.aload_n 0, 1) := by decide +kernel
theorem dX7_beginning_75 : decode cX7_beginning 75 = .ok (.getfield 15, 3) := by decide +kernel
theorem dX7_beginning_78 : decode cX7_beginning 78 = .ok (.iload_n 1, 1) := by decide +kernel
theorem dX7_beginning_79 : decode cX7_beginning 79 = .ok (.iaload, 1) := by decide +kernel
theorem dX7_beginning_80 : decode cX7_beginning 80 = .ok (.invokevirtual 154, 3) := by decide +kernel
theorem dX7_beginning_83 : decode cX7_beginning 83 = .ok (.aload_n 0, 1) := by decide +kernel
theorem dX7_beginning_84 : decode cX7_beginning 84 = .ok (.lload 5, 2) := by decide +kernel
theorem dX7_beginning_86 : decode cX7_beginning 86 = .ok (.lneg, 1) := by decide +kernel
theorem dX7_beginning_87 : decode cX7_beginning 87 = .ok (.lload 7, 2) := by decide +kernel
theorem dX7_beginning_89 : decode cX7_beginning 89 = .ok (.invokevirtual 120, 3) := by decide +kernel
theorem dX7_beginning_92 : decode cX7_beginning 92 = .ok (.aload_n 0, 1) := by decide +kernel
theorem dX7_beginning_93 : decode cX7_beginning 93 = .ok (.iload 4, 2) := by decide +kernel
theorem dX7_beginning_95 : decode cX7_beginning 95 = .ok (.invokevirtual 248, 3) := by decide +kernel
theorem dX7_beginning_98 : decode cX7_beginning 98 = .ok (.lreturn, 1) := by decide +kernel
theorem dX7_isUnits_0 : decode cX7_isUnits 0 = .ok (.iload_n 2, 1) := by decide +kernel
theorem dX7_isUnits_1 : decode cX7_isUnits 1 = .ok (.iload_n 1, 1) := by decide +kernel
theorem dX7_isUnits_2 : decode cX7_isUnits 2 = .ok (.if_icmp .ne 16, 3) := by decide +kernel
theorem dX7_isUnits_5 : decode cX7_isUnits 5 = .ok (.lload 4, 2) := by decide +kernel
theorem dX7_isUnits_7 : decode cX7_isUnits 7 = .ok (.lconst 0, 1) := by decide +kernel
theorem dX7_isUnits_8 : decode cX7_isUnits 8 = .ok (.lcmp, 1) := by decide +kernel
theorem dX7_isUnits_9 : decode cX7_isUnits 9 = .ok (.ifCond .ne 7, 3) := by decide +kernel
theorem dX7_isUnits_12 : decode cX7_isUnits 12 = .ok (.iconst 1, 1) := by decide +kernel
theorem dX7_isUnits_13 : decode cX7_isUnits 13 = .ok (.goto 4, 3) := by decide +kernel
theorem dX7_isUnits_16 : decode cX7_isUnits 16 = .ok (.iconst 0, 1) := by decide +kernel
theorem dX7_isUnits_17 : decode cX7_isUnits 17 = .ok (.ireturn, 1) := by decide +kernel
theorem dX7_isUnits_18 : decode cX7_isUnits 18 = .ok (.lload 4, 2) := by decide +kernel
theorem dX7_isUnits_20 : decode cX7_isUnits 20 = .ok (.lconst 0, 1) := by decide +kernel
theorem dX7_isUnits_21 : decode cX7_isUnits 21 = .ok (.lcmp, 1) := by decide +kernel
theorem dX7_isUnits_22 : decode cX7_isUnits 22 = .ok (.ifCond .gt 5, 3) := by decide +kernel
theorem dX7_isUnits_25 : decode cX7_isUnits 25 = .ok (.iconst 0, 1) := by decide +kernel
theorem dX7_isUnits_26 : decode cX7_isUnits 26 = .ok (.ireturn, 1) := by decide +kernel
theorem dX7_isUnits_27 : decode cX7_isUnits 27 = .ok (.iload_n 3, 1) := by decide +kernel
theorem dX7_isUnits_28 : decode cX7_isUnits 28 = .ok (.istore 8, 2) := by decide +kernel
theorem dX7_isUnits_30 : decode cX7_isUnits 30 = .ok (.iload 8, 2) := by decide +kernel
theorem dX7_isUnits_32 : decode cX7_isUnits 32 = .ok (.bipush 60, 2) := by decide +kernel
theorem dX7_isUnits_34 : decode cX7_isUnits 34 = .ok (.if_icmp .gt 49, 3) := by decide +kernel
theorem dX7_isUnits_37 : decode cX7_isUnits 37 = .ok (.aload_n 0, 1) := by decide +kernel
theorem dX7_isUnits_38 : decode cX7_isUnits 38 = .ok (.getfield 36, 3) := by decide +kernel
theorem dX7_isUnits_41 : decode cX7_isUnits 41 = .ok (.iload_n 2, 1) := by decide +kernel
theorem dX7_isUnits_42 : decode cX7_isUnits 42 = .ok (.iload 8, 2) := by decide +kernel
theorem dX7_isUnits_44 : decode cX7_isUnits 44 = .ok (.iastore, 1) := by decide +kernel
theorem dX7_isUnits_45 : decode cX7_isUnits 45 = .ok (.aload_n 0, 1) := by decide +kernel
theorem dX7_isUnits_46 : decode cX7_isUnits 46 = .ok (.iload_n 1, 1) := by decide +kernel
theorem dX7_isUnits_47 : decode cX7_isUnits 47 = .ok (.iload_n 2, 1) := by decide +kernel
theorem dX7_isUnits_48 : decode cX7_isUnits 48 = .ok (.iconst 1, 1) := by decide +kernel
theorem dX7_isUnits_49 : decode cX7_isUnits 49 = .ok (.iadd, 1) := by decide +kernel
theorem dX7_isUnits_50 : decode cX7_isUnits 50 = .ok (.iload 8, 2) := by decide +kernel
theorem dX7_isUnits_52 : decode cX7_isUnits 52 = .ok (.iconst 1, 1) := by decide +kernel
theorem dX7_isUnits_53 : decode cX7_isUnits 53 = .ok (.iadd, 1) := by decide +kernel
theorem dX7_isUnits_54 : decode cX7_isUnits 54 = .ok (.lload 4, 2) := by decide +kernel
theorem dX7_isUnits_56 : decode cX7_isUnits 56 = .ok (.iload 8, 2) := by decide +kernel
theorem dX7_isUnits_58 : decode cX7_isUnits 58 = .ok (.i2l, 1) := by decide +kernel
theorem dX7_isUnits_59 : decode cX7_isUnits 59 = .ok (.lmul, 1) := by decide +kernel
theorem dX7_isUnits_60 : decode cX7_isUnits 60 = .ok (.lload 6, 2) := by decide +kernel
theorem dX7_isUnits_62 : decode cX7_isUnits 62 = .ok (.lsub, 1) := by decide +kernel
theorem dX7_isUnits_63 : decode cX7_isUnits 63 = .ok (.lload 6, 2) := by decide +kernel
theorem dX7_isUnits_65 : decode cX7_isUnits 65 = .ok (.iload 8, 2) := by decide +kernel
theorem dX7_isUnits_67 : decode cX7_isUnits 67 = .ok (.i2l, 1) := by decide +kernel
theorem dX7_isUnits_68 : decode cX7_isUnits 68 = .ok (.lmul, 1) := by decide +kernel
theorem dX7_isUnits_69 : decode cX7_isUnits 69 = .ok (.invokevirtual 271, 3) := by decide +kernel
theorem dX7_isUnits_72 : decode cX7_isUnits 72 = .ok (.ifCond .eq 5, 3) := by decide +kernel
theorem dX7_isUnits_75 : decode cX7_isUnits 75 = .ok (.iconst 1, 1) := by decide +kernel
theorem dX7_isUnits_76 : decode cX7_isUnits 76 = .ok (.ireturn, 1) := by decide +kernel
theorem dX7_isUnits_77 : decode cX7_isUnits 77 = .ok (.iinc 8 1, 3) := by decide +kernel
theorem dX7_isUnits_80 : decode cX7_isUnits 80 = .ok (.goto (-50), 3) := by decide +kernel
theorem dX7_isUnits_83 : decode cX7_isUnits 83 = .ok (.iconst 0, 1) := by decide +kernel
theorem dX7_isUnits_84 : decode cX7_isUnits 84 = .ok (.ireturn, 1) := by decide +kernel
theorem dX7_units_0 : decode cX7_units 0 = .ok (.iload_n 1, 1) := by decide +kernel
theorem dX7_units_1 : decode cX7_units 1 = .ok (.iconst 1, 1) := by decide +kernel
theorem dX7_units_2 : decode cX7_units 2 = .ok (.sipush 9999, 3) := by decide +kernel
theorem dX7_units_5 : decode cX7_units 5 = .ok (.invokestatic 89, 3) := by decide +kernel
theorem dX7_units_8 : decode cX7_units 8 = .ok (.ifCond .eq 14, 3) := by decide +kernel
theorem dX7_units_11 : decode cX7_units 11 = .ok (.iload_n 2, 1) := by decide +kernel
theorem dX7_units_12 : decode cX7_units 12 = .ok (.iconst 1, 1) := by decide +kernel
theorem dX7_units_13 : decode cX7_units 13 = .ok (.sipush 9999, 3) := by decide +kernel
theorem dX7_units_16 : decode cX7_units 16 = .ok (.invokestatic 89, 3) := by decide +kernel
theorem dX7_units_19 : decode cX7_units 19 = .ok (.ifCond .ne 6, 3) := by decide +kernel
theorem dX7_units_22 : decode cX7_units 22 = .ok (.bipush (-2), 2) := by decide +kernel
theorem dX7_units_24 : decode cX7_units 24 = .ok (.ireturn, 1) := by decide +kernel
theorem dX7_units_25 : decode cX7_units 25 = .ok (.iload_n 3, 1) := by decide +kernel
theorem dX7_units_26 : decode cX7_units 26 = .ok (.iconst 0, 1) := by decide +kernel
theorem dX7_units_27 : decode cX7_units 27 = .ok (.iconst 3, 1) := by decide +kernel
theorem dX7_units_28 : decode cX7_units 28 = .ok (.invokestatic 89, 3) := by decide +kernel
theorem dX7_units_31 : decode cX7_units 31 = .ok (.ifCond .ne 5, 3) := by decide +kernel
theorem dX7_units_34 : decode cX7_units 34 = .ok (.iconst (-1), 1) := by decide +kernel
theorem dX7_units_35 : decode cX7_units 35 = .ok (.ireturn, 1) := by decide +kernel
theorem dX7_units_36 : decode cX7_units 36 = .ok (.iconst 1, 1) := by decide +kernel
theorem dX7_units_37 : decode cX7_units 37 = .ok (.istore 4, 2) := by decide +kernel
theorem dX7_units_39 : decode cX7_units 39 = .ok (.iload 4, 2) := by decide +kernel
theorem dX7_units_41 : decode cX7_units 41 = .ok (.iconst 3, 1) := by decide +kernel
theorem dX7_units_42 : decode cX7_units 42 = .ok (.if_icmp .gt 24, 3) := by decide +kernel
theorem dX7_units_45 : decode cX7_units 45 = .ok (.aload_n 0, 1) := by decide +kernel
theorem dX7_units_46 : decode cX7_units 46 = .ok (.iload 4, 2) := by decide +kernel
theorem dX7_units_48 : decode cX7_units 48 = .ok (.iconst 0, 1) := by decide +kernel
theorem dX7_units_49 : decode cX7_units 49 = .ok (.iconst 2, 1) := by decide +kernel
theorem dX7_units_50 : decode cX7_units 50 = .ok (.iload_n 1, 1) := by decide +kernel
theorem dX7_units_51 : decode cX7_units 51 = .ok (.i2l, 1) := by decide +kernel
theorem dX7_units_52 : decode cX7_units 52 = .ok (.iload_n 2, 1) := by decide +kernel
theorem dX7_units_53 : decode cX7_units 53 = .ok (.i2l, 1) := by decide +kernel
theorem dX7_units_54 : decode cX7_units 54 = .ok (.invokevirtual 271, 3) := by decide +kernel
theorem dX7_units_57 : decode cX7_units 57 = .ok (.ifCond .ne 9, 3) := by decide +kernel
theorem dX7_units_60 : decode cX7_units 60 = .ok (.iinc 4 1, 3) := by decide +kernel
theorem dX7_units_63 : decode cX7_units 63 = .ok (.goto (-24), 3) := by decide +kernel
theorem dX7_units_66 : decode cX7_units 66 = .ok (.iload 4, 2) := by decide +kernel
theorem dX7_units_68 : decode cX7_units 68 = .ok (.iconst 3, 1) := by decide +kernel
theorem dX7_units_69 : decode cX7_units 69 = .ok (.if_icmp .le 6, 3) := by decide +kernel
theorem dX7_units_72 : decode cX7_units 72 = .ok (.bipush (-5), 2) := by decide +kernel
theorem dX7_units_74 : decode cX7_units 74 = .ok (.ireturn, 1) := by decide +kernel
theorem dX7_units_75 : decode cX7_units 75 = .ok (.iload_n 3, 1) := by decide +kernel
theorem dX7_units_76 : decode cX7_units 76 = .ok (.ifCond .ne 8, 3) := by decide +kernel
theorem dX7_units_79 : decode cX7_units 79 = .ok (.iload 4, 2) := by decide +kernel
theorem dX7_units_81 : decode cX7_units 81 = .ok (.goto 22, 3) := by decide +kernel
theorem dX7_units_84 : decode cX7_units 84 = .ok (.iload_n 3, 1) := by decide +kernel
theorem dX7_units_85 : decode cX7_units 85 = .ok (.iload 4, 2) := by decide +kernel
theorem dX7_units_87 : decode cX7_units 87 = .ok (.if_icmp .gt 14, 3) := by decide +kernel
theorem dX7_units_90 : decode cX7_units 90 = .ok (.aload_n 0, 1) := by decide +kernel
theorem dX7_units_91 : decode cX7_units 91 = .ok (.getfield 36, 3) := by decide +kernel
theorem dX7_units_94 : decode cX7_units 94 = .ok (.iload_n 3, 1) := by decide +kernel
theorem dX7_units_95 : decode cX7_units 95 = .ok (.iconst 1, 1) := by decide +kernel
theorem dX7_units_96 : decode cX7_units 96 = .ok (.isub, 1) := by decide +kernel
theorem dX7_units_97 : decode cX7_units 97 = .ok (.iaload, 1) := by decide +kernel
theorem dX7_units_98 : decode cX7_units 98 = .ok (.goto 5, 3) := by decide +kernel
theorem dX7_units_101 : decode cX7_units 101 = .ok (.bipush (-5), 2) := by decide +kernel
theorem dX7_units_103 : decode cX7_units 103 = .ok (.ireturn, 1) := by decide +kernel
theorem dX7_see_0 : decode cX7_see 0 = .ok (.iload_n 1, 1) := by decide +kernel
theorem dX7_see_1 : decode cX7_see 1 = .ok (.iconst (-1), 1) := by decide +kernel
theorem dX7_see_2 : decode cX7_see 2 = .ok (.if_icmp .ne 10, 3) := by decide +kernel
theorem dX7_see_5 : decode cX7_see 5 = .ok (.aload_n 0, 1) := by decide +kernel
theorem dX7_see_6 : decode cX7_see 6 = .ok (.iconst 0, 1) := by decide +kernel
theorem dX7_see_7 : decode cX7_see 7 = .ok (.putfield 275, 3) := by decide +kernel
theorem dX7_see_10 : decode cX7_see 10 = .ok (.iconst 0, 1) := by decide +kernel
theorem dX7_see_11 : decode cX7_see 11 = .ok (.ireturn, 1) := by decide +kernel
theorem dX7_see_12 : decode cX7_see 12 = .ok (.iload_n 1, 1) := by decide +kernel
theorem dX7_see_13 : decode cX7_see 13 = .ok (.invokestatic 135, 3) := by decide +kernel
theorem dX7_see_16 : decode cX7_see 16 = .ok (.ifCond .ne 5, 3) := by decide +kernel
theorem dX7_see_19 : decode cX7_see 19 = .ok (.iconst (-1), 1) := by decide +kernel
theorem dX7_see_20 : decode cX7_see 20 = .ok (.ireturn, 1) := by decide +kernel
theorem dX7_see_21 : decode cX7_see 21 = .ok (.iload_n 2, 1) := by decide +kernel
theorem dX7_see_22 : decode cX7_see 22 = .ok (.iconst 1, 1) := by decide +kernel
theorem dX7_see_23 : decode cX7_see 23 = .ok (.sipush 9999, 3) := by decide +kernel
theorem dX7_see_26 : decode cX7_see 26 = .ok (.invokestatic 89, 3) := by decide +kernel
theorem dX7_see_29 : decode cX7_see 29 = .ok (.ifCond .eq 14, 3) := by decide +kernel
theorem dX7_see_32 : decode cX7_see 32 = .ok (.iload_n 3, 1) := by decide +kernel
theorem dX7_see_33 : decode cX7_see 33 = .ok (.iconst 1, 1) := by decide +kernel
theorem dX7_see_34 : decode cX7_see 34 = .ok (.sipush 9999, 3) := by decide +kernel
theorem dX7_see_37 : decode cX7_see 37 = .ok (.invokestatic 89, 3) := by decide +kernel
theorem dX7_see_40 : decode cX7_see 40 = .ok (.ifCond .ne 6, 3) := by decide +kernel
theorem dX7_see_43 : decode cX7_see 43 = .ok (.bipush (-2), 2) := by decide +kernel
theorem dX7_see_45 : decode cX7_see 45 = .ok (.ireturn, 1) := by decide +kernel
theorem dX7_see_46 : decode cX7_see 46 = .ok (.aload_n 0, 1) := by decide +kernel
theorem dX7_see_47 : decode cX7_see 47 = .ok (.getfield 275, 3) := by decide +kernel
theorem dX7_see_50 : decode cX7_see 50 = .ok (.iconst 4, 1) := by decide +kernel
theorem dX7_see_51 : decode cX7_see 51 = .ok (.if_icmp .ne 6, 3) := by decide +kernel
theorem dX7_see_54 : decode cX7_see 54 = .ok (.bipush (-4), 2) := by decide +kernel
theorem dX7_see_56 : decode cX7_see 56 = .ok (.ireturn, 1) := by decide +kernel
theorem dX7_see_57 : decode cX7_see 57 = .ok (.aload_n 0, 1) := by decide +kernel
theorem dX7_see_58 : decode cX7_see 58 = .ok (.getfield 39, 3) := by decide +kernel
theorem dX7_see_61 : decode cX7_see 61 = .ok (.aload_n 0, 1) := by decide +kernel
theorem dX7_see_62 : decode cX7_see 62 = .ok (.getfield 275, 3) := by decide +kernel
theorem dX7_see_65 : decode cX7_see 65 = .ok (.iload_n 1, 1) := by decide +kernel
theorem dX7_see_66 : decode cX7_see 66 = .ok (.iastore, 1) := by decide +kernel
theorem dX7_see_67 : decode cX7_see 67 = .ok (.aload_n 0, 1) := by decide +kernel
theorem dX7_see_68 : decode cX7_see 68 = .ok (.getfield 42, 3) := by decide +kernel
theorem dX7_see_71 : decode cX7_see 71 = .ok (.aload_n 0, 1) := by decide +kernel
theorem dX7_see_72 : decode cX7_see 72 = .ok (.getfield 275, 3) := by decide +kernel
theorem dX7_see_75 : decode cX7_see 75 = .ok (.iload_n 2, 1) := by decide +kernel
theorem dX7_see_76 : decode cX7_see 76 = .ok (.iastore, 1) := by decide +kernel
theorem dX7_see_77 : decode cX7_see 77 = .ok (.aload_n 0, 1) := by decide +kernel
theorem dX7_see_78 : decode cX7_see 78 = .ok (.getfield 45, 3) := by decide +kernel
theorem dX7_see_81 : decode cX7_see 81 = .ok (.aload_n 0, 1) := by decide +kernel
theorem dX7_see_82 : decode cX7_see 82 = .ok (.getfield 275, 3) := by decide +kernel
theorem dX7_see_85 : decode cX7_see 85 = .ok (.iload_n 3, 1) := by decide +kernel
theorem dX7_see_86 : decode cX7_see 86 = .ok (.iastore, 1) := by decide +kernel
theorem dX7_see_87 : decode cX7_see 87 = .ok (.aload_n 0, 1) := by decide +kernel
theorem dX7_see_88 : decode cX7_see 88 = .ok (.dup, 1) := by decide +kernel
theorem dX7_see_89 : decode cX7_see 89 = .ok (.getfield 275, 3) := by decide +kernel
theorem dX7_see_92 : decode cX7_see 92 = .ok (.iconst 1, 1) := by decide +kernel
theorem dX7_see_93 : decode cX7_see 93 = .ok (.iadd, 1) := by decide +kernel
theorem dX7_see_94 : decode cX7_see 94 = .ok (.putfield 275, 3) := by decide +kernel
theorem dX7_see_97 : decode cX7_see 97 = .ok (.aload_n 0, 1) := by decide +kernel
theorem dX7_see_98 : decode cX7_see 98 = .ok (.getfield 275, 3) := by decide +kernel
theorem dX7_see_101 : decode cX7_see 101 = .ok (.ireturn, 1) := by decide +kernel
theorem dX7_isSo_0 : decode cX7_isSo 0 = .ok (.iconst 0, 1) := by decide +kernel
theorem dX7_isSo_1 : decode cX7_isSo 1 = .ok (.istore_n 1, 1) := by decide +kernel
theorem dX7_isSo_2 : decode cX7_isSo 2 = .ok (.iload_n 1, 1) := by decide +kernel
theorem dX7_isSo_3 : decode cX7_isSo 3 = .ok (.aload_n 0, 1) := by decide +kernel
theorem dX7_isSo_4 : decode cX7_isSo 4 = .ok (.getfield 275, 3) := by decide +kernel
theorem dX7_isSo_7 : decode cX7_isSo 7 = .ok (.if_icmp .ge 45, 3) := by decide +kernel
theorem dX7_isSo_10 : decode cX7_isSo 10 = .ok (.aload_n 0, 1) := by decide +kernel
theorem dX7_isSo_11 : decode cX7_isSo 11 = .ok (.aload_n 0, 1) := by decide +kernel
theorem dX7_isSo_12 : decode cX7_isSo 12 = .ok (.getfield 39, 3) := by decide +kernel
theorem dX7_isSo_15 : decode cX7_isSo 15 = .ok (.iload_n 1, 1) := by decide +kernel
theorem dX7_isSo_16 : decode cX7_isSo 16 = .ok (.iaload, 1) := by decide +kernel
theorem dX7_isSo_17 : decode cX7_isSo 17 = .ok (.invokevirtual 240, 3) := by decide +kernel
theorem dX7_isSo_20 : decode cX7_isSo 20 = .ok (.ifCond .eq 24, 3) := by decide +kernel
theorem dX7_isSo_23 : decode cX7_isSo 23 = .ok (.aload_n 0, 1) := by decide +kernel
theorem dX7_isSo_24 : decode cX7_isSo 24 = .ok (.aload_n 0, 1) := by decide +kernel
theorem dX7_isSo_25 : decode cX7_isSo 25 = .ok (.getfield 42, 3) := by decide +kernel
theorem dX7_isSo_28 : decode cX7_isSo 28 = .ok (.iload_n 1, 1) := by decide +kernel
theorem dX7_isSo_29 : decode cX7_isSo 29 = .ok (.iaload, 1) := by decide +kernel
theorem dX7_isSo_30 : decode cX7_isSo 30 = .ok (.i2l, 1) := by decide +kernel
theorem dX7_isSo_31 : decode cX7_isSo 31 = .ok (.aload_n 0, 1) := by decide +kernel
theorem dX7_isSo_32 : decode cX7_isSo 32 = .ok (.getfield 45, 3) := by decide +kernel
theorem dX7_isSo_35 : decode cX7_isSo 35 = .ok (.iload_n 1, 1) := by decide +kernel
theorem dX7_isSo_36 : decode cX7_isSo 36 = .ok (.iaload, 1) := by decide +kernel
theorem dX7_isSo_37 : decode cX7_isSo 37 = .ok (.i2l, 1) := by decide +kernel
theorem dX7_isSo_38 : decode cX7_isSo 38 = .ok (.invokevirtual 268, 3) := by decide +kernel
theorem dX7_isSo_41 : decode cX7_isSo 41 = .ok (.ifCond .eq 5, 3) := by decide +kernel
theorem dX7_isSo_44 : decode cX7_isSo 44 = .ok (.iconst 0, 1) := by decide +kernel
theorem dX7_isSo_45 : decode cX7_isSo 45 = .ok (.ireturn, 1) := by decide +kernel
theorem dX7_isSo_46 : decode cX7_isSo 46 = .ok (.iinc 1 1, 3) := by decide +kernel
theorem dX7_isSo_49 : decode cX7_isSo 49 = .ok (.goto (-47), 3) := by decide +kernel
theorem dX7_isSo_52 : decode cX7_isSo 52 = .ok (.iconst 1, 1) := by decide +kernel
theorem dX7_isSo_53 : decode cX7_isSo 53 = .ok (.ireturn, 1) := by decide +kernel
theorem dX7_fits_0 : decode cX7_fits 0 = .ok (.iload_n 1, 1) := by decide +kernel
theorem dX7_fits_1 : decode cX7_fits 1 = .ok (.invokestatic 135, 3) := by decide +kernel
theorem dX7_fits_4 : decode cX7_fits 4 = .ok (.ifCond .eq 28, 3) := by decide +kernel
theorem dX7_fits_7 : decode cX7_fits 7 = .ok (.iload_n 2, 1) := by decide +kernel
