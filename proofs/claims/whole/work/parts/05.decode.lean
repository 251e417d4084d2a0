theorem dX6_looked_57 : decode cX6_looked 57 = .ok (.iload_n 1, 1) := by decide +kernel
theorem dX6_looked_58 : decode cX6_looked 58 = .ok (.ireturn, 1) := by decide +kernel
theorem dX6_looked_59 : decode cX6_looked 59 = .ok (.iinc 1 1, 3) := by decide +kernel
theorem dX6_looked_62 : decode cX6_looked 62 = .ok (.goto (-60), 3) := by decide +kernel
theorem dX6_looked_65 : decode cX6_looked 65 = .ok (.bipush (-5), 2) := by decide +kernel
theorem dX6_looked_67 : decode cX6_looked 67 = .ok (.ireturn, 1) := by decide +kernel
theorem dX6_judge_0 : decode cX6_judge 0 = .ok (.iload_n 1, 1) := by decide +kernel
theorem dX6_judge_1 : decode cX6_judge 1 = .ok (.invokestatic 60, 3) := by decide +kernel
theorem dX6_judge_4 : decode cX6_judge 4 = .ok (.ifCond .eq 10, 3) := by decide +kernel
theorem dX6_judge_7 : decode cX6_judge 7 = .ok (.iload_n 2, 1) := by decide +kernel
theorem dX6_judge_8 : decode cX6_judge 8 = .ok (.invokestatic 232, 3) := by decide +kernel
theorem dX6_judge_11 : decode cX6_judge 11 = .ok (.ifCond .ne 5, 3) := by decide +kernel
theorem dX6_judge_14 : decode cX6_judge 14 = .ok (.iconst (-1), 1) := by decide +kernel
theorem dX6_judge_15 : decode cX6_judge 15 = .ok (.ireturn, 1) := by decide +kernel
theorem dX6_judge_16 : decode cX6_judge 16 = .ok (.aload_n 0, 1) := by decide +kernel
theorem dX6_judge_17 : decode cX6_judge 17 = .ok (.getfield 30, 3) := by decide +kernel
theorem dX6_judge_20 : decode cX6_judge 20 = .ok (.iload_n 2, 1) := by decide +kernel
theorem dX6_judge_21 : decode cX6_judge 21 = .ok (.aaload, 1) := by decide +kernel
theorem dX6_judge_22 : decode cX6_judge 22 = .ok (.astore 4, 2) := by decide +kernel
theorem dX6_judge_24 : decode cX6_judge 24 = .ok (.aload 4, 2) := by decide +kernel
theorem dX6_judge_26 : decode cX6_judge 26 = .ok (.getfield 235, 3) := by decide +kernel
theorem dX6_judge_29 : decode cX6_judge 29 = .ok (.iconst (-1), 1) := by decide +kernel
theorem dX6_judge_30 : decode cX6_judge 30 = .ok (.if_icmp .eq 15, 3) := by decide +kernel
theorem dX6_judge_33 : decode cX6_judge 33 = .ok (.aload 4, 2) := by decide +kernel
theorem dX6_judge_35 : decode cX6_judge 35 = .ok (.getfield 235, 3) := by decide +kernel
theorem dX6_judge_38 : decode cX6_judge 38 = .ok (.iconst 2, 1) := by decide +kernel
theorem dX6_judge_39 : decode cX6_judge 39 = .ok (.if_icmp .eq 6, 3) := by decide +kernel
theorem dX6_judge_42 : decode cX6_judge 42 = .ok (.bipush (-12), 2) := by decide +kernel
theorem dX6_judge_44 : decode cX6_judge 44 = .ok (.ireturn, 1) := by decide +kernel
theorem dX6_judge_45 : decode cX6_judge 45 = .ok (.aload_n 0, 1) := by decide +kernel
theorem dX6_judge_46 : decode cX6_judge 46 = .ok (.getfield 12, 3) := by decide +kernel
theorem dX6_judge_49 : decode cX6_judge 49 = .ok (.getfield 76, 3) := by decide +kernel
theorem dX6_judge_52 : decode cX6_judge 52 = .ok (.iload_n 1, 1) := by decide +kernel
theorem dX6_judge_53 : decode cX6_judge 53 = .ok (.aaload, 1) := by decide +kernel
theorem dX6_judge_54 : decode cX6_judge 54 = .ok (.astore 5, 2) := by decide +kernel
theorem dX6_judge_56 : decode cX6_judge 56 = .ok (.iconst 0, 1) := by decide +kernel
theorem dX6_judge_57 : decode cX6_judge 57 = .ok (.istore 6, 2) := by decide +kernel
theorem dX6_judge_59 : decode cX6_judge 59 = .ok (.iload 6, 2) := by decide +kernel
theorem dX6_judge_61 : decode cX6_judge 61 = .ok (.aload 5, 2) := by decide +kernel
theorem dX6_judge_63 : decode cX6_judge 63 = .ok (.getfield 88, 3) := by decide +kernel
theorem dX6_judge_66 : decode cX6_judge 66 = .ok (.if_icmp .ge 64, 3) := by decide +kernel
theorem dX6_judge_69 : decode cX6_judge 69 = .ok (.iload_n 3, 1) := by decide +kernel
theorem dX6_judge_70 : decode cX6_judge 70 = .ok (.i2l, 1) := by decide +kernel
theorem dX6_judge_71 : decode cX6_judge 71 = .ok (.iload 6, 2) := by decide +kernel
theorem dX6_judge_73 : decode cX6_judge 73 = .ok (.i2l, 1) := by decide +kernel
theorem dX6_judge_74 : decode cX6_judge 74 = .ok (.ladd, 1) := by decide +kernel
theorem dX6_judge_75 : decode cX6_judge 75 = .ok (.lstore 7, 2) := by decide +kernel
theorem dX6_judge_77 : decode cX6_judge 77 = .ok (.iload_n 3, 1) := by decide +kernel
theorem dX6_judge_78 : decode cX6_judge 78 = .ok (.ifCond .lt 15, 3) := by decide +kernel
theorem dX6_judge_81 : decode cX6_judge 81 = .ok (.lload 7, 2) := by decide +kernel
theorem dX6_judge_83 : decode cX6_judge 83 = .ok (.aload 4, 2) := by decide +kernel
theorem dX6_judge_85 : decode cX6_judge 85 = .ok (.getfield 238, 3) := by decide +kernel
theorem dX6_judge_88 : decode cX6_judge 88 = .ok (.i2l, 1) := by decide +kernel
theorem dX6_judge_89 : decode cX6_judge 89 = .ok (.lcmp, 1) := by decide +kernel
theorem dX6_judge_90 : decode cX6_judge 90 = .ok (.ifCond .lt 9, 3) := by decide +kernel
theorem dX6_judge_93 : decode cX6_judge 93 = .ok (.bipush 100, 2) := by decide +kernel
theorem dX6_judge_95 : decode cX6_judge 95 = .ok (.iload 6, 2) := by decide +kernel
theorem dX6_judge_97 : decode cX6_judge 97 = .ok (.iadd, 1) := by decide +kernel
theorem dX6_judge_98 : decode cX6_judge 98 = .ok (.ireturn, 1) := by decide +kernel
theorem dX6_judge_99 : decode cX6_judge 99 = .ok (.aload 4, 2) := by decide +kernel
theorem dX6_judge_101 : decode cX6_judge 101 = .ok (.getfield 239, 3) := by decide +kernel
theorem dX6_judge_104 : decode cX6_judge 104 = .ok (.lload 7, 2) := by decide +kernel
theorem dX6_judge_106 : decode cX6_judge 106 = .ok (.l2i, 1) := by decide +kernel
theorem dX6_judge_107 : decode cX6_judge 107 = .ok (.laload, 1) := by decide +kernel
theorem dX6_judge_108 : decode cX6_judge 108 = .ok (.aload 5, 2) := by decide +kernel
theorem dX6_judge_110 : decode cX6_judge 110 = .ok (.getfield 139, 3) := by decide +kernel
theorem dX6_judge_113 : decode cX6_judge 113 = .ok (.iload 6, 2) := by decide +kernel
theorem dX6_judge_115 : decode cX6_judge 115 = .ok (.iaload, 1) := by decide +kernel
theorem dX6_judge_116 : decode cX6_judge 116 = .ok (.i2l, 1) := by decide +kernel
theorem dX6_judge_117 : decode cX6_judge 117 = .ok (.lcmp, 1) := by decide +kernel
theorem dX6_judge_118 : decode cX6_judge 118 = .ok (.ifCond .eq 6, 3) := by decide +kernel
theorem dX6_judge_121 : decode cX6_judge 121 = .ok (.iload 6, 2) := by decide +kernel
theorem dX6_judge_123 : decode cX6_judge 123 = .ok (.ireturn, 1) := by decide +kernel
theorem dX6_judge_124 : decode cX6_judge 124 = .ok (.iinc 6 1, 3) := by decide +kernel
theorem dX6_judge_127 : decode cX6_judge 127 = .ok (.goto (-68), 3) := by decide +kernel
theorem dX6_judge_130 : decode cX6_judge 130 = .ok (.bipush (-5), 2) := by decide +kernel
theorem dX6_judge_132 : decode cX6_judge 132 = .ok (.ireturn, 1) := by decide +kernel
theorem dX6_image_0 : decode cX6_image 0 = .ok (.aload_n 0, 1) := by decide +kernel
theorem dX6_image_1 : decode cX6_image 1 = .ok (.getfield 18, 3) := by decide +kernel
theorem dX6_image_4 : decode cX6_image 4 = .ok (.aload_n 0, 1) := by decide +kernel
theorem dX6_image_5 : decode cX6_image 5 = .ok (.getfield 12, 3) := by decide +kernel
theorem dX6_image_8 : decode cX6_image 8 = .ok (.invokevirtual 243, 3) := by decide +kernel
theorem dX6_image_11 : decode cX6_image 11 = .ok (.aload_n 0, 1) := by decide +kernel
theorem dX6_image_12 : decode cX6_image 12 = .ok (.iconst 1, 1) := by decide +kernel
theorem dX6_image_13 : decode cX6_image 13 = .ok (.putfield 246, 3) := by decide +kernel
theorem dX6_image_16 : decode cX6_image 16 = .ok (.aload_n 0, 1) := by decide +kernel
theorem dX6_image_17 : decode cX6_image 17 = .ok (.getfield 12, 3) := by decide +kernel
theorem dX6_image_20 : decode cX6_image 20 = .ok (.invokevirtual 249, 3) := by decide +kernel
theorem dX6_image_23 : decode cX6_image 23 = .ok (.ireturn, 1) := by decide +kernel
theorem dX6_undo_0 : decode cX6_undo 0 = .ok (.aload_n 0, 1) := by decide +kernel
theorem dX6_undo_1 : decode cX6_undo 1 = .ok (.getfield 246, 3) := by decide +kernel
theorem dX6_undo_4 : decode cX6_undo 4 = .ok (.ifCond .ne 6, 3) := by decide +kernel
theorem dX6_undo_7 : decode cX6_undo 7 = .ok (.bipush (-3), 2) := by decide +kernel
theorem dX6_undo_9 : decode cX6_undo 9 = .ok (.ireturn, 1) := by decide +kernel
theorem dX6_undo_10 : decode cX6_undo 10 = .ok (.aload_n 0, 1) := by decide +kernel
theorem dX6_undo_11 : decode cX6_undo 11 = .ok (.getfield 12, 3) := by decide +kernel
theorem dX6_undo_14 : decode cX6_undo 14 = .ok (.aload_n 0, 1) := by decide +kernel
theorem dX6_undo_15 : decode cX6_undo 15 = .ok (.getfield 18, 3) := by decide +kernel
theorem dX6_undo_18 : decode cX6_undo 18 = .ok (.invokevirtual 243, 3) := by decide +kernel
theorem dX6_undo_21 : decode cX6_undo 21 = .ok (.aload_n 0, 1) := by decide +kernel
theorem dX6_undo_22 : decode cX6_undo 22 = .ok (.getfield 12, 3) := by decide +kernel
theorem dX6_undo_25 : decode cX6_undo 25 = .ok (.invokevirtual 249, 3) := by decide +kernel
theorem dX6_undo_28 : decode cX6_undo 28 = .ok (.ireturn, 1) := by decide +kernel
theorem dX6_count_0 : decode cX6_count 0 = .ok (.iload_n 1, 1) := by decide +kernel
theorem dX6_count_1 : decode cX6_count 1 = .ok (.tableswitch 72 0 3 #[31, 42, 53, 64], 31) := by decide +kernel
theorem dX6_count_32 : decode cX6_count 32 = .ok (.aload_n 0, 1) := by decide +kernel
theorem dX6_count_33 : decode cX6_count 33 = .ok (.getfield 12, 3) := by decide +kernel
theorem dX6_count_36 : decode cX6_count 36 = .ok (.getfield 173, 3) := by decide +kernel
theorem dX6_count_39 : decode cX6_count 39 = .ok (.getfield 213, 3) := by decide +kernel
theorem dX6_count_42 : decode cX6_count 42 = .ok (.ireturn, 1) := by decide +kernel
theorem dX6_count_43 : decode cX6_count 43 = .ok (.aload_n 0, 1) := by decide +kernel
theorem dX6_count_44 : decode cX6_count 44 = .ok (.getfield 12, 3) := by decide +kernel
theorem dX6_count_47 : decode cX6_count 47 = .ok (.getfield 210, 3) := by decide +kernel
theorem dX6_count_50 : decode cX6_count 50 = .ok (.getfield 213, 3) := by decide +kernel
theorem dX6_count_53 : decode cX6_count 53 = .ok (.ireturn, 1) := by decide +kernel
theorem dX6_count_54 : decode cX6_count 54 = .ok (.aload_n 0, 1) := by decide +kernel
theorem dX6_count_55 : decode cX6_count 55 = .ok (.getfield 12, 3) := by decide +kernel
theorem dX6_count_58 : decode cX6_count 58 = .ok (.getfield 223, 3) := by decide +kernel
theorem dX6_count_61 : decode cX6_count 61 = .ok (.getfield 213, 3) := by decide +kernel
theorem dX6_count_64 : decode cX6_count 64 = .ok (.ireturn, 1) := by decide +kernel
theorem dX6_count_65 : decode cX6_count 65 = .ok (.aload_n 0, 1) := by decide +kernel
theorem dX6_count_66 : decode cX6_count 66 = .ok (.getfield 24, 3) := by decide +kernel
theorem dX6_count_69 : decode cX6_count 69 = .ok (.getfield 125, 3) := by decide +kernel
theorem dX6_count_72 : decode cX6_count 72 = .ok (.ireturn, 1) := by decide +kernel
theorem dX6_count_73 : decode cX6_count 73 = .ok (.bipush (-2), 2) := by decide +kernel
theorem dX6_count_75 : decode cX6_count 75 = .ok (.ireturn, 1) := by decide +kernel
theorem dX6_tape_0 : decode cX6_tape 0 = .ok (.iload_n 1, 1) := by decide +kernel
theorem dX6_tape_1 : decode cX6_tape 1 = .ok (.invokestatic 232, 3) := by decide +kernel
theorem dX6_tape_4 : decode cX6_tape 4 = .ok (.ifCond .ne 5, 3) := by decide +kernel
theorem dX6_tape_7 : decode cX6_tape 7 = .ok (.iconst (-1), 1) := by decide +kernel
theorem dX6_tape_8 : decode cX6_tape 8 = .ok (.ireturn, 1) := by decide +kernel
theorem dX6_tape_9 : decode cX6_tape 9 = .ok (.iload_n 2, 1) := by decide +kernel
theorem dX6_tape_10 : decode cX6_tape 10 = .ok (.iconst (-1), 1) := by decide +kernel
theorem dX6_tape_11 : decode cX6_tape 11 = .ok (.if_icmp .ne 16, 3) := by decide +kernel
theorem dX6_tape_14 : decode cX6_tape 14 = .ok (.aload_n 0, 1) := by decide +kernel
theorem dX6_tape_15 : decode cX6_tape 15 = .ok (.getfield 30, 3) := by decide +kernel
theorem dX6_tape_18 : decode cX6_tape 18 = .ok (.iload_n 1, 1) := by decide +kernel
theorem dX6_tape_19 : decode cX6_tape 19 = .ok (.aaload, 1) := by decide +kernel
theorem dX6_tape_20 : decode cX6_tape 20 = .ok (.iconst (-1), 1) := by decide +kernel
theorem dX6_tape_21 : decode cX6_tape 21 = .ok (.iconst 0, 1) := by decide +kernel
theorem dX6_tape_22 : decode cX6_tape 22 = .ok (.invokevirtual 252, 3) := by decide +kernel
theorem dX6_tape_25 : decode cX6_tape 25 = .ok (.iconst 1, 1) := by decide +kernel
theorem dX6_tape_26 : decode cX6_tape 26 = .ok (.ireturn, 1) := by decide +kernel
theorem dX6_tape_27 : decode cX6_tape 27 = .ok (.iload_n 2, 1) := by decide +kernel
theorem dX6_tape_28 : decode cX6_tape 28 = .ok (.iconst 0, 1) := by decide +kernel
theorem dX6_tape_29 : decode cX6_tape 29 = .ok (.iconst 4, 1) := by decide +kernel
theorem dX6_tape_30 : decode cX6_tape 30 = .ok (.invokestatic 68, 3) := by decide +kernel
theorem dX6_tape_33 : decode cX6_tape 33 = .ok (.ifCond .eq 9, 3) := by decide +kernel
theorem dX6_tape_36 : decode cX6_tape 36 = .ok (.iload_n 3, 1) := by decide +kernel
theorem dX6_tape_37 : decode cX6_tape 37 = .ok (.bipush 60, 2) := by decide +kernel
theorem dX6_tape_39 : decode cX6_tape 39 = .ok (.if_icmp .le 6, 3) := by decide +kernel
theorem dX6_tape_42 : decode cX6_tape 42 = .ok (.bipush (-2), 2) := by decide +kernel
theorem dX6_tape_44 : decode cX6_tape 44 = .ok (.ireturn, 1) := by decide +kernel
theorem dX6_tape_45 : decode cX6_tape 45 = .ok (.iload_n 3, 1) := by decide +kernel
theorem dX6_tape_46 : decode cX6_tape 46 = .ok (.ifCond .ge 6, 3) := by decide +kernel
theorem dX6_tape_49 : decode cX6_tape 49 = .ok (.bipush (-14), 2) := by decide +kernel
theorem dX6_tape_51 : decode cX6_tape 51 = .ok (.ireturn, 1) := by decide +kernel
theorem dX6_tape_52 : decode cX6_tape 52 = .ok (.aload_n 0, 1) := by decide +kernel
theorem dX6_tape_53 : decode cX6_tape 53 = .ok (.getfield 30, 3) := by decide +kernel
theorem dX6_tape_56 : decode cX6_tape 56 = .ok (.iload_n 1, 1) := by decide +kernel
theorem dX6_tape_57 : decode cX6_tape 57 = .ok (.aaload, 1) := by decide +kernel
theorem dX6_tape_58 : decode cX6_tape 58 = .ok (.iload_n 2, 1) := by decide +kernel
theorem dX6_tape_59 : decode cX6_tape 59 = .ok (.iload_n 3, 1) := by decide +kernel
theorem dX6_tape_60 : decode cX6_tape 60 = .ok (.invokevirtual 252, 3) := by decide +kernel
theorem dX6_tape_63 : decode cX6_tape 63 = .ok (.iconst 1, 1) := by decide +kernel
theorem dX6_tape_64 : decode cX6_tape 64 = .ok (.ireturn, 1) := by decide +kernel
theorem dX6_item_0 : decode cX6_item 0 = .ok (.iload_n 1, 1) := by decide +kernel
theorem dX6_item_1 : decode cX6_item 1 = .ok (.invokestatic 232, 3) := by decide +kernel
theorem dX6_item_4 : decode cX6_item 4 = .ok (.ifCond .ne 5, 3) := by decide +kernel
theorem dX6_item_7 : decode cX6_item 7 = .ok (.iconst (-1), 1) := by decide +kernel
theorem dX6_item_8 : decode cX6_item 8 = .ok (.ireturn, 1) := by decide +kernel
theorem dX6_item_9 : decode cX6_item 9 = .ok (.aload_n 0, 1) := by decide +kernel
theorem dX6_item_10 : decode cX6_item 10 = .ok (.getfield 30, 3) := by decide +kernel
theorem dX6_item_13 : decode cX6_item 13 = .ok (.iload_n 1, 1) := by decide +kernel
theorem dX6_item_14 : decode cX6_item 14 = .ok (.aaload, 1) := by decide +kernel
theorem dX6_item_15 : decode cX6_item 15 = .ok (.getfield 235, 3) := by decide +kernel
theorem dX6_item_18 : decode cX6_item 18 = .ok (.iconst (-1), 1) := by decide +kernel
theorem dX6_item_19 : decode cX6_item 19 = .ok (.if_icmp .ne 6, 3) := by decide +kernel
theorem dX6_item_22 : decode cX6_item 22 = .ok (.bipush (-11), 2) := by decide +kernel
theorem dX6_item_24 : decode cX6_item 24 = .ok (.ireturn, 1) := by decide +kernel
theorem dX6_item_25 : decode cX6_item 25 = .ok (.aload_n 0, 1) := by decide +kernel
theorem dX6_item_26 : decode cX6_item 26 = .ok (.getfield 30, 3) := by decide +kernel
theorem dX6_item_29 : decode cX6_item 29 = .ok (.iload_n 1, 1) := by decide +kernel
theorem dX6_item_30 : decode cX6_item 30 = .ok (.aaload, 1) := by decide +kernel
theorem dX6_item_31 : decode cX6_item 31 = .ok (.iload_n 2, 1) := by decide +kernel
theorem dX6_item_32 : decode cX6_item 32 = .ok (.lload_n 3, 1) := by decide +kernel
theorem dX6_item_33 : decode cX6_item 33 = .ok (.invokevirtual 255, 3) := by decide +kernel
theorem dX6_item_36 : decode cX6_item 36 = .ok (.ifCond .eq 7, 3) := by decide +kernel
theorem dX6_item_39 : decode cX6_item 39 = .ok (.iconst 1, 1) := by decide +kernel
theorem dX6_item_40 : decode cX6_item 40 = .ok (.goto 5, 3) := by decide +kernel
theorem dX6_item_43 : decode cX6_item 43 = .ok (.bipush (-13), 2) := by decide +kernel
theorem dX6_item_45 : decode cX6_item 45 = .ok (.ireturn, 1) := by decide +kernel
theorem dX6_peek_0 : decode cX6_peek 0 = .ok (.iload_n 1, 1) := by decide +kernel
theorem dX6_peek_1 : decode cX6_peek 1 = .ok (.invokestatic 232, 3) := by decide +kernel
theorem dX6_peek_4 : decode cX6_peek 4 = .ok (.ifCond .eq 22, 3) := by decide +kernel
theorem dX6_peek_7 : decode cX6_peek 7 = .ok (.iload_n 2, 1) := by decide +kernel
theorem dX6_peek_8 : decode cX6_peek 8 = .ok (.iconst 0, 1) := by decide +kernel
theorem dX6_peek_9 : decode cX6_peek 9 = .ok (.aload_n 0, 1) := by decide +kernel
theorem dX6_peek_10 : decode cX6_peek 10 = .ok (.getfield 30, 3) := by decide +kernel
theorem dX6_peek_13 : decode cX6_peek 13 = .ok (.iload_n 1, 1) := by decide +kernel
theorem dX6_peek_14 : decode cX6_peek 14 = .ok (.aaload, 1) := by decide +kernel
theorem dX6_peek_15 : decode cX6_peek 15 = .ok (.getfield 238, 3) := by decide +kernel
theorem dX6_peek_18 : decode cX6_peek 18 = .ok (.iconst 1, 1) := by decide +kernel
theorem dX6_peek_19 : decode cX6_peek 19 = .ok (.isub, 1) := by decide +kernel
theorem dX6_peek_20 : decode cX6_peek 20 = .ok (.invokestatic 68, 3) := by decide +kernel
theorem dX6_peek_23 : decode cX6_peek 23 = .ok (.ifCond .ne 7, 3) := by decide +kernel
theorem dX6_peek_26 : decode cX6_peek 26 = .ok (.ldc2_w 148, 3) := by decide +kernel
theorem dX6_peek_29 : decode cX6_peek 29 = .ok (.lreturn, 1) := by decide +kernel
theorem dX6_peek_30 : decode cX6_peek 30 = .ok (.aload_n 0, 1) := by decide +kernel
theorem dX6_peek_31 : decode cX6_peek 31 = .ok (.getfield 30, 3) := by decide +kernel
theorem dX6_peek_34 : decode cX6_peek 34 = .ok (.iload_n 1, 1) := by decide +kernel
theorem dX6_peek_35 : decode cX6_peek 35 = .ok (.aaload, 1) := by decide +kernel
theorem dX6_peek_36 : decode cX6_peek 36 = .ok (.getfield 239, 3) := by decide +kernel
theorem dX6_peek_39 : decode cX6_peek 39 = .ok (.iload_n 2, 1) := by decide +kernel
theorem dX6_peek_40 : decode cX6_peek 40 = .ok (.laload, 1) := by decide +kernel
theorem dX6_peek_41 : decode cX6_peek 41 = .ok (.lreturn, 1) := by decide +kernel
theorem dX6_shift_0 : decode cX6_shift 0 = .ok (.iload_n 1, 1) := by decide +kernel
theorem dX6_shift_1 : decode cX6_shift 1 = .ok (.invokestatic 232, 3) := by decide +kernel
theorem dX6_shift_4 : decode cX6_shift 4 = .ok (.ifCond .eq 10, 3) := by decide +kernel
theorem dX6_shift_7 : decode cX6_shift 7 = .ok (.iload_n 3, 1) := by decide +kernel
theorem dX6_shift_8 : decode cX6_shift 8 = .ok (.invokestatic 232, 3) := by decide +kernel
theorem dX6_shift_11 : decode cX6_shift 11 = .ok (.ifCond .ne 5, 3) := by decide +kernel
theorem dX6_shift_14 : decode cX6_shift 14 = .ok (.iconst (-1), 1) := by decide +kernel
theorem dX6_shift_15 : decode cX6_shift 15 = .ok (.ireturn, 1) := by decide +kernel
theorem dX6_shift_16 : decode cX6_shift 16 = .ok (.aload_n 0, 1) := by decide +kernel
theorem dX6_shift_17 : decode cX6_shift 17 = .ok (.getfield 30, 3) := by decide +kernel
theorem dX6_shift_20 : decode cX6_shift 20 = .ok (.iload_n 1, 1) := by decide +kernel
theorem dX6_shift_21 : decode cX6_shift 21 = .ok (.aaload, 1) := by decide +kernel
theorem dX6_shift_22 : decode cX6_shift 22 = .ok (.astore 6, 2) := by decide +kernel
theorem dX6_shift_24 : decode cX6_shift 24 = .ok (.aload_n 0, 1) := by decide +kernel
theorem dX6_shift_25 : decode cX6_shift 25 = .ok (.getfield 30, 3) := by decide +kernel
theorem dX6_shift_28 : decode cX6_shift 28 = .ok (.iload_n 3, 1) := by decide +kernel
theorem dX6_shift_29 : decode cX6_shift 29 = .ok (.aaload, 1) := by decide +kernel
theorem dX6_shift_30 : decode cX6_shift 30 = .ok (.astore 7, 2) := by decide +kernel
theorem dX6_shift_32 : decode cX6_shift 32 = .ok (.aload 6, 2) := by decide +kernel
theorem dX6_shift_34 : decode cX6_shift 34 = .ok (.getfield 235, 3) := by decide +kernel
theorem dX6_shift_37 : decode cX6_shift 37 = .ok (.iconst (-1), 1) := by decide +kernel
theorem dX6_shift_38 : decode cX6_shift 38 = .ok (.if_icmp .eq 12, 3) := by decide +kernel
theorem dX6_shift_41 : decode cX6_shift 41 = .ok (.aload 7, 2) := by decide +kernel
theorem dX6_shift_43 : decode cX6_shift 43 = .ok (.getfield 235, 3) := by decide +kernel
theorem dX6_shift_46 : decode cX6_shift 46 = .ok (.iconst (-1), 1) := by decide +kernel
theorem dX6_shift_47 : decode cX6_shift 47 = .ok (.if_icmp .ne 6, 3) := by decide +kernel
theorem dX6_shift_50 : decode cX6_shift 50 = .ok (.bipush (-11), 2) := by decide +kernel
theorem dX6_shift_52 : decode cX6_shift 52 = .ok (.ireturn, 1) := by decide +kernel
theorem dX6_shift_53 : decode cX6_shift 53 = .ok (.aload 6, 2) := by decide +kernel
theorem dX6_shift_55 : decode cX6_shift 55 = .ok (.getfield 235, 3) := by decide +kernel
theorem dX6_shift_58 : decode cX6_shift 58 = .ok (.aload 7, 2) := by decide +kernel
theorem dX6_shift_60 : decode cX6_shift 60 = .ok (.getfield 235, 3) := by decide +kernel
theorem dX6_shift_63 : decode cX6_shift 63 = .ok (.if_icmp .eq 6, 3) := by decide +kernel
theorem dX6_shift_66 : decode cX6_shift 66 = .ok (.bipush (-12), 2) := by decide +kernel
theorem dX6_shift_68 : decode cX6_shift 68 = .ok (.ireturn, 1) := by decide +kernel
theorem dX6_shift_69 : decode cX6_shift 69 = .ok (.aload 6, 2) := by decide +kernel
theorem dX6_shift_71 : decode cX6_shift 71 = .ok (.iload_n 2, 1) := by decide +kernel
theorem dX6_shift_72 : decode cX6_shift 72 = .ok (.iload 5, 2) := by decide +kernel
theorem dX6_shift_74 : decode cX6_shift 74 = .ok (.invokevirtual 258, 3) := by decide +kernel
theorem dX6_shift_77 : decode cX6_shift 77 = .ok (.ifCond .eq 15, 3) := by decide +kernel
theorem dX6_shift_80 : decode cX6_shift 80 = .ok (.aload 7, 2) := by decide +kernel
theorem dX6_shift_82 : decode cX6_shift 82 = .ok (.iload 4, 2) := by decide +kernel
theorem dX6_shift_84 : decode cX6_shift 84 = .ok (.iload 5, 2) := by decide +kernel
theorem dX6_shift_86 : decode cX6_shift 86 = .ok (.invokevirtual 258, 3) := by decide +kernel
theorem dX6_shift_89 : decode cX6_shift 89 = .ok (.ifCond .ne 6, 3) := by decide +kernel
theorem dX6_shift_92 : decode cX6_shift 92 = .ok (.bipush (-13), 2) := by decide +kernel
theorem dX6_shift_94 : decode cX6_shift 94 = .ok (.ireturn, 1) := by decide +kernel
theorem dX6_shift_95 : decode cX6_shift 95 = .ok (.aload 6, 2) := by decide +kernel
theorem dX6_shift_97 : decode cX6_shift 97 = .ok (.getfield 239, 3) := by decide +kernel
theorem dX6_shift_100 : decode cX6_shift 100 = .ok (.iload_n 2, 1) := by decide +kernel
theorem dX6_shift_101 : decode cX6_shift 101 = .ok (.aload 7, 2) := by decide +kernel
theorem dX6_shift_103 : decode cX6_shift 103 = .ok (.getfield 239, 3) := by decide +kernel
theorem dX6_shift_106 : decode cX6_shift 106 = .ok (.iload 4, 2) := by decide +kernel
theorem dX6_shift_108 : decode cX6_shift 108 = .ok (.iload 5, 2) := by decide +kernel
theorem dX6_shift_110 : decode cX6_shift 110 = .ok (.invokestatic 262, 3) := by decide +kernel
theorem dX6_shift_113 : decode cX6_shift 113 = .ok (.iload 5, 2) := by decide +kernel
theorem dX6_shift_115 : decode cX6_shift 115 = .ok (.ireturn, 1) := by decide +kernel
theorem dX6_within_0 : decode cX6_within 0 = .ok (.iload_n 0, 1) := by decide +kernel
theorem dX6_within_1 : decode cX6_within 1 = .ok (.iload_n 1, 1) := by decide +kernel
theorem dX6_within_2 : decode cX6_within 2 = .ok (.if_icmp .lt 12, 3) := by decide +kernel
theorem dX6_within_5 : decode cX6_within 5 = .ok (.iload_n 0, 1) := by decide +kernel
theorem dX6_within_6 : decode cX6_within 6 = .ok (.iload_n 2, 1) := by decide +kernel
theorem dX6_within_7 : decode cX6_within 7 = .ok (.if_icmp .gt 7, 3) := by decide +kernel
theorem dX6_within_10 : decode cX6_within 10 = .ok (.iconst 1, 1) := by decide +kernel
theorem dX6_within_11 : decode cX6_within 11 = .ok (.goto 4, 3) := by decide +kernel
theorem dX6_within_14 : decode cX6_within 14 = .ok (.iconst 0, 1) := by decide +kernel
theorem dX6_within_15 : decode cX6_within 15 = .ok (.ireturn, 1) := by decide +kernel
theorem dX6_isRow_0 : decode cX6_isRow 0 = .ok (.iload_n 0, 1) := by decide +kernel
theorem dX6_isRow_1 : decode cX6_isRow 1 = .ok (.iconst 0, 1) := by decide +kernel
theorem dX6_isRow_2 : decode cX6_isRow 2 = .ok (.iconst 5, 1) := by decide +kernel
theorem dX6_isRow_3 : decode cX6_isRow 3 = .ok (.invokestatic 68, 3) := by decide +kernel
theorem dX6_isRow_6 : decode cX6_isRow 6 = .ok (.ireturn, 1) := by decide +kernel
theorem dX6_isKind_0 : decode cX6_isKind 0 = .ok (.iload_n 0, 1) := by decide +kernel
theorem dX6_isKind_1 : decode cX6_isKind 1 = .ok (.iconst 0, 1) := by decide +kernel
theorem dX6_isKind_2 : decode cX6_isKind 2 = .ok (.iconst 3, 1) := by decide +kernel
theorem dX6_isKind_3 : decode cX6_isKind 3 = .ok (.invokestatic 68, 3) := by decide +kernel
theorem dX6_isKind_6 : decode cX6_isKind 6 = .ok (.ireturn, 1) := by decide +kernel
theorem dX6_isNumber_0 : decode cX6_isNumber 0 = .ok (.iload_n 0, 1) := by decide +kernel
theorem dX6_isNumber_1 : decode cX6_isNumber 1 = .ok (.iconst 0, 1) := by decide +kernel
theorem dX6_isNumber_2 : decode cX6_isNumber 2 = .ok (.ldc_w 268, 3) := by decide +kernel
theorem dX6_isNumber_5 : decode cX6_isNumber 5 = .ok (.invokestatic 68, 3) := by decide +kernel
theorem dX6_isNumber_8 : decode cX6_isNumber 8 = .ok (.ireturn, 1) := by decide +kernel
theorem dX6_isPart_0 : decode cX6_isPart 0 = .ok (.iload_n 0, 1) := by decide +kernel
theorem dX6_isPart_1 : decode cX6_isPart 1 = .ok (.iconst 0, 1) := by decide +kernel
theorem dX6_isPart_2 : decode cX6_isPart 2 = .ok (.iconst 1, 1) := by decide +kernel
theorem dX6_isPart_3 : decode cX6_isPart 3 = .ok (.invokestatic 68, 3) := by decide +kernel
theorem dX6_isPart_6 : decode cX6_isPart 6 = .ok (.ireturn, 1) := by decide +kernel
theorem dX6_isTape_0 : decode cX6_isTape 0 = .ok (.iload_n 0, 1) := by decide +kernel
theorem dX6_isTape_1 : decode cX6_isTape 1 = .ok (.iconst 0, 1) := by decide +kernel
theorem dX6_isTape_2 : decode cX6_isTape 2 = .ok (.iconst 5, 1) := by decide +kernel
theorem dX6_isTape_3 : decode cX6_isTape 3 = .ok (.invokestatic 68, 3) := by decide +kernel
theorem dX6_isTape_6 : decode cX6_isTape 6 = .ok (.ireturn, 1) := by decide +kernel
theorem dX6_follow_0 : decode cX6_follow 0 = .ok (.aload_n 0, 1) := by decide +kernel
theorem dX6_follow_1 : decode cX6_follow 1 = .ok (.getfield 24, 3) := by decide +kernel
theorem dX6_follow_4 : decode cX6_follow 4 = .ok (.iload_n 1, 1) := by decide +kernel
theorem dX6_follow_5 : decode cX6_follow 5 = .ok (.iconst 0, 1) := by decide +kernel
theorem dX6_follow_6 : decode cX6_follow 6 = .ok (.invokevirtual 269, 3) := by decide +kernel
theorem dX6_follow_9 : decode cX6_follow 9 = .ok (.istore_n 2, 1) := by decide +kernel
theorem dX6_follow_10 : decode cX6_follow 10 = .ok (.aload_n 0, 1) := by decide +kernel
theorem dX6_follow_11 : decode cX6_follow 11 = .ok (.getfield 24, 3) := by decide +kernel
theorem dX6_follow_14 : decode cX6_follow 14 = .ok (.iload_n 1, 1) := by decide +kernel
theorem dX6_follow_15 : decode cX6_follow 15 = .ok (.iconst 1, 1) := by decide +kernel
theorem dX6_follow_16 : decode cX6_follow 16 = .ok (.invokevirtual 269, 3) := by decide +kernel
theorem dX6_follow_19 : decode cX6_follow 19 = .ok (.istore_n 3, 1) := by decide +kernel
theorem dX6_follow_20 : decode cX6_follow 20 = .ok (.aload_n 0, 1) := by decide +kernel
theorem dX6_follow_21 : decode cX6_follow 21 = .ok (.getfield 24, 3) := by decide +kernel
theorem dX6_follow_24 : decode cX6_follow 24 = .ok (.iload_n 1, 1) := by decide +kernel
theorem dX6_follow_25 : decode cX6_follow 25 = .ok (.invokevirtual 273, 3) := by decide +kernel
theorem dX6_follow_28 : decode cX6_follow 28 = .ok (.tableswitch 78 0 3 #[32, 57, 64, 71], 32) := by decide +kernel
theorem dX6_follow_60 : decode cX6_follow 60 = .ok (.aload_n 0, 1) := by decide +kernel
theorem dX6_follow_61 : decode cX6_follow 61 = .ok (.iload_n 2, 1) := by decide +kernel
theorem dX6_follow_62 : decode cX6_follow 62 = .ok (.iload_n 3, 1) := by decide +kernel
theorem dX6_follow_63 : decode cX6_follow 63 = .ok (.aload_n 0, 1) := by decide +kernel
theorem dX6_follow_64 : decode cX6_follow 64 = .ok (.getfield 24, 3) := by decide +kernel
theorem dX6_follow_67 : decode cX6_follow 67 = .ok (.iload_n 1, 1) := by decide +kernel
theorem dX6_follow_68 : decode cX6_follow 68 = .ok (.iconst 2, 1) := by decide +kernel
theorem dX6_follow_69 : decode cX6_follow 69 = .ok (.invokevirtual 269, 3) := by decide +kernel
theorem dX6_follow_72 : decode cX6_follow 72 = .ok (.aload_n 0, 1) := by decide +kernel
theorem dX6_follow_73 : decode cX6_follow 73 = .ok (.getfield 24, 3) := by decide +kernel
theorem dX6_follow_76 : decode cX6_follow 76 = .ok (.iload_n 1, 1) := by decide +kernel
theorem dX6_follow_77 : decode cX6_follow 77 = .ok (.iconst 3, 1) := by decide +kernel
theorem dX6_follow_78 : decode cX6_follow 78 = .ok (.invokevirtual 269, 3) := by decide +kernel
theorem dX6_follow_81 : decode cX6_follow 81 = .ok (.invokevirtual 276, 3) := by decide +kernel
theorem dX6_follow_84 : decode cX6_follow 84 = .ok (.ireturn, 1) := by decide +kernel
theorem dX6_follow_85 : decode cX6_follow 85 = .ok (.aload_n 0, 1) := by decide +kernel
theorem dX6_follow_86 : decode cX6_follow 86 = .ok (.iload_n 2, 1) := by decide +kernel
theorem dX6_follow_87 : decode cX6_follow 87 = .ok (.iload_n 3, 1) := by decide +kernel
theorem dX6_follow_88 : decode cX6_follow 88 = .ok (.invokevirtual 280, 3) := by decide +kernel
theorem dX6_follow_91 : decode cX6_follow 91 = .ok (.ireturn, 1) := by decide +kernel
theorem dX6_follow_92 : decode cX6_follow 92 = .ok (.aload_n 0, 1) := by decide +kernel
theorem dX6_follow_93 : decode cX6_follow 93 = .ok (.iload_n 2, 1) := by decide +kernel
theorem dX6_follow_94 : decode cX6_follow 94 = .ok (.iload_n 3, 1) := by decide +kernel
theorem dX6_follow_95 : decode cX6_follow 95 = .ok (.invokevirtual 283, 3) := by decide +kernel
theorem dX6_follow_98 : decode cX6_follow 98 = .ok (.ireturn, 1) := by decide +kernel
theorem dX6_follow_99 : decode cX6_follow 99 = .ok (.aload_n 0, 1) := by decide +kernel
theorem dX6_follow_100 : decode cX6_follow 100 = .ok (.iload_n 2, 1) := by decide +kernel
theorem dX6_follow_101 : decode cX6_follow 101 = .ok (.iload_n 3, 1) := by decide +kernel
theorem dX6_follow_102 : decode cX6_follow 102 = .ok (.invokevirtual 286, 3) := by decide +kernel
theorem dX6_follow_105 : decode cX6_follow 105 = .ok (.ireturn, 1) := by decide +kernel
theorem dX6_follow_106 : decode cX6_follow 106 = .ok (.aload_n 0, 1) := by decide +kernel
theorem dX6_follow_107 : decode cX6_follow 107 = .ok (.iload_n 2, 1) := by decide +kernel
theorem dX6_follow_108 : decode cX6_follow 108 = .ok (.iload_n 3, 1) := by decide +kernel
theorem dX6_follow_109 : decode cX6_follow 109 = .ok (.invokevirtual 289, 3) := by decide +kernel
theorem dX6_follow_112 : decode cX6_follow 112 = .ok (.ireturn, 1) := by decide +kernel
theorem dX6_combine_0 : decode cX6_combine 0 = .ok (.iload_n 1, 1) := by decide +kernel
theorem dX6_combine_1 : decode cX6_combine 1 = .ok (.ifCond .ne 27, 3) := by decide +kernel
theorem dX6_combine_4 : decode cX6_combine 4 = .ok (.aload_n 0, 1) := by decide +kernel
theorem dX6_combine_5 : decode cX6_combine 5 = .ok (.getfield 44, 3) := by decide +kernel
theorem dX6_combine_8 : decode cX6_combine 8 = .ok (.aload_n 0, 1) := by decide +kernel
theorem dX6_combine_9 : decode cX6_combine 9 = .ok (.getfield 48, 3) := by decide +kernel
theorem dX6_combine_12 : decode cX6_combine 12 = .ok (.getfield 196, 3) := by decide +kernel
theorem dX6_combine_15 : decode cX6_combine 15 = .ok (.aload_n 0, 1) := by decide +kernel
theorem dX6_combine_16 : decode cX6_combine 16 = .ok (.getfield 48, 3) := by decide +kernel
theorem dX6_combine_19 : decode cX6_combine 19 = .ok (.getfield 200, 3) := by decide +kernel
theorem dX6_combine_22 : decode cX6_combine 22 = .ok (.invokevirtual 203, 3) := by decide +kernel
theorem dX6_combine_25 : decode cX6_combine 25 = .ok (.goto 33, 3) := by decide +kernel
theorem dX6_combine_28 : decode cX6_combine 28 = .ok (.iload_n 1, 1) := by decide +kernel
theorem dX6_combine_29 : decode cX6_combine 29 = .ok (.iconst 1, 1) := by decide +kernel
theorem dX6_combine_30 : decode cX6_combine 30 = .ok (.if_icmp .ne 17, 3) := by decide +kernel
theorem dX6_combine_33 : decode cX6_combine 33 = .ok (.aload_n 0, 1) := by decide +kernel
theorem dX6_combine_34 : decode cX6_combine 34 = .ok (.getfield 44, 3) := by decide +kernel
theorem dX6_combine_37 : decode cX6_combine 37 = .ok (.aload_n 0, 1) := by decide +kernel
theorem dX6_combine_38 : decode cX6_combine 38 = .ok (.getfield 48, 3) := by decide +kernel
theorem dX6_combine_41 : decode cX6_combine 41 = .ok (.invokevirtual 165, 3) := by decide +kernel
theorem dX6_combine_44 : decode cX6_combine 44 = .ok (.goto 14, 3) := by decide +kernel
theorem dX6_combine_47 : decode cX6_combine 47 = .ok (.aload_n 0, 1) := by decide +kernel
theorem dX6_combine_48 : decode cX6_combine 48 = .ok (.getfield 44, 3) := by decide +kernel
theorem dX6_combine_51 : decode cX6_combine 51 = .ok (.aload_n 0, 1) := by decide +kernel
theorem dX6_combine_52 : decode cX6_combine 52 = .ok (.getfield 48, 3) := by decide +kernel
theorem dX6_combine_55 : decode cX6_combine 55 = .ok (.invokevirtual 292, 3) := by decide +kernel
theorem dX6_combine_58 : decode cX6_combine 58 = .ok (.return_, 1) := by decide +kernel
theorem dX6_findUnits_0 : decode cX6_findUnits 0 = .ok (.aload_n 0, 1) := by decide +kernel
theorem dX6_findUnits_1 : decode cX6_findUnits 1 = .ok (.getfield 55, 3) := by decide +kernel
theorem dX6_findUnits_4 : decode cX6_findUnits 4 = .ok (.iconst 0, 1) := by decide +kernel
theorem dX6_findUnits_5 : decode cX6_findUnits 5 = .ok (.lload_n 1, 1) := by decide +kernel
theorem dX6_findUnits_6 : decode cX6_findUnits 6 = .ok (.lload_n 3, 1) := by decide +kernel
theorem dX6_findUnits_7 : decode cX6_findUnits 7 = .ok (.iconst 1, 1) := by decide +kernel
theorem dX6_findUnits_8 : decode cX6_findUnits 8 = .ok (.invokestatic 295, 3) := by decide +kernel
theorem dX6_findUnits_11 : decode cX6_findUnits 11 = .ok (.iastore, 1) := by decide +kernel
theorem dX6_findUnits_12 : decode cX6_findUnits 12 = .ok (.aload_n 0, 1) := by decide +kernel
theorem dX6_findUnits_13 : decode cX6_findUnits 13 = .ok (.getfield 55, 3) := by decide +kernel
theorem dX6_findUnits_16 : decode cX6_findUnits 16 = .ok (.iconst 0, 1) := by decide +kernel
theorem dX6_findUnits_17 : decode cX6_findUnits 17 = .ok (.iaload, 1) := by decide +kernel
theorem dX6_findUnits_18 : decode cX6_findUnits 18 = .ok (.ifCond .le 5, 3) := by decide +kernel
theorem dX6_findUnits_21 : decode cX6_findUnits 21 = .ok (.iconst 1, 1) := by decide +kernel
theorem dX6_findUnits_22 : decode cX6_findUnits 22 = .ok (.ireturn, 1) := by decide +kernel
theorem dX6_findUnits_23 : decode cX6_findUnits 23 = .ok (.iconst 2, 1) := by decide +kernel
theorem dX6_findUnits_24 : decode cX6_findUnits 24 = .ok (.istore 5, 2) := by decide +kernel
theorem dX6_findUnits_26 : decode cX6_findUnits 26 = .ok (.iload 5, 2) := by decide +kernel
theorem dX6_findUnits_28 : decode cX6_findUnits 28 = .ok (.bipush 60, 2) := by decide +kernel
theorem dX6_findUnits_30 : decode cX6_findUnits 30 = .ok (.if_icmp .gt 51, 3) := by decide +kernel
theorem dX6_findUnits_33 : decode cX6_findUnits 33 = .ok (.aload_n 0, 1) := by decide +kernel
theorem dX6_findUnits_34 : decode cX6_findUnits 34 = .ok (.getfield 55, 3) := by decide +kernel
theorem dX6_findUnits_37 : decode cX6_findUnits 37 = .ok (.iconst 0, 1) := by decide +kernel
theorem dX6_findUnits_38 : decode cX6_findUnits 38 = .ok (.iload 5, 2) := by decide +kernel
theorem dX6_findUnits_40 : decode cX6_findUnits 40 = .ok (.iastore, 1) := by decide +kernel
theorem dX6_findUnits_41 : decode cX6_findUnits 41 = .ok (.aload_n 0, 1) := by decide +kernel
theorem dX6_findUnits_42 : decode cX6_findUnits 42 = .ok (.getfield 55, 3) := by decide +kernel
theorem dX6_findUnits_45 : decode cX6_findUnits 45 = .ok (.iconst 1, 1) := by decide +kernel
theorem dX6_findUnits_46 : decode cX6_findUnits 46 = .ok (.lload_n 1, 1) := by decide +kernel
theorem dX6_findUnits_47 : decode cX6_findUnits 47 = .ok (.iload 5, 2) := by decide +kernel
theorem dX6_findUnits_49 : decode cX6_findUnits 49 = .ok (.i2l, 1) := by decide +kernel
theorem dX6_findUnits_50 : decode cX6_findUnits 50 = .ok (.lmul, 1) := by decide +kernel
theorem dX6_findUnits_51 : decode cX6_findUnits 51 = .ok (.lload_n 3, 1) := by decide +kernel
theorem dX6_findUnits_52 : decode cX6_findUnits 52 = .ok (.lsub, 1) := by decide +kernel
theorem dX6_findUnits_53 : decode cX6_findUnits 53 = .ok (.lload_n 3, 1) := by decide +kernel
theorem dX6_findUnits_54 : decode cX6_findUnits 54 = .ok (.iload 5, 2) := by decide +kernel
theorem dX6_findUnits_56 : decode cX6_findUnits 56 = .ok (.i2l, 1) := by decide +kernel
theorem dX6_findUnits_57 : decode cX6_findUnits 57 = .ok (.lmul, 1) := by decide +kernel
theorem dX6_findUnits_58 : decode cX6_findUnits 58 = .ok (.iload 5, 2) := by decide +kernel
theorem dX6_findUnits_60 : decode cX6_findUnits 60 = .ok (.invokestatic 295, 3) := by decide +kernel
theorem dX6_findUnits_63 : decode cX6_findUnits 63 = .ok (.iastore, 1) := by decide +kernel
theorem dX6_findUnits_64 : decode cX6_findUnits 64 = .ok (.aload_n 0, 1) := by decide +kernel
theorem dX6_findUnits_65 : decode cX6_findUnits 65 = .ok (.getfield 55, 3) := by decide +kernel
theorem dX6_findUnits_68 : decode cX6_findUnits 68 = .ok (.iconst 1, 1) := by decide +kernel
theorem dX6_findUnits_69 : decode cX6_findUnits 69 = .ok (.iaload, 1) := by decide +kernel
theorem dX6_findUnits_70 : decode cX6_findUnits 70 = .ok (.ifCond .le 5, 3) := by decide +kernel
theorem dX6_findUnits_73 : decode cX6_findUnits 73 = .ok (.iconst 2, 1) := by decide +kernel
theorem dX6_findUnits_74 : decode cX6_findUnits 74 = .ok (.ireturn, 1) := by decide +kernel
theorem dX6_findUnits_75 : decode cX6_findUnits 75 = .ok (.iinc 5 1, 3) := by decide +kernel
theorem dX6_findUnits_78 : decode cX6_findUnits 78 = .ok (.goto (-52), 3) := by decide +kernel
theorem dX6_findUnits_81 : decode cX6_findUnits 81 = .ok (.iconst 2, 1) := by decide +kernel
theorem dX6_findUnits_82 : decode cX6_findUnits 82 = .ok (.istore 5, 2) := by decide +kernel
theorem dX6_findUnits_84 : decode cX6_findUnits 84 = .ok (.iload 5, 2) := by decide +kernel
theorem dX6_findUnits_86 : decode cX6_findUnits 86 = .ok (.bipush 60, 2) := by decide +kernel
theorem dX6_findUnits_88 : decode cX6_findUnits 88 = .ok (.if_icmp .gt 40, 3) := by decide +kernel
theorem dX6_findUnits_91 : decode cX6_findUnits 91 = .ok (.aload_n 0, 1) := by decide +kernel
theorem dX6_findUnits_92 : decode cX6_findUnits 92 = .ok (.getfield 55, 3) := by decide +kernel
theorem dX6_findUnits_95 : decode cX6_findUnits 95 = .ok (.iconst 0, 1) := by decide +kernel
theorem dX6_findUnits_96 : decode cX6_findUnits 96 = .ok (.iload 5, 2) := by decide +kernel
theorem dX6_findUnits_98 : decode cX6_findUnits 98 = .ok (.iastore, 1) := by decide +kernel
theorem dX6_findUnits_99 : decode cX6_findUnits 99 = .ok (.aload_n 0, 1) := by decide +kernel
theorem dX6_findUnits_100 : decode cX6_findUnits 100 = .ok (.lload_n 1, 1) := by decide +kernel
theorem dX6_findUnits_101 : decode cX6_findUnits 101 = .ok (.iload 5, 2) := by decide +kernel
theorem dX6_findUnits_103 : decode cX6_findUnits 103 = .ok (.i2l, 1) := by decide +kernel
theorem dX6_findUnits_104 : decode cX6_findUnits 104 = .ok (.lmul, 1) := by decide +kernel
theorem dX6_findUnits_105 : decode cX6_findUnits 105 = .ok (.lload_n 3, 1) := by decide +kernel
theorem dX6_findUnits_106 : decode cX6_findUnits 106 = .ok (.lsub, 1) := by decide +kernel
theorem dX6_findUnits_107 : decode cX6_findUnits 107 = .ok (.lload_n 3, 1) := by decide +kernel
theorem dX6_findUnits_108 : decode cX6_findUnits 108 = .ok (.iload 5, 2) := by decide +kernel
theorem dX6_findUnits_110 : decode cX6_findUnits 110 = .ok (.i2l, 1) := by decide +kernel
theorem dX6_findUnits_111 : decode cX6_findUnits 111 = .ok (.lmul, 1) := by decide +kernel
theorem dX6_findUnits_112 : decode cX6_findUnits 112 = .ok (.iload 5, 2) := by decide +kernel
theorem dX6_findUnits_114 : decode cX6_findUnits 114 = .ok (.invokevirtual 299, 3) := by decide +kernel
theorem dX6_findUnits_117 : decode cX6_findUnits 117 = .ok (.ifCond .eq 5, 3) := by decide +kernel
theorem dX6_findUnits_120 : decode cX6_findUnits 120 = .ok (.iconst 3, 1) := by decide +kernel
theorem dX6_findUnits_121 : decode cX6_findUnits 121 = .ok (.ireturn, 1) := by decide +kernel
theorem dX6_findUnits_122 : decode cX6_findUnits 122 = .ok (.iinc 5 1, 3) := by decide +kernel
theorem dX6_findUnits_125 : decode cX6_findUnits 125 = .ok (.goto (-41), 3) := by decide +kernel
theorem dX6_findUnits_128 : decode cX6_findUnits 128 = .ok (.bipush (-5), 2) := by decide +kernel
theorem dX6_findUnits_130 : decode cX6_findUnits 130 = .ok (.ireturn, 1) := by decide +kernel
theorem dX6_findPair_0 : decode cX6_findPair 0 = .ok (.iload 5, 2) := by decide +kernel
theorem dX6_findPair_2 : decode cX6_findPair 2 = .ok (.iconst 1, 1) := by decide +kernel
theorem dX6_findPair_3 : decode cX6_findPair 3 = .ok (.iadd, 1) := by decide +kernel
theorem dX6_findPair_4 : decode cX6_findPair 4 = .ok (.istore 6, 2) := by decide +kernel
theorem dX6_findPair_6 : decode cX6_findPair 6 = .ok (.iload 6, 2) := by decide +kernel
theorem dX6_findPair_8 : decode cX6_findPair 8 = .ok (.bipush 60, 2) := by decide +kernel
theorem dX6_findPair_10 : decode cX6_findPair 10 = .ok (.if_icmp .gt 51, 3) := by decide +kernel
theorem dX6_findPair_13 : decode cX6_findPair 13 = .ok (.aload_n 0, 1) := by decide +kernel
theorem dX6_findPair_14 : decode cX6_findPair 14 = .ok (.getfield 55, 3) := by decide +kernel
theorem dX6_findPair_17 : decode cX6_findPair 17 = .ok (.iconst 1, 1) := by decide +kernel
theorem dX6_findPair_18 : decode cX6_findPair 18 = .ok (.iload 6, 2) := by decide +kernel
theorem dX6_findPair_20 : decode cX6_findPair 20 = .ok (.iastore, 1) := by decide +kernel
theorem dX6_findPair_21 : decode cX6_findPair 21 = .ok (.aload_n 0, 1) := by decide +kernel
theorem dX6_findPair_22 : decode cX6_findPair 22 = .ok (.getfield 55, 3) := by decide +kernel
theorem dX6_findPair_25 : decode cX6_findPair 25 = .ok (.iconst 2, 1) := by decide +kernel
theorem dX6_findPair_26 : decode cX6_findPair 26 = .ok (.lload_n 1, 1) := by decide +kernel
theorem dX6_findPair_27 : decode cX6_findPair 27 = .ok (.iload 6, 2) := by decide +kernel
theorem dX6_findPair_29 : decode cX6_findPair 29 = .ok (.i2l, 1) := by decide +kernel
theorem dX6_findPair_30 : decode cX6_findPair 30 = .ok (.lmul, 1) := by decide +kernel
theorem dX6_findPair_31 : decode cX6_findPair 31 = .ok (.lload_n 3, 1) := by decide +kernel
theorem dX6_findPair_32 : decode cX6_findPair 32 = .ok (.lsub, 1) := by decide +kernel
theorem dX6_findPair_33 : decode cX6_findPair 33 = .ok (.lload_n 3, 1) := by decide +kernel
theorem dX6_findPair_34 : decode cX6_findPair 34 = .ok (.iload 6, 2) := by decide +kernel
theorem dX6_findPair_36 : decode cX6_findPair 36 = .ok (.i2l, 1) := by decide +kernel
theorem dX6_findPair_37 : decode cX6_findPair 37 = .ok (.lmul, 1) := by decide +kernel
theorem dX6_findPair_38 : decode cX6_findPair 38 = .ok (.iload 6, 2) := by decide +kernel
theorem dX6_findPair_40 : decode cX6_findPair 40 = .ok (.invokestatic 295, 3) := by decide +kernel
theorem dX6_findPair_43 : decode cX6_findPair 43 = .ok (.iastore, 1) := by decide +kernel
theorem dX6_findPair_44 : decode cX6_findPair 44 = .ok (.aload_n 0, 1) := by decide +kernel
theorem dX6_findPair_45 : decode cX6_findPair 45 = .ok (.getfield 55, 3) := by decide +kernel
theorem dX6_findPair_48 : decode cX6_findPair 48 = .ok (.iconst 2, 1) := by decide +kernel
theorem dX6_findPair_49 : decode cX6_findPair 49 = .ok (.iaload, 1) := by decide +kernel
theorem dX6_findPair_50 : decode cX6_findPair 50 = .ok (.ifCond .le 5, 3) := by decide +kernel
theorem dX6_findPair_53 : decode cX6_findPair 53 = .ok (.iconst 1, 1) := by decide +kernel
theorem dX6_findPair_54 : decode cX6_findPair 54 = .ok (.ireturn, 1) := by decide +kernel
theorem dX6_findPair_55 : decode cX6_findPair 55 = .ok (.iinc 6 1, 3) := by decide +kernel
theorem dX6_findPair_58 : decode cX6_findPair 58 = .ok (.goto (-52), 3) := by decide +kernel
theorem dX6_findPair_61 : decode cX6_findPair 61 = .ok (.iconst 0, 1) := by decide +kernel
theorem dX6_findPair_62 : decode cX6_findPair 62 = .ok (.ireturn, 1) := by decide +kernel
theorem dX6_lastUnit_0 : decode cX6_lastUnit 0 = .ok (.lload_n 0, 1) := by decide +kernel
theorem dX6_lastUnit_1 : decode cX6_lastUnit 1 = .ok (.lconst 0, 1) := by decide +kernel
theorem dX6_lastUnit_2 : decode cX6_lastUnit 2 = .ok (.lcmp, 1) := by decide +kernel
theorem dX6_lastUnit_3 : decode cX6_lastUnit 3 = .ok (.ifCond .le 11, 3) := by decide +kernel
theorem dX6_lastUnit_6 : decode cX6_lastUnit 6 = .ok (.lload_n 2, 1) := by decide +kernel
theorem dX6_lastUnit_7 : decode cX6_lastUnit 7 = .ok (.lload_n 0, 1) := by decide +kernel
theorem dX6_lastUnit_8 : decode cX6_lastUnit 8 = .ok (.lrem, 1) := by decide +kernel
theorem dX6_lastUnit_9 : decode cX6_lastUnit 9 = .ok (.lconst 0, 1) := by decide +kernel
theorem dX6_lastUnit_10 : decode cX6_lastUnit 10 = .ok (.lcmp, 1) := by decide +kernel
theorem dX6_lastUnit_11 : decode cX6_lastUnit 11 = .ok (.ifCond .eq 5, 3) := by decide +kernel
theorem dX6_lastUnit_14 : decode cX6_lastUnit 14 = .ok (.iconst 0, 1) := by decide +kernel
theorem dX6_lastUnit_15 : decode cX6_lastUnit 15 = .ok (.ireturn, 1) := by decide +kernel
theorem dX6_lastUnit_16 : decode cX6_lastUnit 16 = .ok (.lload_n 2, 1) := by decide +kernel
theorem dX6_lastUnit_17 : decode cX6_lastUnit 17 = .ok (.lload_n 0, 1) := by decide +kernel
theorem dX6_lastUnit_18 : decode cX6_lastUnit 18 = .ok (.ldiv, 1) := by decide +kernel
theorem dX6_lastUnit_19 : decode cX6_lastUnit 19 = .ok (.lstore 5, 2) := by decide +kernel
theorem dX6_lastUnit_21 : decode cX6_lastUnit 21 = .ok (.lload 5, 2) := by decide +kernel
theorem dX6_lastUnit_23 : decode cX6_lastUnit 23 = .ok (.iload 4, 2) := by decide +kernel
theorem dX6_lastUnit_25 : decode cX6_lastUnit 25 = .ok (.i2l, 1) := by decide +kernel
theorem dX6_lastUnit_26 : decode cX6_lastUnit 26 = .ok (.lcmp, 1) := by decide +kernel
theorem dX6_lastUnit_27 : decode cX6_lastUnit 27 = .ok (.ifCond .le 18, 3) := by decide +kernel
theorem dX6_lastUnit_30 : decode cX6_lastUnit 30 = .ok (.lload 5, 2) := by decide +kernel
theorem dX6_lastUnit_32 : decode cX6_lastUnit 32 = .ok (.ldc2_w 303, 3) := by decide +kernel
theorem dX6_lastUnit_35 : decode cX6_lastUnit 35 = .ok (.lcmp, 1) := by decide +kernel
theorem dX6_lastUnit_36 : decode cX6_lastUnit 36 = .ok (.ifCond .gt 9, 3) := by decide +kernel
theorem dX6_lastUnit_39 : decode cX6_lastUnit 39 = .ok (.lload 5, 2) := by decide +kernel
theorem dX6_lastUnit_41 : decode cX6_lastUnit 41 = .ok (.l2i, 1) := by decide +kernel
theorem dX6_lastUnit_42 : decode cX6_lastUnit 42 = .ok (.goto 4, 3) := by decide +kernel
theorem dX6_lastUnit_45 : decode cX6_lastUnit 45 = .ok (.iconst 0, 1) := by decide +kernel
theorem dX6_lastUnit_46 : decode cX6_lastUnit 46 = .ok (.ireturn, 1) := by decide +kernel
theorem dX6_othersAreAsSeen_0 : decode cX6_othersAreAsSeen 0 = .ok (.iconst 0, 1) := by decide +kernel
theorem dX6_othersAreAsSeen_1 : decode cX6_othersAreAsSeen 1 = .ok (.istore_n 2, 1) := by decide +kernel
theorem dX6_othersAreAsSeen_2 : decode cX6_othersAreAsSeen 2 = .ok (.iload_n 2, 1) := by decide +kernel
theorem dX6_othersAreAsSeen_3 : decode cX6_othersAreAsSeen 3 = .ok (.bipush 6, 2) := by decide +kernel
theorem dX6_othersAreAsSeen_5 : decode cX6_othersAreAsSeen 5 = .ok (.if_icmp .ge 56, 3) := by decide +kernel
theorem dX6_othersAreAsSeen_8 : decode cX6_othersAreAsSeen 8 = .ok (.iload_n 2, 1) := by decide +kernel
theorem dX6_othersAreAsSeen_9 : decode cX6_othersAreAsSeen 9 = .ok (.iload_n 1, 1) := by decide +kernel
theorem dX6_othersAreAsSeen_10 : decode cX6_othersAreAsSeen 10 = .ok (.if_icmp .eq 45, 3) := by decide +kernel
theorem dX6_othersAreAsSeen_13 : decode cX6_othersAreAsSeen 13 = .ok (.aload_n 0, 1) := by decide +kernel
theorem dX6_othersAreAsSeen_14 : decode cX6_othersAreAsSeen 14 = .ok (.getfield 12, 3) := by decide +kernel
theorem dX6_othersAreAsSeen_17 : decode cX6_othersAreAsSeen 17 = .ok (.getfield 76, 3) := by decide +kernel
theorem dX6_othersAreAsSeen_20 : decode cX6_othersAreAsSeen 20 = .ok (.iload_n 2, 1) := by decide +kernel
theorem dX6_othersAreAsSeen_21 : decode cX6_othersAreAsSeen 21 = .ok (.aaload, 1) := by decide +kernel
theorem dX6_othersAreAsSeen_22 : decode cX6_othersAreAsSeen 22 = .ok (.aload_n 0, 1) := by decide +kernel
theorem dX6_othersAreAsSeen_23 : decode cX6_othersAreAsSeen 23 = .ok (.getfield 12, 3) := by decide +kernel
theorem dX6_othersAreAsSeen_26 : decode cX6_othersAreAsSeen 26 = .ok (.getfield 76, 3) := by decide +kernel
theorem dX6_othersAreAsSeen_29 : decode cX6_othersAreAsSeen 29 = .ok (.iload_n 2, 1) := by decide +kernel
theorem dX6_othersAreAsSeen_30 : decode cX6_othersAreAsSeen 30 = .ok (.aaload, 1) := by decide +kernel
theorem dX6_othersAreAsSeen_31 : decode cX6_othersAreAsSeen 31 = .ok (.getfield 88, 3) := by decide +kernel
theorem dX6_othersAreAsSeen_34 : decode cX6_othersAreAsSeen 34 = .ok (.aload_n 0, 1) := by decide +kernel
theorem dX6_othersAreAsSeen_35 : decode cX6_othersAreAsSeen 35 = .ok (.getfield 44, 3) := by decide +kernel
theorem dX6_othersAreAsSeen_38 : decode cX6_othersAreAsSeen 38 = .ok (.invokevirtual 106, 3) := by decide +kernel
theorem dX6_othersAreAsSeen_41 : decode cX6_othersAreAsSeen 41 = .ok (.aload_n 0, 1) := by decide +kernel
theorem dX6_othersAreAsSeen_42 : decode cX6_othersAreAsSeen 42 = .ok (.iload_n 2, 1) := by decide +kernel
theorem dX6_othersAreAsSeen_43 : decode cX6_othersAreAsSeen 43 = .ok (.aload_n 0, 1) := by decide +kernel
theorem dX6_othersAreAsSeen_44 : decode cX6_othersAreAsSeen 44 = .ok (.getfield 44, 3) := by decide +kernel
theorem dX6_othersAreAsSeen_47 : decode cX6_othersAreAsSeen 47 = .ok (.invokevirtual 188, 3) := by decide +kernel
theorem dX6_othersAreAsSeen_50 : decode cX6_othersAreAsSeen 50 = .ok (.ifCond .ne 5, 3) := by decide +kernel
theorem dX6_othersAreAsSeen_53 : decode cX6_othersAreAsSeen 53 = .ok (.iconst 0, 1) := by decide +kernel
theorem dX6_othersAreAsSeen_54 : decode cX6_othersAreAsSeen 54 = .ok (.ireturn, 1) := by decide +kernel
theorem dX6_othersAreAsSeen_55 : decode cX6_othersAreAsSeen 55 = .ok (.iinc 2 1, 3) := by decide +kernel
theorem dX6_othersAreAsSeen_58 : decode cX6_othersAreAsSeen 58 = .ok (.goto (-56), 3) := by decide +kernel
theorem dX6_othersAreAsSeen_61 : decode cX6_othersAreAsSeen 61 = .ok (.iconst 1, 1) := by decide +kernel
theorem dX6_othersAreAsSeen_62 : decode cX6_othersAreAsSeen 62 = .ok (.ireturn, 1) := by decide +kernel
theorem dX6_isAsSeen_0 : decode cX6_isAsSeen 0 = .ok (.iconst 0, 1) := by decide +kernel
theorem dX6_isAsSeen_1 : decode cX6_isAsSeen 1 = .ok (.istore_n 3, 1) := by decide +kernel
theorem dX6_isAsSeen_2 : decode cX6_isAsSeen 2 = .ok (.iload_n 3, 1) := by decide +kernel
theorem dX6_isAsSeen_3 : decode cX6_isAsSeen 3 = .ok (.aload_n 0, 1) := by decide +kernel
theorem dX6_isAsSeen_4 : decode cX6_isAsSeen 4 = .ok (.getfield 12, 3) := by decide +kernel
theorem dX6_isAsSeen_7 : decode cX6_isAsSeen 7 = .ok (.getfield 173, 3) := by decide +kernel
theorem dX6_isAsSeen_10 : decode cX6_isAsSeen 10 = .ok (.getfield 213, 3) := by decide +kernel
theorem dX6_isAsSeen_13 : decode cX6_isAsSeen 13 = .ok (.if_icmp .ge 60, 3) := by decide +kernel
theorem dX6_isAsSeen_16 : decode cX6_isAsSeen 16 = .ok (.aload_n 0, 1) := by decide +kernel
theorem dX6_isAsSeen_17 : decode cX6_isAsSeen 17 = .ok (.getfield 12, 3) := by decide +kernel
theorem dX6_isAsSeen_20 : decode cX6_isAsSeen 20 = .ok (.getfield 173, 3) := by decide +kernel
theorem dX6_isAsSeen_23 : decode cX6_isAsSeen 23 = .ok (.getfield 217, 3) := by decide +kernel
theorem dX6_isAsSeen_26 : decode cX6_isAsSeen 26 = .ok (.iload_n 3, 1) := by decide +kernel
theorem dX6_isAsSeen_27 : decode cX6_isAsSeen 27 = .ok (.iaload, 1) := by decide +kernel
theorem dX6_isAsSeen_28 : decode cX6_isAsSeen 28 = .ok (.iload_n 1, 1) := by decide +kernel
theorem dX6_isAsSeen_29 : decode cX6_isAsSeen 29 = .ok (.if_icmp .ne 38, 3) := by decide +kernel
theorem dX6_isAsSeen_32 : decode cX6_isAsSeen 32 = .ok (.aload_n 2, 1) := by decide +kernel
theorem dX6_isAsSeen_33 : decode cX6_isAsSeen 33 = .ok (.aload_n 0, 1) := by decide +kernel
theorem dX6_isAsSeen_34 : decode cX6_isAsSeen 34 = .ok (.getfield 12, 3) := by decide +kernel
theorem dX6_isAsSeen_37 : decode cX6_isAsSeen 37 = .ok (.getfield 173, 3) := by decide +kernel
theorem dX6_isAsSeen_40 : decode cX6_isAsSeen 40 = .ok (.getfield 214, 3) := by decide +kernel
theorem dX6_isAsSeen_43 : decode cX6_isAsSeen 43 = .ok (.iload_n 3, 1) := by decide +kernel
theorem dX6_isAsSeen_44 : decode cX6_isAsSeen 44 = .ok (.iaload, 1) := by decide +kernel
theorem dX6_isAsSeen_45 : decode cX6_isAsSeen 45 = .ok (.i2l, 1) := by decide +kernel
theorem dX6_isAsSeen_46 : decode cX6_isAsSeen 46 = .ok (.aload_n 0, 1) := by decide +kernel
theorem dX6_isAsSeen_47 : decode cX6_isAsSeen 47 = .ok (.getfield 12, 3) := by decide +kernel
theorem dX6_isAsSeen_50 : decode cX6_isAsSeen 50 = .ok (.getfield 173, 3) := by decide +kernel
theorem dX6_isAsSeen_53 : decode cX6_isAsSeen 53 = .ok (.getfield 305, 3) := by decide +kernel
theorem dX6_isAsSeen_56 : decode cX6_isAsSeen 56 = .ok (.iload_n 3, 1) := by decide +kernel
theorem dX6_isAsSeen_57 : decode cX6_isAsSeen 57 = .ok (.iaload, 1) := by decide +kernel
theorem dX6_isAsSeen_58 : decode cX6_isAsSeen 58 = .ok (.i2l, 1) := by decide +kernel
theorem dX6_isAsSeen_59 : decode cX6_isAsSeen 59 = .ok (.invokevirtual 308, 3) := by decide +kernel
theorem dX6_isAsSeen_62 : decode cX6_isAsSeen 62 = .ok (.ifCond .ne 5, 3) := by decide +kernel
theorem dX6_isAsSeen_65 : decode cX6_isAsSeen 65 = .ok (.iconst 0, 1) := by decide +kernel
theorem dX6_isAsSeen_66 : decode cX6_isAsSeen 66 = .ok (.ireturn, 1) := by decide +kernel
theorem dX6_isAsSeen_67 : decode cX6_isAsSeen 67 = .ok (.iinc 3 1, 3) := by decide +kernel
theorem dX6_isAsSeen_70 : decode cX6_isAsSeen 70 = .ok (.goto (-68), 3) := by decide +kernel
theorem dX6_isAsSeen_73 : decode cX6_isAsSeen 73 = .ok (.iconst 1, 1) := by decide +kernel
theorem dX6_isAsSeen_74 : decode cX6_isAsSeen 74 = .ok (.ireturn, 1) := by decide +kernel
theorem dX6_countAbove_0 : decode cX6_countAbove 0 = .ok (.iconst 0, 1) := by decide +kernel
theorem dX6_countAbove_1 : decode cX6_countAbove 1 = .ok (.istore_n 3, 1) := by decide +kernel
theorem dX6_countAbove_2 : decode cX6_countAbove 2 = .ok (.iload_n 3, 1) := by decide +kernel
theorem dX6_countAbove_3 : decode cX6_countAbove 3 = .ok (.aload_n 2, 1) := by decide +kernel
theorem dX6_countAbove_4 : decode cX6_countAbove 4 = .ok (.getfield 88, 3) := by decide +kernel
theorem dX6_countAbove_7 : decode cX6_countAbove 7 = .ok (.if_icmp .ge 22, 3) := by decide +kernel
theorem dX6_countAbove_10 : decode cX6_countAbove 10 = .ok (.aload_n 2, 1) := by decide +kernel
theorem dX6_countAbove_11 : decode cX6_countAbove 11 = .ok (.iload_n 3, 1) := by decide +kernel
theorem dX6_countAbove_12 : decode cX6_countAbove 12 = .ok (.iconst 1, 1) := by decide +kernel
theorem dX6_countAbove_13 : decode cX6_countAbove 13 = .ok (.iadd, 1) := by decide +kernel
theorem dX6_countAbove_14 : decode cX6_countAbove 14 = .ok (.aload_n 0, 1) := by decide +kernel
theorem dX6_countAbove_15 : decode cX6_countAbove 15 = .ok (.getfield 51, 3) := by decide +kernel
theorem dX6_countAbove_18 : decode cX6_countAbove 18 = .ok (.iload_n 3, 1) := by decide +kernel
theorem dX6_countAbove_19 : decode cX6_countAbove 19 = .ok (.aaload, 1) := by decide +kernel
theorem dX6_countAbove_20 : decode cX6_countAbove 20 = .ok (.invokevirtual 106, 3) := by decide +kernel
theorem dX6_countAbove_23 : decode cX6_countAbove 23 = .ok (.iinc 3 1, 3) := by decide +kernel
theorem dX6_countAbove_26 : decode cX6_countAbove 26 = .ok (.goto (-24), 3) := by decide +kernel
theorem dX6_countAbove_29 : decode cX6_countAbove 29 = .ok (.iconst 0, 1) := by decide +kernel
theorem dX6_countAbove_30 : decode cX6_countAbove 30 = .ok (.istore_n 3, 1) := by decide +kernel
theorem dX6_countAbove_31 : decode cX6_countAbove 31 = .ok (.iconst 1, 1) := by decide +kernel
theorem dX6_countAbove_32 : decode cX6_countAbove 32 = .ok (.istore 4, 2) := by decide +kernel
theorem dX6_countAbove_34 : decode cX6_countAbove 34 = .ok (.iload 4, 2) := by decide +kernel
theorem dX6_countAbove_36 : decode cX6_countAbove 36 = .ok (.aload_n 1, 1) := by decide +kernel
theorem dX6_countAbove_37 : decode cX6_countAbove 37 = .ok (.getfield 88, 3) := by decide +kernel
theorem dX6_countAbove_40 : decode cX6_countAbove 40 = .ok (.if_icmp .gt 57, 3) := by decide +kernel
theorem dX6_countAbove_43 : decode cX6_countAbove 43 = .ok (.aload_n 1, 1) := by decide +kernel
theorem dX6_countAbove_44 : decode cX6_countAbove 44 = .ok (.iload 4, 2) := by decide +kernel
theorem dX6_countAbove_46 : decode cX6_countAbove 46 = .ok (.aload_n 0, 1) := by decide +kernel
theorem dX6_countAbove_47 : decode cX6_countAbove 47 = .ok (.getfield 44, 3) := by decide +kernel
theorem dX6_countAbove_50 : decode cX6_countAbove 50 = .ok (.invokevirtual 106, 3) := by decide +kernel
theorem dX6_countAbove_53 : decode cX6_countAbove 53 = .ok (.iconst 0, 1) := by decide +kernel
theorem dX6_countAbove_54 : decode cX6_countAbove 54 = .ok (.istore 5, 2) := by decide +kernel
theorem dX6_countAbove_56 : decode cX6_countAbove 56 = .ok (.iload 5, 2) := by decide +kernel
theorem dX6_countAbove_58 : decode cX6_countAbove 58 = .ok (.aload_n 2, 1) := by decide +kernel
theorem dX6_countAbove_59 : decode cX6_countAbove 59 = .ok (.getfield 88, 3) := by decide +kernel
theorem dX6_countAbove_62 : decode cX6_countAbove 62 = .ok (.if_icmp .ge 29, 3) := by decide +kernel
theorem dX6_countAbove_65 : decode cX6_countAbove 65 = .ok (.aload_n 0, 1) := by decide +kernel
theorem dX6_countAbove_66 : decode cX6_countAbove 66 = .ok (.getfield 44, 3) := by decide +kernel
theorem dX6_countAbove_69 : decode cX6_countAbove 69 = .ok (.aload_n 0, 1) := by decide +kernel
theorem dX6_countAbove_70 : decode cX6_countAbove 70 = .ok (.getfield 51, 3) := by decide +kernel
theorem dX6_countAbove_73 : decode cX6_countAbove 73 = .ok (.iload 5, 2) := by decide +kernel
theorem dX6_countAbove_75 : decode cX6_countAbove 75 = .ok (.aaload, 1) := by decide +kernel
theorem dX6_countAbove_76 : decode cX6_countAbove 76 = .ok (.invokevirtual 161, 3) := by decide +kernel
theorem dX6_countAbove_79 : decode cX6_countAbove 79 = .ok (.ifCond .eq 6, 3) := by decide +kernel
theorem dX6_countAbove_82 : decode cX6_countAbove 82 = .ok (.iinc 3 1, 3) := by decide +kernel
theorem dX6_countAbove_85 : decode cX6_countAbove 85 = .ok (.iinc 5 1, 3) := by decide +kernel
theorem dX6_countAbove_88 : decode cX6_countAbove 88 = .ok (.goto (-32), 3) := by decide +kernel
theorem dX6_countAbove_91 : decode cX6_countAbove 91 = .ok (.iinc 4 1, 3) := by decide +kernel
theorem dX6_countAbove_94 : decode cX6_countAbove 94 = .ok (.goto (-60), 3) := by decide +kernel
theorem dX6_countAbove_97 : decode cX6_countAbove 97 = .ok (.iload_n 3, 1) := by decide +kernel
theorem dX6_countAbove_98 : decode cX6_countAbove 98 = .ok (.ireturn, 1) := by decide +kernel
theorem dX6_isSpotNow_0 : decode cX6_isSpotNow 0 = .ok (.iload_n 1, 1) := by decide +kernel
theorem dX6_isSpotNow_1 : decode cX6_isSpotNow 1 = .ok (.ifCond .ge 5, 3) := by decide +kernel
theorem dX6_isSpotNow_4 : decode cX6_isSpotNow 4 = .ok (.iconst 0, 1) := by decide +kernel
theorem dX6_isSpotNow_5 : decode cX6_isSpotNow 5 = .ok (.ireturn, 1) := by decide +kernel
theorem dX6_isSpotNow_6 : decode cX6_isSpotNow 6 = .ok (.iload_n 1, 1) := by decide +kernel
theorem dX6_isSpotNow_7 : decode cX6_isSpotNow 7 = .ok (.bipush 100, 2) := by decide +kernel
theorem dX6_isSpotNow_9 : decode cX6_isSpotNow 9 = .ok (.idiv, 1) := by decide +kernel
theorem dX6_isSpotNow_10 : decode cX6_isSpotNow 10 = .ok (.istore_n 2, 1) := by decide +kernel
theorem dX6_isSpotNow_11 : decode cX6_isSpotNow 11 = .ok (.iload_n 2, 1) := by decide +kernel
theorem dX6_isSpotNow_12 : decode cX6_isSpotNow 12 = .ok (.invokestatic 60, 3) := by decide +kernel
theorem dX6_isSpotNow_15 : decode cX6_isSpotNow 15 = .ok (.ifCond .eq 26, 3) := by decide +kernel
theorem dX6_isSpotNow_18 : decode cX6_isSpotNow 18 = .ok (.iload_n 1, 1) := by decide +kernel
theorem dX6_isSpotNow_19 : decode cX6_isSpotNow 19 = .ok (.bipush 100, 2) := by decide +kernel
theorem dX6_isSpotNow_21 : decode cX6_isSpotNow 21 = .ok (.irem, 1) := by decide +kernel
theorem dX6_isSpotNow_22 : decode cX6_isSpotNow 22 = .ok (.aload_n 0, 1) := by decide +kernel
theorem dX6_isSpotNow_23 : decode cX6_isSpotNow 23 = .ok (.getfield 12, 3) := by decide +kernel
theorem dX6_isSpotNow_26 : decode cX6_isSpotNow 26 = .ok (.getfield 76, 3) := by decide +kernel
theorem dX6_isSpotNow_29 : decode cX6_isSpotNow 29 = .ok (.iload_n 2, 1) := by decide +kernel
theorem dX6_isSpotNow_30 : decode cX6_isSpotNow 30 = .ok (.aaload, 1) := by decide +kernel
theorem dX6_isSpotNow_31 : decode cX6_isSpotNow 31 = .ok (.getfield 88, 3) := by decide +kernel
theorem dX6_isSpotNow_34 : decode cX6_isSpotNow 34 = .ok (.if_icmp .ge 7, 3) := by decide +kernel
theorem dX6_isSpotNow_37 : decode cX6_isSpotNow 37 = .ok (.iconst 1, 1) := by decide +kernel
theorem dX6_isSpotNow_38 : decode cX6_isSpotNow 38 = .ok (.goto 4, 3) := by decide +kernel
theorem dX6_isSpotNow_41 : decode cX6_isSpotNow 41 = .ok (.iconst 0, 1) := by decide +kernel
theorem dX6_isSpotNow_42 : decode cX6_isSpotNow 42 = .ok (.ireturn, 1) := by decide +kernel
theorem dX6_numberAtSpot_0 : decode cX6_numberAtSpot 0 = .ok (.aload_n 0, 1) := by decide +kernel
theorem dX6_numberAtSpot_1 : decode cX6_numberAtSpot 1 = .ok (.iload_n 1, 1) := by decide +kernel
theorem dX6_numberAtSpot_2 : decode cX6_numberAtSpot 2 = .ok (.bipush 100, 2) := by decide +kernel
theorem dX6_numberAtSpot_4 : decode cX6_numberAtSpot 4 = .ok (.idiv, 1) := by decide +kernel
theorem dX6_numberAtSpot_5 : decode cX6_numberAtSpot 5 = .ok (.iload_n 1, 1) := by decide +kernel
theorem dX6_numberAtSpot_6 : decode cX6_numberAtSpot 6 = .ok (.bipush 100, 2) := by decide +kernel
theorem dX6_numberAtSpot_8 : decode cX6_numberAtSpot 8 = .ok (.irem, 1) := by decide +kernel
theorem dX6_numberAtSpot_9 : decode cX6_numberAtSpot 9 = .ok (.invokevirtual 312, 3) := by decide +kernel
theorem dX6_numberAtSpot_12 : decode cX6_numberAtSpot 12 = .ok (.ireturn, 1) := by decide +kernel
theorem dX7_init_0 : decode cX7_init 0 = .ok (.aload_n 0, 1) := by decide +kernel
theorem dX7_init_1 : decode cX7_init 1 = .ok (.invokespecial 3, 3) := by decide +kernel
theorem dX7_init_4 : decode cX7_init 4 = .ok (.aload_n 0, 1) := by decide +kernel
theorem dX7_init_5 : decode cX7_init 5 = .ok (.bipush 6, 2) := by decide +kernel
theorem dX7_init_7 : decode cX7_init 7 = .ok (.newarray .int, 2) := by decide +kernel
theorem dX7_init_9 : decode cX7_init 9 = .ok (.putfield 11, 3) := by decide +kernel
theorem dX7_init_12 : decode cX7_init 12 = .ok (.aload_n 0, 1) := by decide +kernel
theorem dX7_init_13 : decode cX7_init 13 = .ok (.bipush 6, 2) := by decide +kernel
theorem dX7_init_15 : decode cX7_init 15 = .ok (.newarray .int, 2) := by decide +kernel
theorem dX7_init_17 : decode cX7_init 17 = .ok (.putfield 15, 3) := by decide +kernel
theorem dX7_init_20 : decode cX7_init 20 = .ok (.aload_n 0, 1) := by decide +kernel
theorem dX7_init_21 : decode cX7_init 21 = .ok (.bipush 6, 2) := by decide +kernel
theorem dX7_init_23 : decode cX7_init 23 = .ok (.bipush 16, 2) := by decide +kernel
theorem dX7_init_25 : decode cX7_init 25 = .ok (.multianewarray 18 2, 4) := by decide +kernel
theorem dX7_init_29 : decode cX7_init 29 = .ok (.putfield 20, 3) := by decide +kernel
theorem dX7_init_32 : decode cX7_init 32 = .ok (.aload_n 0, 1) := by decide +kernel
theorem dX7_init_33 : decode cX7_init 33 = .ok (.bipush 100, 2) := by decide +kernel
theorem dX7_init_35 : decode cX7_init 35 = .ok (.newarray .byte, 2) := by decide +kernel
theorem dX7_init_37 : decode cX7_init 37 = .ok (.putfield 23, 3) := by decide +kernel
theorem dX7_init_40 : decode cX7_init 40 = .ok (.aload_n 0, 1) := by decide +kernel
theorem dX7_init_41 : decode cX7_init 41 = .ok (.bipush 12, 2) := by decide +kernel
theorem dX7_init_43 : decode cX7_init 43 = .ok (.newarray .int, 2) := by decide +kernel
theorem dX7_init_45 : decode cX7_init 45 = .ok (.putfield 27, 3) := by decide +kernel
theorem dX7_init_48 : decode cX7_init 48 = .ok (.aload_n 0, 1) := by decide +kernel
theorem dX7_init_49 : decode cX7_init 49 = .ok (.bipush 48, 2) := by decide +kernel
theorem dX7_init_51 : decode cX7_init 51 = .ok (.newarray .int, 2) := by decide +kernel
theorem dX7_init_53 : decode cX7_init 53 = .ok (.putfield 30, 3) := by decide +kernel
theorem dX7_init_56 : decode cX7_init 56 = .ok (.aload_n 0, 1) := by decide +kernel
theorem dX7_init_57 : decode cX7_init 57 = .ok (.sipush 178, 3) := by decide +kernel
theorem dX7_init_60 : decode cX7_init 60 = .ok (.newarray .byte, 2) := by decide +kernel
theorem dX7_init_62 : decode cX7_init 62 = .ok (.putfield 33, 3) := by decide +kernel
theorem dX7_init_65 : decode cX7_init 65 = .ok (.aload_n 0, 1) := by decide +kernel
theorem dX7_init_66 : decode cX7_init 66 = .ok (.iconst 3, 1) := by decide +kernel
theorem dX7_init_67 : decode cX7_init 67 = .ok (.newarray .int, 2) := by decide +kernel
theorem dX7_init_69 : decode cX7_init 69 = .ok (.putfield 36, 3) := by decide +kernel
theorem dX7_init_72 : decode cX7_init 72 = .ok (.aload_n 0, 1) := by decide +kernel
theorem dX7_init_73 : decode cX7_init 73 = .ok (.iconst 4, 1) := by decide +kernel
theorem dX7_init_74 : decode cX7_init 74 = .ok (.newarray .int, 2) := by decide +kernel
theorem dX7_init_76 : decode cX7_init 76 = .ok (.putfield 39, 3) := by decide +kernel
theorem dX7_init_79 : decode cX7_init 79 = .ok (.aload_n 0, 1) := by decide +kernel
theorem dX7_init_80 : decode cX7_init 80 = .ok (.iconst 4, 1) := by decide +kernel
theorem dX7_init_81 : decode cX7_init 81 = .ok (.newarray .int, 2) := by decide +kernel
theorem dX7_init_83 : decode cX7_init 83 = .ok (.putfield 42, 3) := by decide +kernel
theorem dX7_init_86 : decode cX7_init 86 = .ok (.aload_n 0, 1) := by decide +kernel
theorem dX7_init_87 : decode cX7_init 87 = .ok (.iconst 4, 1) := by decide +kernel
theorem dX7_init_88 : decode cX7_init 88 = .ok (.newarray .int, 2) := by decide +kernel
theorem dX7_init_90 : decode cX7_init 90 = .ok (.putfield 45, 3) := by decide +kernel
theorem dX7_init_93 : decode cX7_init 93 = .ok (.aload_n 0, 1) := by decide +kernel
theorem dX7_init_94 : decode cX7_init 94 = .ok (.bipush 8, 2) := by decide +kernel
theorem dX7_init_96 : decode cX7_init 96 = .ok (.newarray .int, 2) := by decide +kernel
theorem dX7_init_98 : decode cX7_init 98 = .ok (.putfield 48, 3) := by decide +kernel
theorem dX7_init_101 : decode cX7_init 101 = .ok (.aload_n 0, 1) := by decide +kernel
theorem dX7_init_102 : decode cX7_init 102 = .ok (.bipush 8, 2) := by decide +kernel
theorem dX7_init_104 : decode cX7_init 104 = .ok (.newarray .int, 2) := by decide +kernel
theorem dX7_init_106 : decode cX7_init 106 = .ok (.putfield 51, 3) := by decide +kernel
theorem dX7_init_109 : decode cX7_init 109 = .ok (.aload_n 0, 1) := by decide +kernel
theorem dX7_init_110 : decode cX7_init 110 = .ok (.bipush 16, 2) := by decide +kernel
theorem dX7_init_112 : decode cX7_init 112 = .ok (.newarray .int, 2) := by decide +kernel
theorem dX7_init_114 : decode cX7_init 114 = .ok (.putfield 54, 3) := by decide +kernel
theorem dX7_init_117 : decode cX7_init 117 = .ok (.aload_n 0, 1) := by decide +kernel
theorem dX7_init_118 : decode cX7_init 118 = .ok (.bipush 8, 2) := by decide +kernel
theorem dX7_init_120 : decode cX7_init 120 = .ok (.newarray .int, 2) := by decide +kernel
theorem dX7_init_122 : decode cX7_init 122 = .ok (.putfield 57, 3) := by decide +kernel
theorem dX7_init_125 : decode cX7_init 125 = .ok (.aload_n 0, 1) := by decide +kernel
theorem dX7_init_126 : decode cX7_init 126 = .ok (.bipush 8, 2) := by decide +kernel
theorem dX7_init_128 : decode cX7_init 128 = .ok (.newarray .int, 2) := by decide +kernel
theorem dX7_init_130 : decode cX7_init 130 = .ok (.putfield 60, 3) := by decide +kernel
theorem dX7_init_133 : decode cX7_init 133 = .ok (.aload_n 0, 1) := by decide +kernel
theorem dX7_init_134 : decode cX7_init 134 = .ok (.iconst 3, 1) := by decide +kernel
theorem dX7_init_135 : decode cX7_init 135 = .ok (.newarray .int, 2) := by decide +kernel
theorem dX7_init_137 : decode cX7_init 137 = .ok (.putfield 63, 3) := by decide +kernel
theorem dX7_init_140 : decode cX7_init 140 = .ok (.aload_n 0, 1) := by decide +kernel
theorem dX7_init_141 : decode cX7_init 141 = .ok (.bipush 6, 2) := by decide +kernel
theorem dX7_init_143 : decode cX7_init 143 = .ok (.newarray .int, 2) := by decide +kernel
theorem dX7_init_145 : decode cX7_init 145 = .ok (.putfield 66, 3) := by decide +kernel
theorem dX7_init_148 : decode cX7_init 148 = .ok (.aload_n 0, 1) := by decide +kernel
theorem dX7_init_149 : decode cX7_init 149 = .ok (.bipush 6, 2) := by decide +kernel
theorem dX7_init_151 : decode cX7_init 151 = .ok (.newarray .int, 2) := by decide +kernel
theorem dX7_init_153 : decode cX7_init 153 = .ok (.putfield 69, 3) := by decide +kernel
theorem dX7_init_156 : decode cX7_init 156 = .ok (.aload_n 0, 1) := by decide +kernel
theorem dX7_init_157 : decode cX7_init 157 = .ok (.bipush 6, 2) := by decide +kernel
theorem dX7_init_159 : decode cX7_init 159 = .ok (.bipush 16, 2) := by decide +kernel
theorem dX7_init_161 : decode cX7_init 161 = .ok (.multianewarray 18 2, 4) := by decide +kernel
theorem dX7_init_165 : decode cX7_init 165 = .ok (.putfield 72, 3) := by decide +kernel
theorem dX7_init_168 : decode cX7_init 168 = .ok (.aload_n 0, 1) := by decide +kernel
theorem dX7_init_169 : decode cX7_init 169 = .ok (.bipush 7, 2) := by decide +kernel
theorem dX7_init_171 : decode cX7_init 171 = .ok (.bipush 8, 2) := by decide +kernel
theorem dX7_init_173 : decode cX7_init 173 = .ok (.multianewarray 18 2, 4) := by decide +kernel
theorem dX7_init_177 : decode cX7_init 177 = .ok (.putfield 75, 3) := by decide +kernel
theorem dX7_init_180 : decode cX7_init 180 = .ok (.aload_n 0, 1) := by decide +kernel
theorem dX7_init_181 : decode cX7_init 181 = .ok (.bipush 6, 2) := by decide +kernel
theorem dX7_init_183 : decode cX7_init 183 = .ok (.newarray .int, 2) := by decide +kernel
theorem dX7_init_185 : decode cX7_init 185 = .ok (.putfield 78, 3) := by decide +kernel
theorem dX7_init_188 : decode cX7_init 188 = .ok (.aload_n 0, 1) := by decide +kernel
theorem dX7_init_189 : decode cX7_init 189 = .ok (.bipush 6, 2) := by decide +kernel
theorem dX7_init_191 : decode cX7_init 191 = .ok (.newarray .int, 2) := by decide +kernel
theorem dX7_init_193 : decode cX7_init 193 = .ok (.putfield 81, 3) := by decide +kernel
theorem dX7_init_196 : decode cX7_init 196 = .ok (.aload_n 0, 1) := by decide +kernel
theorem dX7_init_197 : decode cX7_init 197 = .ok (.bipush 6, 2) := by decide +kernel
theorem dX7_init_199 : decode cX7_init 199 = .ok (.bipush 60, 2) := by decide +kernel
theorem dX7_init_201 : decode cX7_init 201 = .ok (.multianewarray 84 2, 4) := by decide +kernel
theorem dX7_init_205 : decode cX7_init 205 = .ok (.putfield 86, 3) := by decide +kernel
theorem dX7_init_208 : decode cX7_init 208 = .ok (.iconst 0, 1) := by decide +kernel
theorem dX7_init_209 : decode cX7_init 209 = .ok (.istore_n 1, 1) := by decide +kernel
theorem dX7_init_210 : decode cX7_init 210 = .ok (.iload_n 1, 1) := by decide +kernel
theorem dX7_init_211 : decode cX7_init 211 = .ok (.bipush 6, 2) := by decide +kernel
theorem dX7_init_213 : decode cX7_init 213 = .ok (.if_icmp .ge 16, 3) := by decide +kernel
theorem dX7_init_216 : decode cX7_init 216 = .ok (.aload_n 0, 1) := by decide +kernel
theorem dX7_init_217 : decode cX7_init 217 = .ok (.getfield 78, 3) := by decide +kernel
theorem dX7_init_220 : decode cX7_init 220 = .ok (.iload_n 1, 1) := by decide +kernel
theorem dX7_init_221 : decode cX7_init 221 = .ok (.iconst (-1), 1) := by decide +kernel
theorem dX7_init_222 : decode cX7_init 222 = .ok (.iastore, 1) := by decide +kernel
theorem dX7_init_223 : decode cX7_init 223 = .ok (.iinc 1 1, 3) := by decide +kernel
theorem dX7_init_226 : decode cX7_init 226 = .ok (.goto (-16), 3) := by decide +kernel
theorem dX7_init_229 : decode cX7_init 229 = .ok (.return_, 1) := by decide +kernel
theorem dX7_in_0 : decode cX7_in 0 = .ok (.iload_n 0, 1) := by decide +kernel
theorem dX7_in_1 : decode cX7_in 1 = .ok (.iload_n 1, 1) := by decide +kernel
theorem dX7_in_2 : decode cX7_in 2 = .ok (.if_icmp .lt 12, 3) := by decide +kernel
theorem dX7_in_5 : decode cX7_in 5 = .ok (.iload_n 0, 1) := by decide +kernel
theorem dX7_in_6 : decode cX7_in 6 = .ok (.iload_n 2, 1) := by decide +kernel
theorem dX7_in_7 : decode cX7_in 7 = .ok (.if_icmp .gt 7, 3) := by decide +kernel
theorem dX7_in_10 : decode cX7_in 10 = .ok (.iconst 1, 1) := by decide +kernel
theorem dX7_in_11 : decode cX7_in 11 = .ok (.goto 4, 3) := by decide +kernel
theorem dX7_in_14 : decode cX7_in 14 = .ok (.iconst 0, 1) := by decide +kernel
theorem dX7_in_15 : decode cX7_in 15 = .ok (.ireturn, 1) := by decide +kernel
theorem dX7_isRow_0 : decode cX7_isRow 0 = .ok (.iload_n 0, 1) := by decide +kernel
theorem dX7_isRow_1 : decode cX7_isRow 1 = .ok (.iconst 0, 1) := by decide +kernel
theorem dX7_isRow_2 : decode cX7_isRow 2 = .ok (.iconst 5, 1) := by decide +kernel
theorem dX7_isRow_3 : decode cX7_isRow 3 = .ok (.invokestatic 89, 3) := by decide +kernel
theorem dX7_isRow_6 : decode cX7_isRow 6 = .ok (.ireturn, 1) := by decide +kernel
theorem dX7_isKind_0 : decode cX7_isKind 0 = .ok (.iload_n 0, 1) := by decide +kernel
theorem dX7_isKind_1 : decode cX7_isKind 1 = .ok (.iconst 0, 1) := by decide +kernel
theorem dX7_isKind_2 : decode cX7_isKind 2 = .ok (.iconst 3, 1) := by decide +kernel
theorem dX7_isKind_3 : decode cX7_isKind 3 = .ok (.invokestatic 89, 3) := by decide +kernel
theorem dX7_isKind_6 : decode cX7_isKind 6 = .ok (.ireturn, 1) := by decide +kernel
theorem dX7_common_0 : decode cX7_common 0 = .ok (.lload_n 2, 1) := by decide +kernel
theorem dX7_common_1 : decode cX7_common 1 = .ok (.lconst 0, 1) := by decide +kernel
theorem dX7_common_2 : decode cX7_common 2 = .ok (.lcmp, 1) := by decide +kernel
theorem dX7_common_3 : decode cX7_common 3 = .ok (.ifCond .ne 7, 3) := by decide +kernel
theorem dX7_common_6 : decode cX7_common 6 = .ok (.lload_n 0, 1) := by decide +kernel
theorem dX7_common_7 : decode cX7_common 7 = .ok (.goto 10, 3) := by decide +kernel
theorem dX7_common_10 : decode cX7_common 10 = .ok (.lload_n 2, 1) := by decide +kernel
theorem dX7_common_11 : decode cX7_common 11 = .ok (.lload_n 0, 1) := by decide +kernel
theorem dX7_common_12 : decode cX7_common 12 = .ok (.lload_n 2, 1) := by decide +kernel
theorem dX7_common_13 : decode cX7_common 13 = .ok (.lrem, 1) := by decide +kernel
theorem dX7_common_14 : decode cX7_common 14 = .ok (.invokestatic 93, 3) := by decide +kernel
theorem dX7_common_17 : decode cX7_common 17 = .ok (.lreturn, 1) := by decide +kernel
theorem dX7_lay_0 : decode cX7_lay 0 = .ok (.lload_n 3, 1) := by decide +kernel
theorem dX7_lay_1 : decode cX7_lay 1 = .ok (.lconst 0, 1) := by decide +kernel
theorem dX7_lay_2 : decode cX7_lay 2 = .ok (.lcmp, 1) := by decide +kernel
theorem dX7_lay_3 : decode cX7_lay 3 = .ok (.ifCond .ne 7, 3) := by decide +kernel
theorem dX7_lay_6 : decode cX7_lay 6 = .ok (.lconst 0, 1) := by decide +kernel
theorem dX7_lay_7 : decode cX7_lay 7 = .ok (.goto 11, 3) := by decide +kernel
theorem dX7_lay_10 : decode cX7_lay 10 = .ok (.lload_n 1, 1) := by decide +kernel
theorem dX7_lay_11 : decode cX7_lay 11 = .ok (.invokestatic 97, 3) := by decide +kernel
theorem dX7_lay_14 : decode cX7_lay 14 = .ok (.lload_n 3, 1) := by decide +kernel
theorem dX7_lay_15 : decode cX7_lay 15 = .ok (.invokestatic 93, 3) := by decide +kernel
theorem dX7_lay_18 : decode cX7_lay 18 = .ok (.lstore 5, 2) := by decide +kernel
theorem dX7_lay_20 : decode cX7_lay 20 = .ok (.aload_n 0, 1) := by decide +kernel
theorem dX7_lay_21 : decode cX7_lay 21 = .ok (.lload 5, 2) := by decide +kernel
theorem dX7_lay_23 : decode cX7_lay 23 = .ok (.lconst 0, 1) := by decide +kernel
theorem dX7_lay_24 : decode cX7_lay 24 = .ok (.lcmp, 1) := by decide +kernel
theorem dX7_lay_25 : decode cX7_lay 25 = .ok (.ifCond .ne 7, 3) := by decide +kernel
theorem dX7_lay_28 : decode cX7_lay 28 = .ok (.lconst 0, 1) := by decide +kernel
theorem dX7_lay_29 : decode cX7_lay 29 = .ok (.goto 7, 3) := by decide +kernel
theorem dX7_lay_32 : decode cX7_lay 32 = .ok (.lload_n 1, 1) := by decide +kernel
theorem dX7_lay_33 : decode cX7_lay 33 = .ok (.lload 5, 2) := by decide +kernel
theorem dX7_lay_35 : decode cX7_lay 35 = .ok (.ldiv, 1) := by decide +kernel
theorem dX7_lay_36 : decode cX7_lay 36 = .ok (.putfield 103, 3) := by decide +kernel
theorem dX7_lay_39 : decode cX7_lay 39 = .ok (.aload_n 0, 1) := by decide +kernel
theorem dX7_lay_40 : decode cX7_lay 40 = .ok (.lload 5, 2) := by decide +kernel
theorem dX7_lay_42 : decode cX7_lay 42 = .ok (.lconst 0, 1) := by decide +kernel
theorem dX7_lay_43 : decode cX7_lay 43 = .ok (.lcmp, 1) := by decide +kernel
theorem dX7_lay_44 : decode cX7_lay 44 = .ok (.ifCond .ne 7, 3) := by decide +kernel
theorem dX7_lay_47 : decode cX7_lay 47 = .ok (.lconst 0, 1) := by decide +kernel
theorem dX7_lay_48 : decode cX7_lay 48 = .ok (.goto 7, 3) := by decide +kernel
theorem dX7_lay_51 : decode cX7_lay 51 = .ok (.lload_n 3, 1) := by decide +kernel
theorem dX7_lay_52 : decode cX7_lay 52 = .ok (.lload 5, 2) := by decide +kernel
theorem dX7_lay_54 : decode cX7_lay 54 = .ok (.ldiv, 1) := by decide +kernel
theorem dX7_lay_55 : decode cX7_lay 55 = .ok (.putfield 107, 3) := by decide +kernel
theorem dX7_lay_58 : decode cX7_lay 58 = .ok (.aload_n 0, 1) := by decide +kernel
theorem dX7_lay_59 : decode cX7_lay 59 = .ok (.getfield 103, 3) := by decide +kernel
theorem dX7_lay_62 : decode cX7_lay 62 = .ok (.invokestatic 97, 3) := by decide +kernel
theorem dX7_lay_65 : decode cX7_lay 65 = .ok (.ldc2_w 110, 3) := by decide +kernel
theorem dX7_lay_68 : decode cX7_lay 68 = .ok (.lcmp, 1) := by decide +kernel
theorem dX7_lay_69 : decode cX7_lay 69 = .ok (.ifCond .gt 14, 3) := by decide +kernel
theorem dX7_lay_72 : decode cX7_lay 72 = .ok (.aload_n 0, 1) := by decide +kernel
theorem dX7_lay_73 : decode cX7_lay 73 = .ok (.getfield 107, 3) := by decide +kernel
theorem dX7_lay_76 : decode cX7_lay 76 = .ok (.ldc2_w 110, 3) := by decide +kernel
theorem dX7_lay_79 : decode cX7_lay 79 = .ok (.lcmp, 1) := by decide +kernel
theorem dX7_lay_80 : decode cX7_lay 80 = .ok (.ifCond .le 8, 3) := by decide +kernel
theorem dX7_lay_83 : decode cX7_lay 83 = .ok (.aload_n 0, 1) := by decide +kernel
theorem dX7_lay_84 : decode cX7_lay 84 = .ok (.lconst 0, 1) := by decide +kernel
theorem dX7_lay_85 : decode cX7_lay 85 = .ok (.putfield 107, 3) := by decide +kernel
theorem dX7_lay_88 : decode cX7_lay 88 = .ok (.return_, 1) := by decide +kernel
theorem dX7_isThere_0 : decode cX7_isThere 0 = .ok (.aload_n 0, 1) := by decide +kernel
theorem dX7_isThere_1 : decode cX7_isThere 1 = .ok (.getfield 107, 3) := by decide +kernel
theorem dX7_isThere_4 : decode cX7_isThere 4 = .ok (.lconst 0, 1) := by decide +kernel
theorem dX7_isThere_5 : decode cX7_isThere 5 = .ok (.lcmp, 1) := by decide +kernel
theorem dX7_isThere_6 : decode cX7_isThere 6 = .ok (.ifCond .eq 7, 3) := by decide +kernel
theorem dX7_isThere_9 : decode cX7_isThere 9 = .ok (.iconst 1, 1) := by decide +kernel
theorem dX7_isThere_10 : decode cX7_isThere 10 = .ok (.goto 4, 3) := by decide +kernel
theorem dX7_isThere_13 : decode cX7_isThere 13 = .ok (.iconst 0, 1) := by decide +kernel
theorem dX7_isThere_14 : decode cX7_isThere 14 = .ok (.ireturn, 1) := by decide +kernel
theorem dX7_plus_0 : decode cX7_plus 0 = .ok (.aload_n 0, 1) := by decide +kernel
theorem dX7_plus_1 : decode cX7_plus 1 = .ok (.invokevirtual 112, 3) := by decide +kernel
theorem dX7_plus_4 : decode cX7_plus 4 = .ok (.ifCond .eq 26, 3) := by decide +kernel
theorem dX7_plus_7 : decode cX7_plus 7 = .ok (.aload_n 0, 1) := by decide +kernel
theorem dX7_plus_8 : decode cX7_plus 8 = .ok (.aload_n 0, 1) := by decide +kernel
theorem dX7_plus_9 : decode cX7_plus 9 = .ok (.getfield 103, 3) := by decide +kernel
theorem dX7_plus_12 : decode cX7_plus 12 = .ok (.lload_n 3, 1) := by decide +kernel
theorem dX7_plus_13 : decode cX7_plus 13 = .ok (.lmul, 1) := by decide +kernel
theorem dX7_plus_14 : decode cX7_plus 14 = .ok (.lload_n 1, 1) := by decide +kernel
theorem dX7_plus_15 : decode cX7_plus 15 = .ok (.aload_n 0, 1) := by decide +kernel
theorem dX7_plus_16 : decode cX7_plus 16 = .ok (.getfield 107, 3) := by decide +kernel
theorem dX7_plus_19 : decode cX7_plus 19 = .ok (.lmul, 1) := by decide +kernel
theorem dX7_plus_20 : decode cX7_plus 20 = .ok (.ladd, 1) := by decide +kernel
theorem dX7_plus_21 : decode cX7_plus 21 = .ok (.aload_n 0, 1) := by decide +kernel
theorem dX7_plus_22 : decode cX7_plus 22 = .ok (.getfield 107, 3) := by decide +kernel
theorem dX7_plus_25 : decode cX7_plus 25 = .ok (.lload_n 3, 1) := by decide +kernel
theorem dX7_plus_26 : decode cX7_plus 26 = .ok (.lmul, 1) := by decide +kernel
theorem dX7_plus_27 : decode cX7_plus 27 = .ok (.invokevirtual 116, 3) := by decide +kernel
theorem dX7_plus_30 : decode cX7_plus 30 = .ok (.return_, 1) := by decide +kernel
theorem dX7_times_0 : decode cX7_times 0 = .ok (.aload_n 0, 1) := by decide +kernel
theorem dX7_times_1 : decode cX7_times 1 = .ok (.invokevirtual 112, 3) := by decide +kernel
theorem dX7_times_4 : decode cX7_times 4 = .ok (.ifCond .eq 19, 3) := by decide +kernel
theorem dX7_times_7 : decode cX7_times 7 = .ok (.aload_n 0, 1) := by decide +kernel
theorem dX7_times_8 : decode cX7_times 8 = .ok (.aload_n 0, 1) := by decide +kernel
theorem dX7_times_9 : decode cX7_times 9 = .ok (.getfield 103, 3) := by decide +kernel
theorem dX7_times_12 : decode cX7_times 12 = .ok (.lload_n 1, 1) := by decide +kernel
theorem dX7_times_13 : decode cX7_times 13 = .ok (.lmul, 1) := by decide +kernel
theorem dX7_times_14 : decode cX7_times 14 = .ok (.aload_n 0, 1) := by decide +kernel
theorem dX7_times_15 : decode cX7_times 15 = .ok (.getfield 107, 3) := by decide +kernel
theorem dX7_times_18 : decode cX7_times 18 = .ok (.lload_n 3, 1) := by decide +kernel
theorem dX7_times_19 : decode cX7_times 19 = .ok (.lmul, 1) := by decide +kernel
theorem dX7_times_20 : decode cX7_times 20 = .ok (.invokevirtual 116, 3) := by decide +kernel
theorem dX7_times_23 : decode cX7_times 23 = .ok (.return_, 1) := by decide +kernel
theorem dX7_turns_0 : decode cX7_turns 0 = .ok (.aload_n 0, 1) := by decide +kernel
theorem dX7_turns_1 : decode cX7_turns 1 = .ok (.aload_n 0, 1) := by decide +kernel
theorem dX7_turns_2 : decode cX7_turns 2 = .ok (.getfield 103, 3) := by decide +kernel
theorem dX7_turns_5 : decode cX7_turns 5 = .ok (.lneg, 1) := by decide +kernel
theorem dX7_turns_6 : decode cX7_turns 6 = .ok (.putfield 103, 3) := by decide +kernel
theorem dX7_turns_9 : decode cX7_turns 9 = .ok (.return_, 1) := by decide +kernel
theorem dX7_layWorth_0 : decode cX7_layWorth 0 = .ok (.aload_n 0, 1) := by decide +kernel
theorem dX7_layWorth_1 : decode cX7_layWorth 1 = .ok (.lconst 0, 1) := by decide +kernel
theorem dX7_layWorth_2 : decode cX7_layWorth 2 = .ok (.lconst 1, 1) := by decide +kernel
theorem dX7_layWorth_3 : decode cX7_layWorth 3 = .ok (.invokevirtual 116, 3) := by decide +kernel
theorem dX7_layWorth_6 : decode cX7_layWorth 6 = .ok (.iload_n 2, 1) := by decide +kernel
theorem dX7_layWorth_7 : decode cX7_layWorth 7 = .ok (.iconst 1, 1) := by decide +kernel
theorem dX7_layWorth_8 : decode cX7_layWorth 8 = .ok (.isub, 1) := by decide +kernel
theorem dX7_layWorth_9 : decode cX7_layWorth 9 = .ok (.istore_n 3, 1) := by decide +kernel
theorem dX7_layWorth_10 : decode cX7_layWorth 10 = .ok (.iload_n 3, 1) := by decide +kernel
theorem dX7_layWorth_11 : decode cX7_layWorth 11 = .ok (.ifCond .lt 127, 3) := by decide +kernel
theorem dX7_layWorth_14 : decode cX7_layWorth 14 = .ok (.aload_n 0, 1) := by decide +kernel
theorem dX7_layWorth_15 : decode cX7_layWorth 15 = .ok (.getfield 20, 3) := by decide +kernel
theorem dX7_layWorth_18 : decode cX7_layWorth 18 = .ok (.iload_n 1, 1) := by decide +kernel
theorem dX7_layWorth_19 : decode cX7_layWorth 19 = .ok (.aaload, 1) := by decide +kernel
theorem dX7_layWorth_20 : decode cX7_layWorth 20 = .ok (.iload_n 3, 1) := by decide +kernel
theorem dX7_layWorth_21 : decode cX7_layWorth 21 = .ok (.iaload, 1) := by decide +kernel
theorem dX7_layWorth_22 : decode cX7_layWorth 22 = .ok (.istore 4, 2) := by decide +kernel
theorem dX7_layWorth_24 : decode cX7_layWorth 24 = .ok (.aload_n 0, 1) := by decide +kernel
theorem dX7_layWorth_25 : decode cX7_layWorth 25 = .ok (.getfield 11, 3) := by decide +kernel
theorem dX7_layWorth_28 : decode cX7_layWorth 28 = .ok (.iload_n 1, 1) := by decide +kernel
theorem dX7_layWorth_29 : decode cX7_layWorth 29 = .ok (.iaload, 1) := by decide +kernel
theorem dX7_layWorth_30 : decode cX7_layWorth 30 = .ok (.tableswitch 85 0 2 #[26, 47, 64], 26) := by decide +kernel
theorem dX7_layWorth_56 : decode cX7_layWorth 56 = .ok (.iload 4, 2) := by decide +kernel
theorem dX7_layWorth_58 : decode cX7_layWorth 58 = .ok (.ifCond .ne 8, 3) := by decide +kernel
theorem dX7_layWorth_61 : decode cX7_layWorth 61 = .ok (.aload_n 0, 1) := by decide +kernel
theorem dX7_layWorth_62 : decode cX7_layWorth 62 = .ok (.lconst 0, 1) := by decide +kernel
theorem dX7_layWorth_63 : decode cX7_layWorth 63 = .ok (.putfield 107, 3) := by decide +kernel
theorem dX7_layWorth_66 : decode cX7_layWorth 66 = .ok (.aload_n 0, 1) := by decide +kernel
theorem dX7_layWorth_67 : decode cX7_layWorth 67 = .ok (.lconst 1, 1) := by decide +kernel
theorem dX7_layWorth_68 : decode cX7_layWorth 68 = .ok (.iload 4, 2) := by decide +kernel
theorem dX7_layWorth_70 : decode cX7_layWorth 70 = .ok (.i2l, 1) := by decide +kernel
theorem dX7_layWorth_71 : decode cX7_layWorth 71 = .ok (.invokevirtual 120, 3) := by decide +kernel
theorem dX7_layWorth_74 : decode cX7_layWorth 74 = .ok (.goto 58, 3) := by decide +kernel
theorem dX7_layWorth_77 : decode cX7_layWorth 77 = .ok (.aload_n 0, 1) := by decide +kernel
theorem dX7_layWorth_78 : decode cX7_layWorth 78 = .ok (.lconst 1, 1) := by decide +kernel
theorem dX7_layWorth_79 : decode cX7_layWorth 79 = .ok (.lconst 1, 1) := by decide +kernel
theorem dX7_layWorth_80 : decode cX7_layWorth 80 = .ok (.invokevirtual 120, 3) := by decide +kernel
theorem dX7_layWorth_83 : decode cX7_layWorth 83 = .ok (.aload_n 0, 1) := by decide +kernel
theorem dX7_layWorth_84 : decode cX7_layWorth 84 = .ok (.lconst 1, 1) := by decide +kernel
theorem dX7_layWorth_85 : decode cX7_layWorth 85 = .ok (.iload 4, 2) := by decide +kernel
theorem dX7_layWorth_87 : decode cX7_layWorth 87 = .ok (.i2l, 1) := by decide +kernel
theorem dX7_layWorth_88 : decode cX7_layWorth 88 = .ok (.invokevirtual 123, 3) := by decide +kernel
theorem dX7_layWorth_91 : decode cX7_layWorth 91 = .ok (.goto 41, 3) := by decide +kernel
theorem dX7_layWorth_94 : decode cX7_layWorth 94 = .ok (.aload_n 0, 1) := by decide +kernel
theorem dX7_layWorth_95 : decode cX7_layWorth 95 = .ok (.invokevirtual 126, 3) := by decide +kernel
theorem dX7_layWorth_98 : decode cX7_layWorth 98 = .ok (.aload_n 0, 1) := by decide +kernel
theorem dX7_layWorth_99 : decode cX7_layWorth 99 = .ok (.lconst 1, 1) := by decide +kernel
theorem dX7_layWorth_100 : decode cX7_layWorth 100 = .ok (.lconst 1, 1) := by decide +kernel
theorem dX7_layWorth_101 : decode cX7_layWorth 101 = .ok (.invokevirtual 120, 3) := by decide +kernel
theorem dX7_layWorth_104 : decode cX7_layWorth 104 = .ok (.aload_n 0, 1) := by decide +kernel
theorem dX7_layWorth_105 : decode cX7_layWorth 105 = .ok (.lconst 1, 1) := by decide +kernel
theorem dX7_layWorth_106 : decode cX7_layWorth 106 = .ok (.iload 4, 2) := by decide +kernel
theorem dX7_layWorth_108 : decode cX7_layWorth 108 = .ok (.i2l, 1) := by decide +kernel
theorem dX7_layWorth_109 : decode cX7_layWorth 109 = .ok (.invokevirtual 123, 3) := by decide +kernel
theorem dX7_layWorth_112 : decode cX7_layWorth 112 = .ok (.goto 20, 3) := by decide +kernel
theorem dX7_layWorth_115 : decode cX7_layWorth 115 = .ok (.aload_n 0, 1) := by decide +kernel
theorem dX7_layWorth_116 : decode cX7_layWorth 116 = .ok (.iload 4, 2) := by decide +kernel
theorem dX7_layWorth_118 : decode cX7_layWorth 118 = .ok (.i2l, 1) := by decide +kernel
theorem dX7_layWorth_119 : decode cX7_layWorth 119 = .ok (.lconst 1, 1) := by decide +kernel
theorem dX7_layWorth_120 : decode cX7_layWorth 120 = .ok (.invokevirtual 120, 3) := by decide +kernel
theorem dX7_layWorth_123 : decode cX7_layWorth 123 = .ok (.aload_n 0, 1) := by decide +kernel
theorem dX7_layWorth_124 : decode cX7_layWorth 124 = .ok (.lconst 1, 1) := by decide +kernel
theorem dX7_layWorth_125 : decode cX7_layWorth 125 = .ok (.iload_n 3, 1) := by decide +kernel
theorem dX7_layWorth_126 : decode cX7_layWorth 126 = .ok (.iconst 2, 1) := by decide +kernel
theorem dX7_layWorth_127 : decode cX7_layWorth 127 = .ok (.iadd, 1) := by decide +kernel
theorem dX7_layWorth_128 : decode cX7_layWorth 128 = .ok (.i2l, 1) := by decide +kernel
theorem dX7_layWorth_129 : decode cX7_layWorth 129 = .ok (.invokevirtual 123, 3) := by decide +kernel
theorem dX7_layWorth_132 : decode cX7_layWorth 132 = .ok (.iinc 3 (-1), 3) := by decide +kernel
theorem dX7_layWorth_135 : decode cX7_layWorth 135 = .ok (.goto (-125), 3) := by decide +kernel
theorem dX7_layWorth_138 : decode cX7_layWorth 138 = .ok (.return_, 1) := by decide +kernel
theorem dX7_goesUp_0 : decode cX7_goesUp 0 = .ok (.aload_n 0, 1) := by decide +kernel
theorem dX7_goesUp_1 : decode cX7_goesUp 1 = .ok (.getfield 107, 3) := by decide +kernel
theorem dX7_goesUp_4 : decode cX7_goesUp 4 = .ok (.aload_n 0, 1) := by decide +kernel
theorem dX7_goesUp_5 : decode cX7_goesUp 5 = .ok (.getfield 103, 3) := by decide +kernel
theorem dX7_goesUp_8 : decode cX7_goesUp 8 = .ok (.ladd, 1) := by decide +kernel
theorem dX7_goesUp_9 : decode cX7_goesUp 9 = .ok (.lconst 1, 1) := by decide +kernel
theorem dX7_goesUp_10 : decode cX7_goesUp 10 = .ok (.lsub, 1) := by decide +kernel
theorem dX7_goesUp_11 : decode cX7_goesUp 11 = .ok (.aload_n 0, 1) := by decide +kernel
theorem dX7_goesUp_12 : decode cX7_goesUp 12 = .ok (.getfield 103, 3) := by decide +kernel
theorem dX7_goesUp_15 : decode cX7_goesUp 15 = .ok (.ldiv, 1) := by decide +kernel
theorem dX7_goesUp_16 : decode cX7_goesUp 16 = .ok (.lreturn, 1) := by decide +kernel
theorem dX7_spreads_0 : decode cX7_spreads 0 = .ok (.iconst 0, 1) := by decide +kernel
theorem dX7_spreads_1 : decode cX7_spreads 1 = .ok (.istore_n 2, 1) := by decide +kernel
theorem dX7_spreads_2 : decode cX7_spreads 2 = .ok (.iconst 1, 1) := by decide +kernel
theorem dX7_spreads_3 : decode cX7_spreads 3 = .ok (.istore_n 3, 1) := by decide +kernel
theorem dX7_spreads_4 : decode cX7_spreads 4 = .ok (.iload_n 3, 1) := by decide +kernel
theorem dX7_spreads_5 : decode cX7_spreads 5 = .ok (.ifCond .eq 270, 3) := by decide +kernel
theorem dX7_spreads_8 : decode cX7_spreads 8 = .ok (.aload_n 0, 1) := by decide +kernel
theorem dX7_spreads_9 : decode cX7_spreads 9 = .ok (.getfield 103, 3) := by decide +kernel
theorem dX7_spreads_12 : decode cX7_spreads 12 = .ok (.lconst 0, 1) := by decide +kernel
theorem dX7_spreads_13 : decode cX7_spreads 13 = .ok (.lcmp, 1) := by decide +kernel
theorem dX7_spreads_14 : decode cX7_spreads 14 = .ok (.ifCond .eq 261, 3) := by decide +kernel
theorem dX7_spreads_17 : decode cX7_spreads 17 = .ok (.iload_n 2, 1) := by decide +kernel
theorem dX7_spreads_18 : decode cX7_spreads 18 = .ok (.bipush 16, 2) := by decide +kernel
theorem dX7_spreads_20 : decode cX7_spreads 20 = .ok (.if_icmp .ge 255, 3) := by decide +kernel
theorem dX7_spreads_23 : decode cX7_spreads 23 = .ok (.aload_n 0, 1) := by decide +kernel
theorem dX7_spreads_24 : decode cX7_spreads 24 = .ok (.getfield 103, 3) := by decide +kernel
theorem dX7_spreads_27 : decode cX7_spreads 27 = .ok (.lstore 6, 2) := by decide +kernel
theorem dX7_spreads_29 : decode cX7_spreads 29 = .ok (.aload_n 0, 1) := by decide +kernel
theorem dX7_spreads_30 : decode cX7_spreads 30 = .ok (.getfield 107, 3) := by decide +kernel
theorem dX7_spreads_33 : decode cX7_spreads 33 = .ok (.lstore 8, 2) := by decide +kernel
theorem dX7_spreads_35 : decode cX7_spreads 35 = .ok (.aload_n 0, 1) := by decide +kernel
theorem dX7_spreads_36 : decode cX7_spreads 36 = .ok (.getfield 11, 3) := by decide +kernel
theorem dX7_spreads_39 : decode cX7_spreads 39 = .ok (.iload_n 1, 1) := by decide +kernel
theorem dX7_spreads_40 : decode cX7_spreads 40 = .ok (.iaload, 1) := by decide +kernel
theorem dX7_spreads_41 : decode cX7_spreads 41 = .ok (.tableswitch 135 0 2 #[27, 54, 92], 27) := by decide +kernel
theorem dX7_spreads_68 : decode cX7_spreads 68 = .ok (.aload_n 0, 1) := by decide +kernel
theorem dX7_spreads_69 : decode cX7_spreads 69 = .ok (.invokevirtual 129, 3) := by decide +kernel
theorem dX7_spreads_72 : decode cX7_spreads 72 = .ok (.lstore 4, 2) := by decide +kernel
theorem dX7_spreads_74 : decode cX7_spreads 74 = .ok (.lload 4, 2) := by decide +kernel
theorem dX7_spreads_76 : decode cX7_spreads 76 = .ok (.ldc2_w 110, 3) := by decide +kernel
theorem dX7_spreads_79 : decode cX7_spreads 79 = .ok (.lcmp, 1) := by decide +kernel
theorem dX7_spreads_80 : decode cX7_spreads 80 = .ok (.ifCond .gt 137, 3) := by decide +kernel
theorem dX7_spreads_83 : decode cX7_spreads 83 = .ok (.aload_n 0, 1) := by decide +kernel
theorem dX7_spreads_84 : decode cX7_spreads 84 = .ok (.ldc2_w 133, 3) := by decide +kernel
theorem dX7_spreads_87 : decode cX7_spreads 87 = .ok (.lload 4, 2) := by decide +kernel
theorem dX7_spreads_89 : decode cX7_spreads 89 = .ok (.invokevirtual 120, 3) := by decide +kernel
theorem dX7_spreads_92 : decode cX7_spreads 92 = .ok (.goto 125, 3) := by decide +kernel
theorem dX7_spreads_95 : decode cX7_spreads 95 = .ok (.aload_n 0, 1) := by decide +kernel
theorem dX7_spreads_96 : decode cX7_spreads 96 = .ok (.invokevirtual 129, 3) := by decide +kernel
theorem dX7_spreads_99 : decode cX7_spreads 99 = .ok (.lstore 4, 2) := by decide +kernel
theorem dX7_spreads_101 : decode cX7_spreads 101 = .ok (.lload 4, 2) := by decide +kernel
theorem dX7_spreads_103 : decode cX7_spreads 103 = .ok (.ldc2_w 110, 3) := by decide +kernel
theorem dX7_spreads_106 : decode cX7_spreads 106 = .ok (.lcmp, 1) := by decide +kernel
theorem dX7_spreads_107 : decode cX7_spreads 107 = .ok (.ifCond .gt 110, 3) := by decide +kernel
theorem dX7_spreads_110 : decode cX7_spreads 110 = .ok (.aload_n 0, 1) := by decide +kernel
theorem dX7_spreads_111 : decode cX7_spreads 111 = .ok (.aload_n 0, 1) := by decide +kernel
theorem dX7_spreads_112 : decode cX7_spreads 112 = .ok (.getfield 103, 3) := by decide +kernel
theorem dX7_spreads_115 : decode cX7_spreads 115 = .ok (.lload 4, 2) := by decide +kernel
theorem dX7_spreads_117 : decode cX7_spreads 117 = .ok (.lmul, 1) := by decide +kernel
theorem dX7_spreads_118 : decode cX7_spreads 118 = .ok (.aload_n 0, 1) := by decide +kernel
theorem dX7_spreads_119 : decode cX7_spreads 119 = .ok (.getfield 107, 3) := by decide +kernel
theorem dX7_spreads_122 : decode cX7_spreads 122 = .ok (.lsub, 1) := by decide +kernel
theorem dX7_spreads_123 : decode cX7_spreads 123 = .ok (.aload_n 0, 1) := by decide +kernel
theorem dX7_spreads_124 : decode cX7_spreads 124 = .ok (.getfield 107, 3) := by decide +kernel
theorem dX7_spreads_127 : decode cX7_spreads 127 = .ok (.invokevirtual 116, 3) := by decide +kernel
theorem dX7_spreads_130 : decode cX7_spreads 130 = .ok (.goto 87, 3) := by decide +kernel
theorem dX7_spreads_133 : decode cX7_spreads 133 = .ok (.aload_n 0, 1) := by decide +kernel
theorem dX7_spreads_134 : decode cX7_spreads 134 = .ok (.getfield 107, 3) := by decide +kernel
theorem dX7_spreads_137 : decode cX7_spreads 137 = .ok (.aload_n 0, 1) := by decide +kernel
theorem dX7_spreads_138 : decode cX7_spreads 138 = .ok (.getfield 103, 3) := by decide +kernel
theorem dX7_spreads_141 : decode cX7_spreads 141 = .ok (.ldiv, 1) := by decide +kernel
theorem dX7_spreads_142 : decode cX7_spreads 142 = .ok (.lstore 4, 2) := by decide +kernel
theorem dX7_spreads_144 : decode cX7_spreads 144 = .ok (.lload 4, 2) := by decide +kernel
theorem dX7_spreads_146 : decode cX7_spreads 146 = .ok (.ldc2_w 110, 3) := by decide +kernel
theorem dX7_spreads_149 : decode cX7_spreads 149 = .ok (.lcmp, 1) := by decide +kernel
theorem dX7_spreads_150 : decode cX7_spreads 150 = .ok (.ifCond .gt 67, 3) := by decide +kernel
theorem dX7_spreads_153 : decode cX7_spreads 153 = .ok (.aload_n 0, 1) := by decide +kernel
theorem dX7_spreads_154 : decode cX7_spreads 154 = .ok (.aload_n 0, 1) := by decide +kernel
theorem dX7_spreads_155 : decode cX7_spreads 155 = .ok (.getfield 107, 3) := by decide +kernel
theorem dX7_spreads_158 : decode cX7_spreads 158 = .ok (.aload_n 0, 1) := by decide +kernel
theorem dX7_spreads_159 : decode cX7_spreads 159 = .ok (.getfield 103, 3) := by decide +kernel
theorem dX7_spreads_162 : decode cX7_spreads 162 = .ok (.lload 4, 2) := by decide +kernel
theorem dX7_spreads_164 : decode cX7_spreads 164 = .ok (.lmul, 1) := by decide +kernel
theorem dX7_spreads_165 : decode cX7_spreads 165 = .ok (.lsub, 1) := by decide +kernel
theorem dX7_spreads_166 : decode cX7_spreads 166 = .ok (.aload_n 0, 1) := by decide +kernel
theorem dX7_spreads_167 : decode cX7_spreads 167 = .ok (.getfield 107, 3) := by decide +kernel
theorem dX7_spreads_170 : decode cX7_spreads 170 = .ok (.invokevirtual 116, 3) := by decide +kernel
theorem dX7_spreads_173 : decode cX7_spreads 173 = .ok (.goto 44, 3) := by decide +kernel
theorem dX7_spreads_176 : decode cX7_spreads 176 = .ok (.aload_n 0, 1) := by decide +kernel
theorem dX7_spreads_177 : decode cX7_spreads 177 = .ok (.getfield 103, 3) := by decide +kernel
theorem dX7_spreads_180 : decode cX7_spreads 180 = .ok (.iload_n 2, 1) := by decide +kernel
theorem dX7_spreads_181 : decode cX7_spreads 181 = .ok (.iconst 2, 1) := by decide +kernel
theorem dX7_spreads_182 : decode cX7_spreads 182 = .ok (.iadd, 1) := by decide +kernel
theorem dX7_spreads_183 : decode cX7_spreads 183 = .ok (.i2l, 1) := by decide +kernel
theorem dX7_spreads_184 : decode cX7_spreads 184 = .ok (.lmul, 1) := by decide +kernel
theorem dX7_spreads_185 : decode cX7_spreads 185 = .ok (.aload_n 0, 1) := by decide +kernel
theorem dX7_spreads_186 : decode cX7_spreads 186 = .ok (.getfield 107, 3) := by decide +kernel
theorem dX7_spreads_189 : decode cX7_spreads 189 = .ok (.ldiv, 1) := by decide +kernel
theorem dX7_spreads_190 : decode cX7_spreads 190 = .ok (.lstore 4, 2) := by decide +kernel
theorem dX7_spreads_192 : decode cX7_spreads 192 = .ok (.aload_n 0, 1) := by decide +kernel
theorem dX7_spreads_193 : decode cX7_spreads 193 = .ok (.aload_n 0, 1) := by decide +kernel
theorem dX7_spreads_194 : decode cX7_spreads 194 = .ok (.getfield 103, 3) := by decide +kernel
theorem dX7_spreads_197 : decode cX7_spreads 197 = .ok (.iload_n 2, 1) := by decide +kernel
theorem dX7_spreads_198 : decode cX7_spreads 198 = .ok (.iconst 2, 1) := by decide +kernel
theorem dX7_spreads_199 : decode cX7_spreads 199 = .ok (.iadd, 1) := by decide +kernel
theorem dX7_spreads_200 : decode cX7_spreads 200 = .ok (.i2l, 1) := by decide +kernel
theorem dX7_spreads_201 : decode cX7_spreads 201 = .ok (.lmul, 1) := by decide +kernel
theorem dX7_spreads_202 : decode cX7_spreads 202 = .ok (.lload 4, 2) := by decide +kernel
theorem dX7_spreads_204 : decode cX7_spreads 204 = .ok (.aload_n 0, 1) := by decide +kernel
theorem dX7_spreads_205 : decode cX7_spreads 205 = .ok (.getfield 107, 3) := by decide +kernel
theorem dX7_spreads_208 : decode cX7_spreads 208 = .ok (.lmul, 1) := by decide +kernel
theorem dX7_spreads_209 : decode cX7_spreads 209 = .ok (.lsub, 1) := by decide +kernel
theorem dX7_spreads_210 : decode cX7_spreads 210 = .ok (.aload_n 0, 1) := by decide +kernel
theorem dX7_spreads_211 : decode cX7_spreads 211 = .ok (.getfield 107, 3) := by decide +kernel
theorem dX7_spreads_214 : decode cX7_spreads 214 = .ok (.invokevirtual 116, 3) := by decide +kernel
theorem dX7_spreads_217 : decode cX7_spreads 217 = .ok (.lload 4, 2) := by decide +kernel
theorem dX7_spreads_219 : decode cX7_spreads 219 = .ok (.ldc2_w 110, 3) := by decide +kernel
theorem dX7_spreads_222 : decode cX7_spreads 222 = .ok (.lcmp, 1) := by decide +kernel
theorem dX7_spreads_223 : decode cX7_spreads 223 = .ok (.ifCond .gt 14, 3) := by decide +kernel
theorem dX7_spreads_226 : decode cX7_spreads 226 = .ok (.aload_n 0, 1) := by decide +kernel
theorem dX7_spreads_227 : decode cX7_spreads 227 = .ok (.invokevirtual 112, 3) := by decide +kernel
theorem dX7_spreads_230 : decode cX7_spreads 230 = .ok (.ifCond .eq 7, 3) := by decide +kernel
theorem dX7_spreads_233 : decode cX7_spreads 233 = .ok (.iconst 1, 1) := by decide +kernel
theorem dX7_spreads_234 : decode cX7_spreads 234 = .ok (.goto 4, 3) := by decide +kernel
theorem dX7_spreads_237 : decode cX7_spreads 237 = .ok (.iconst 0, 1) := by decide +kernel
theorem dX7_spreads_238 : decode cX7_spreads 238 = .ok (.istore_n 3, 1) := by decide +kernel
theorem dX7_spreads_239 : decode cX7_spreads 239 = .ok (.iload_n 3, 1) := by decide +kernel
theorem dX7_spreads_240 : decode cX7_spreads 240 = .ok (.ifCond .eq 20, 3) := by decide +kernel
theorem dX7_spreads_243 : decode cX7_spreads 243 = .ok (.aload_n 0, 1) := by decide +kernel
theorem dX7_spreads_244 : decode cX7_spreads 244 = .ok (.getfield 20, 3) := by decide +kernel
theorem dX7_spreads_247 : decode cX7_spreads 247 = .ok (.iload_n 1, 1) := by decide +kernel
theorem dX7_spreads_248 : decode cX7_spreads 248 = .ok (.aaload, 1) := by decide +kernel
theorem dX7_spreads_249 : decode cX7_spreads 249 = .ok (.iload_n 2, 1) := by decide +kernel
theorem dX7_spreads_250 : decode cX7_spreads 250 = .ok (.lload 4, 2) := by decide +kernel
theorem dX7_spreads_252 : decode cX7_spreads 252 = .ok (.l2i, 1) := by decide +kernel
theorem dX7_spreads_253 : decode cX7_spreads 253 = .ok (.iastore, 1) := by decide +kernel
theorem dX7_spreads_254 : decode cX7_spreads 254 = .ok (.iinc 2 1, 3) := by decide +kernel
theorem dX7_spreads_257 : decode cX7_spreads 257 = .ok (.goto 15, 3) := by decide +kernel
theorem dX7_spreads_260 : decode cX7_spreads 260 = .ok (.aload_n 0, 1) := by decide +kernel
theorem dX7_spreads_261 : decode cX7_spreads 261 = .ok (.lload 6, 2) := by decide +kernel
theorem dX7_spreads_263 : decode cX7_spreads 263 = .ok (.putfield 103, 3) := by decide +kernel
theorem dX7_spreads_266 : decode cX7_spreads 266 = .ok (.aload_n 0, 1) := by decide +kernel
theorem dX7_spreads_267 : decode cX7_spreads 267 = .ok (.lload 8, 2) := by decide +kernel
theorem dX7_spreads_269 : decode cX7_spreads 269 = .ok (.putfield 107, 3) := by decide +kernel
theorem dX7_spreads_272 : decode cX7_spreads 272 = .ok (.goto (-268), 3) := by decide +kernel
theorem dX7_spreads_275 : decode cX7_spreads 275 = .ok (.aload_n 0, 1) := by decide +kernel
theorem dX7_spreads_276 : decode cX7_spreads 276 = .ok (.getfield 15, 3) := by decide +kernel
theorem dX7_spreads_279 : decode cX7_spreads 279 = .ok (.iload_n 1, 1) := by decide +kernel
theorem dX7_spreads_280 : decode cX7_spreads 280 = .ok (.iload_n 2, 1) := by decide +kernel
theorem dX7_spreads_281 : decode cX7_spreads 281 = .ok (.iastore, 1) := by decide +kernel
theorem dX7_spreads_282 : decode cX7_spreads 282 = .ok (.aload_n 0, 1) := by decide +kernel
theorem dX7_spreads_283 : decode cX7_spreads 283 = .ok (.getfield 103, 3) := by decide +kernel
theorem dX7_spreads_286 : decode cX7_spreads 286 = .ok (.lconst 0, 1) := by decide +kernel
theorem dX7_spreads_287 : decode cX7_spreads 287 = .ok (.lcmp, 1) := by decide +kernel
theorem dX7_spreads_288 : decode cX7_spreads 288 = .ok (.ifCond .ne 7, 3) := by decide +kernel
theorem dX7_spreads_291 : decode cX7_spreads 291 = .ok (.iconst 1, 1) := by decide +kernel
theorem dX7_spreads_292 : decode cX7_spreads 292 = .ok (.goto 4, 3) := by decide +kernel
theorem dX7_spreads_295 : decode cX7_spreads 295 = .ok (.iconst 0, 1) := by decide +kernel
theorem dX7_spreads_296 : decode cX7_spreads 296 = .ok (.ireturn, 1) := by decide +kernel
theorem dX7_spread_0 : decode cX7_spread 0 = .ok (.iload_n 1, 1) := by decide +kernel
theorem dX7_spread_1 : decode cX7_spread 1 = .ok (.invokestatic 135, 3) := by decide +kernel
theorem dX7_spread_4 : decode cX7_spread 4 = .ok (.ifCond .eq 10, 3) := by decide +kernel
theorem dX7_spread_7 : decode cX7_spread 7 = .ok (.iload_n 2, 1) := by decide +kernel
theorem dX7_spread_8 : decode cX7_spread 8 = .ok (.invokestatic 139, 3) := by decide +kernel
theorem dX7_spread_11 : decode cX7_spread 11 = .ok (.ifCond .ne 5, 3) := by decide +kernel
theorem dX7_spread_14 : decode cX7_spread 14 = .ok (.iconst (-1), 1) := by decide +kernel
theorem dX7_spread_15 : decode cX7_spread 15 = .ok (.ireturn, 1) := by decide +kernel
theorem dX7_spread_16 : decode cX7_spread 16 = .ok (.iload_n 3, 1) := by decide +kernel
theorem dX7_spread_17 : decode cX7_spread 17 = .ok (.iconst 1, 1) := by decide +kernel
theorem dX7_spread_18 : decode cX7_spread 18 = .ok (.ldc 142, 2) := by decide +kernel
theorem dX7_spread_20 : decode cX7_spread 20 = .ok (.invokestatic 89, 3) := by decide +kernel
theorem dX7_spread_23 : decode cX7_spread 23 = .ok (.ifCond .eq 20, 3) := by decide +kernel
theorem dX7_spread_26 : decode cX7_spread 26 = .ok (.iload 4, 2) := by decide +kernel
theorem dX7_spread_28 : decode cX7_spread 28 = .ok (.iconst 1, 1) := by decide +kernel
theorem dX7_spread_29 : decode cX7_spread 29 = .ok (.ldc 142, 2) := by decide +kernel
theorem dX7_spread_31 : decode cX7_spread 31 = .ok (.invokestatic 89, 3) := by decide +kernel
theorem dX7_spread_34 : decode cX7_spread 34 = .ok (.ifCond .eq 9, 3) := by decide +kernel
theorem dX7_spread_37 : decode cX7_spread 37 = .ok (.iload_n 3, 1) := by decide +kernel
theorem dX7_spread_38 : decode cX7_spread 38 = .ok (.iload 4, 2) := by decide +kernel
theorem dX7_spread_40 : decode cX7_spread 40 = .ok (.if_icmp .lt 6, 3) := by decide +kernel
theorem dX7_spread_43 : decode cX7_spread 43 = .ok (.bipush (-2), 2) := by decide +kernel
theorem dX7_spread_45 : decode cX7_spread 45 = .ok (.ireturn, 1) := by decide +kernel
theorem dX7_spread_46 : decode cX7_spread 46 = .ok (.aload_n 0, 1) := by decide +kernel
theorem dX7_spread_47 : decode cX7_spread 47 = .ok (.getfield 11, 3) := by decide +kernel
theorem dX7_spread_50 : decode cX7_spread 50 = .ok (.iload_n 1, 1) := by decide +kernel
theorem dX7_spread_51 : decode cX7_spread 51 = .ok (.iload_n 2, 1) := by decide +kernel
theorem dX7_spread_52 : decode cX7_spread 52 = .ok (.iastore, 1) := by decide +kernel
theorem dX7_spread_53 : decode cX7_spread 53 = .ok (.aload_n 0, 1) := by decide +kernel
theorem dX7_spread_54 : decode cX7_spread 54 = .ok (.iload_n 3, 1) := by decide +kernel
theorem dX7_spread_55 : decode cX7_spread 55 = .ok (.i2l, 1) := by decide +kernel
theorem dX7_spread_56 : decode cX7_spread 56 = .ok (.iload 4, 2) := by decide +kernel
theorem dX7_spread_58 : decode cX7_spread 58 = .ok (.i2l, 1) := by decide +kernel
theorem dX7_spread_59 : decode cX7_spread 59 = .ok (.invokevirtual 116, 3) := by decide +kernel
theorem dX7_spread_62 : decode cX7_spread 62 = .ok (.aload_n 0, 1) := by decide +kernel
theorem dX7_spread_63 : decode cX7_spread 63 = .ok (.iload_n 1, 1) := by decide +kernel
theorem dX7_spread_64 : decode cX7_spread 64 = .ok (.invokevirtual 143, 3) := by decide +kernel
theorem dX7_spread_67 : decode cX7_spread 67 = .ok (.ireturn, 1) := by decide +kernel
theorem dX7_begin_0 : decode cX7_begin 0 = .ok (.iload_n 1, 1) := by decide +kernel
theorem dX7_begin_1 : decode cX7_begin 1 = .ok (.invokestatic 135, 3) := by decide +kernel
theorem dX7_begin_4 : decode cX7_begin 4 = .ok (.ifCond .eq 10, 3) := by decide +kernel
theorem dX7_begin_7 : decode cX7_begin 7 = .ok (.iload_n 2, 1) := by decide +kernel
theorem dX7_begin_8 : decode cX7_begin 8 = .ok (.invokestatic 139, 3) := by decide +kernel
theorem dX7_begin_11 : decode cX7_begin 11 = .ok (.ifCond .ne 5, 3) := by decide +kernel
theorem dX7_begin_14 : decode cX7_begin 14 = .ok (.iconst (-1), 1) := by decide +kernel
theorem dX7_begin_15 : decode cX7_begin 15 = .ok (.ireturn, 1) := by decide +kernel
theorem dX7_begin_16 : decode cX7_begin 16 = .ok (.aload_n 0, 1) := by decide +kernel
theorem dX7_begin_17 : decode cX7_begin 17 = .ok (.getfield 15, 3) := by decide +kernel
theorem dX7_begin_20 : decode cX7_begin 20 = .ok (.iload_n 1, 1) := by decide +kernel
theorem dX7_begin_21 : decode cX7_begin 21 = .ok (.iaload, 1) := by decide +kernel
theorem dX7_begin_22 : decode cX7_begin 22 = .ok (.istore_n 3, 1) := by decide +kernel
theorem dX7_begin_23 : decode cX7_begin 23 = .ok (.aload_n 0, 1) := by decide +kernel
theorem dX7_begin_24 : decode cX7_begin 24 = .ok (.getfield 11, 3) := by decide +kernel
theorem dX7_begin_27 : decode cX7_begin 27 = .ok (.iload_n 1, 1) := by decide +kernel
theorem dX7_begin_28 : decode cX7_begin 28 = .ok (.iload_n 2, 1) := by decide +kernel
theorem dX7_begin_29 : decode cX7_begin 29 = .ok (.iastore, 1) := by decide +kernel
theorem dX7_begin_30 : decode cX7_begin 30 = .ok (.aload_n 0, 1) := by decide +kernel
theorem dX7_begin_31 : decode cX7_begin 31 = .ok (.getfield 15, 3) := by decide +kernel
theorem dX7_begin_34 : decode cX7_begin 34 = .ok (.iload_n 1, 1) := by decide +kernel
theorem dX7_begin_35 : decode cX7_begin 35 = .ok (.iconst 0, 1) := by decide +kernel
theorem dX7_begin_36 : decode cX7_begin 36 = .ok (.iastore, 1) := by decide +kernel
theorem dX7_begin_37 : decode cX7_begin 37 = .ok (.iload_n 3, 1) := by decide +kernel
theorem dX7_begin_38 : decode cX7_begin 38 = .ok (.ireturn, 1) := by decide +kernel
theorem dX7_add_0 : decode cX7_add 0 = .ok (.iload_n 1, 1) := by decide +kernel
theorem dX7_add_1 : decode cX7_add 1 = .ok (.invokestatic 135, 3) := by decide +kernel
theorem dX7_add_4 : decode cX7_add 4 = .ok (.ifCond .ne 5, 3) := by decide +kernel
theorem dX7_add_7 : decode cX7_add 7 = .ok (.iconst (-1), 1) := by decide +kernel
theorem dX7_add_8 : decode cX7_add 8 = .ok (.ireturn, 1) := by decide +kernel
theorem dX7_add_9 : decode cX7_add 9 = .ok (.iload_n 2, 1) := by decide +kernel
theorem dX7_add_10 : decode cX7_add 10 = .ok (.iconst 0, 1) := by decide +kernel
theorem dX7_add_11 : decode cX7_add 11 = .ok (.ldc 147, 2) := by decide +kernel
theorem dX7_add_13 : decode cX7_add 13 = .ok (.invokestatic 89, 3) := by decide +kernel
theorem dX7_add_16 : decode cX7_add 16 = .ok (.ifCond .ne 6, 3) := by decide +kernel
theorem dX7_add_19 : decode cX7_add 19 = .ok (.bipush (-2), 2) := by decide +kernel
theorem dX7_add_21 : decode cX7_add 21 = .ok (.ireturn, 1) := by decide +kernel
theorem dX7_add_22 : decode cX7_add 22 = .ok (.aload_n 0, 1) := by decide +kernel
theorem dX7_add_23 : decode cX7_add 23 = .ok (.getfield 15, 3) := by decide +kernel
theorem dX7_add_26 : decode cX7_add 26 = .ok (.iload_n 1, 1) := by decide +kernel
theorem dX7_add_27 : decode cX7_add 27 = .ok (.iaload, 1) := by decide +kernel
theorem dX7_add_28 : decode cX7_add 28 = .ok (.bipush 16, 2) := by decide +kernel
theorem dX7_add_30 : decode cX7_add 30 = .ok (.if_icmp .ne 6, 3) := by decide +kernel
theorem dX7_add_33 : decode cX7_add 33 = .ok (.bipush (-4), 2) := by decide +kernel
theorem dX7_add_35 : decode cX7_add 35 = .ok (.ireturn, 1) := by decide +kernel
theorem dX7_add_36 : decode cX7_add 36 = .ok (.aload_n 0, 1) := by decide +kernel
theorem dX7_add_37 : decode cX7_add 37 = .ok (.getfield 20, 3) := by decide +kernel
theorem dX7_add_40 : decode cX7_add 40 = .ok (.iload_n 1, 1) := by decide +kernel
theorem dX7_add_41 : decode cX7_add 41 = .ok (.aaload, 1) := by decide +kernel
theorem dX7_add_42 : decode cX7_add 42 = .ok (.aload_n 0, 1) := by decide +kernel
theorem dX7_add_43 : decode cX7_add 43 = .ok (.getfield 15, 3) := by decide +kernel
theorem dX7_add_46 : decode cX7_add 46 = .ok (.iload_n 1, 1) := by decide +kernel
theorem dX7_add_47 : decode cX7_add 47 = .ok (.iaload, 1) := by decide +kernel
theorem dX7_add_48 : decode cX7_add 48 = .ok (.iload_n 2, 1) := by decide +kernel
theorem dX7_add_49 : decode cX7_add 49 = .ok (.iastore, 1) := by decide +kernel
theorem dX7_add_50 : decode cX7_add 50 = .ok (.aload_n 0, 1) := by decide +kernel
theorem dX7_add_51 : decode cX7_add 51 = .ok (.getfield 15, 3) := by decide +kernel
theorem dX7_add_54 : decode cX7_add 54 = .ok (.iload_n 1, 1) := by decide +kernel
theorem dX7_add_55 : decode cX7_add 55 = .ok (.dup2, 1) := by decide +kernel
theorem dX7_add_56 : decode cX7_add 56 = .ok (.iaload, 1) := by decide +kernel
theorem dX7_add_57 : decode cX7_add 57 = .ok (.iconst 1, 1) := by decide +kernel
theorem dX7_add_58 : decode cX7_add 58 = .ok (.iadd, 1) := by decide +kernel
theorem dX7_add_59 : decode cX7_add 59 = .ok (.iastore, 1) := by decide +kernel
theorem dX7_add_60 : decode cX7_add 60 = .ok (.aload_n 0, 1) := by decide +kernel
theorem dX7_add_61 : decode cX7_add 61 = .ok (.getfield 15, 3) := by decide +kernel
theorem dX7_add_64 : decode cX7_add 64 = .ok (.iload_n 1, 1) := by decide +kernel
theorem dX7_add_65 : decode cX7_add 65 = .ok (.iaload, 1) := by decide +kernel
theorem dX7_add_66 : decode cX7_add 66 = .ok (.ireturn, 1) := by decide +kernel
theorem dX7_cut_0 : decode cX7_cut 0 = .ok (.iload_n 1, 1) := by decide +kernel
theorem dX7_cut_1 : decode cX7_cut 1 = .ok (.invokestatic 135, 3) := by decide +kernel
theorem dX7_cut_4 : decode cX7_cut 4 = .ok (.ifCond .ne 5, 3) := by decide +kernel
theorem dX7_cut_7 : decode cX7_cut 7 = .ok (.iconst (-1), 1) := by decide +kernel
theorem dX7_cut_8 : decode cX7_cut 8 = .ok (.ireturn, 1) := by decide +kernel
theorem dX7_cut_9 : decode cX7_cut 9 = .ok (.iload_n 2, 1) := by decide +kernel
theorem dX7_cut_10 : decode cX7_cut 10 = .ok (.iconst 0, 1) := by decide +kernel
theorem dX7_cut_11 : decode cX7_cut 11 = .ok (.aload_n 0, 1) := by decide +kernel
theorem dX7_cut_12 : decode cX7_cut 12 = .ok (.getfield 15, 3) := by decide +kernel
theorem dX7_cut_15 : decode cX7_cut 15 = .ok (.iload_n 1, 1) := by decide +kernel
theorem dX7_cut_16 : decode cX7_cut 16 = .ok (.iaload, 1) := by decide +kernel
theorem dX7_cut_17 : decode cX7_cut 17 = .ok (.invokestatic 89, 3) := by decide +kernel
theorem dX7_cut_20 : decode cX7_cut 20 = .ok (.ifCond .ne 6, 3) := by decide +kernel
theorem dX7_cut_23 : decode cX7_cut 23 = .ok (.bipush (-2), 2) := by decide +kernel
theorem dX7_cut_25 : decode cX7_cut 25 = .ok (.ireturn, 1) := by decide +kernel
theorem dX7_cut_26 : decode cX7_cut 26 = .ok (.aload_n 0, 1) := by decide +kernel
theorem dX7_cut_27 : decode cX7_cut 27 = .ok (.getfield 15, 3) := by decide +kernel
theorem dX7_cut_30 : decode cX7_cut 30 = .ok (.iload_n 1, 1) := by decide +kernel
theorem dX7_cut_31 : decode cX7_cut 31 = .ok (.iaload, 1) := by decide +kernel
theorem dX7_cut_32 : decode cX7_cut 32 = .ok (.iload_n 2, 1) := by decide +kernel
theorem dX7_cut_33 : decode cX7_cut 33 = .ok (.isub, 1) := by decide +kernel
theorem dX7_cut_34 : decode cX7_cut 34 = .ok (.istore_n 3, 1) := by decide +kernel
theorem dX7_cut_35 : decode cX7_cut 35 = .ok (.aload_n 0, 1) := by decide +kernel
theorem dX7_cut_36 : decode cX7_cut 36 = .ok (.getfield 15, 3) := by decide +kernel
theorem dX7_cut_39 : decode cX7_cut 39 = .ok (.iload_n 1, 1) := by decide +kernel
theorem dX7_cut_40 : decode cX7_cut 40 = .ok (.iload_n 2, 1) := by decide +kernel
theorem dX7_cut_41 : decode cX7_cut 41 = .ok (.iastore, 1) := by decide +kernel
