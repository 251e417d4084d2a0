theorem dX4_parseClause_62 : decode cX4_parseClause 62 = .ok (.ireturn, 1) := by decide +kernel
theorem dX4_parseWord_0 : decode cX4_parseWord 0 = .ok (.iconst 0, 1) := by decide +kernel
theorem dX4_parseWord_1 : decode cX4_parseWord 1 = .ok (.istore_n 1, 1) := by decide +kernel
theorem dX4_parseWord_2 : decode cX4_parseWord 2 = .ok (.iconst 0, 1) := by decide +kernel
theorem dX4_parseWord_3 : decode cX4_parseWord 3 = .ok (.istore_n 2, 1) := by decide +kernel
theorem dX4_parseWord_4 : decode cX4_parseWord 4 = .ok (.iload_n 2, 1) := by decide +kernel
theorem dX4_parseWord_5 : decode cX4_parseWord 5 = .ok (.iconst 5, 1) := by decide +kernel
theorem dX4_parseWord_6 : decode cX4_parseWord 6 = .ok (.if_icmp .ge 50, 3) := by decide +kernel
theorem dX4_parseWord_9 : decode cX4_parseWord 9 = .ok (.iload_n 2, 1) := by decide +kernel
theorem dX4_parseWord_10 : decode cX4_parseWord 10 = .ok (.invokestatic 47, 3) := by decide +kernel
theorem dX4_parseWord_13 : decode cX4_parseWord 13 = .ok (.astore_n 3, 1) := by decide +kernel
theorem dX4_parseWord_14 : decode cX4_parseWord 14 = .ok (.aload_n 0, 1) := by decide +kernel
theorem dX4_parseWord_15 : decode cX4_parseWord 15 = .ok (.aload_n 3, 1) := by decide +kernel
theorem dX4_parseWord_16 : decode cX4_parseWord 16 = .ok (.invokevirtual 51, 3) := by decide +kernel
theorem dX4_parseWord_19 : decode cX4_parseWord 19 = .ok (.istore 4, 2) := by decide +kernel
theorem dX4_parseWord_21 : decode cX4_parseWord 21 = .ok (.iload 4, 2) := by decide +kernel
theorem dX4_parseWord_23 : decode cX4_parseWord 23 = .ok (.aload_n 3, 1) := by decide +kernel
theorem dX4_parseWord_24 : decode cX4_parseWord 24 = .ok (.invokevirtual 55, 3) := by decide +kernel
theorem dX4_parseWord_27 : decode cX4_parseWord 27 = .ok (.if_icmp .ne 16, 3) := by decide +kernel
theorem dX4_parseWord_30 : decode cX4_parseWord 30 = .ok (.aload_n 0, 1) := by decide +kernel
theorem dX4_parseWord_31 : decode cX4_parseWord 31 = .ok (.dup, 1) := by decide +kernel
theorem dX4_parseWord_32 : decode cX4_parseWord 32 = .ok (.getfield 29, 3) := by decide +kernel
theorem dX4_parseWord_35 : decode cX4_parseWord 35 = .ok (.iload 4, 2) := by decide +kernel
theorem dX4_parseWord_37 : decode cX4_parseWord 37 = .ok (.iadd, 1) := by decide +kernel
theorem dX4_parseWord_38 : decode cX4_parseWord 38 = .ok (.putfield 29, 3) := by decide +kernel
theorem dX4_parseWord_41 : decode cX4_parseWord 41 = .ok (.iload_n 2, 1) := by decide +kernel
theorem dX4_parseWord_42 : decode cX4_parseWord 42 = .ok (.ireturn, 1) := by decide +kernel
theorem dX4_parseWord_43 : decode cX4_parseWord 43 = .ok (.iload_n 1, 1) := by decide +kernel
theorem dX4_parseWord_44 : decode cX4_parseWord 44 = .ok (.iload 4, 2) := by decide +kernel
theorem dX4_parseWord_46 : decode cX4_parseWord 46 = .ok (.invokestatic 59, 3) := by decide +kernel
theorem dX4_parseWord_49 : decode cX4_parseWord 49 = .ok (.istore_n 1, 1) := by decide +kernel
theorem dX4_parseWord_50 : decode cX4_parseWord 50 = .ok (.iinc 2 1, 3) := by decide +kernel
theorem dX4_parseWord_53 : decode cX4_parseWord 53 = .ok (.goto (-49), 3) := by decide +kernel
theorem dX4_parseWord_56 : decode cX4_parseWord 56 = .ok (.aload_n 0, 1) := by decide +kernel
theorem dX4_parseWord_57 : decode cX4_parseWord 57 = .ok (.dup, 1) := by decide +kernel
theorem dX4_parseWord_58 : decode cX4_parseWord 58 = .ok (.getfield 29, 3) := by decide +kernel
theorem dX4_parseWord_61 : decode cX4_parseWord 61 = .ok (.iload_n 1, 1) := by decide +kernel
theorem dX4_parseWord_62 : decode cX4_parseWord 62 = .ok (.iadd, 1) := by decide +kernel
theorem dX4_parseWord_63 : decode cX4_parseWord 63 = .ok (.putfield 29, 3) := by decide +kernel
theorem dX4_parseWord_66 : decode cX4_parseWord 66 = .ok (.iconst (-1), 1) := by decide +kernel
theorem dX4_parseWord_67 : decode cX4_parseWord 67 = .ok (.ireturn, 1) := by decide +kernel
theorem dX4_signsAlike_0 : decode cX4_signsAlike 0 = .ok (.iconst 0, 1) := by decide +kernel
theorem dX4_signsAlike_1 : decode cX4_signsAlike 1 = .ok (.istore_n 2, 1) := by decide +kernel
theorem dX4_signsAlike_2 : decode cX4_signsAlike 2 = .ok (.iload_n 2, 1) := by decide +kernel
theorem dX4_signsAlike_3 : decode cX4_signsAlike 3 = .ok (.aload_n 1, 1) := by decide +kernel
theorem dX4_signsAlike_4 : decode cX4_signsAlike 4 = .ok (.invokevirtual 55, 3) := by decide +kernel
theorem dX4_signsAlike_7 : decode cX4_signsAlike 7 = .ok (.if_icmp .ge 41, 3) := by decide +kernel
theorem dX4_signsAlike_10 : decode cX4_signsAlike 10 = .ok (.aload_n 0, 1) := by decide +kernel
theorem dX4_signsAlike_11 : decode cX4_signsAlike 11 = .ok (.getfield 29, 3) := by decide +kernel
theorem dX4_signsAlike_14 : decode cX4_signsAlike 14 = .ok (.iload_n 2, 1) := by decide +kernel
theorem dX4_signsAlike_15 : decode cX4_signsAlike 15 = .ok (.iadd, 1) := by decide +kernel
theorem dX4_signsAlike_16 : decode cX4_signsAlike 16 = .ok (.aload_n 0, 1) := by decide +kernel
theorem dX4_signsAlike_17 : decode cX4_signsAlike 17 = .ok (.getfield 22, 3) := by decide +kernel
theorem dX4_signsAlike_20 : decode cX4_signsAlike 20 = .ok (.if_icmp .ge 28, 3) := by decide +kernel
theorem dX4_signsAlike_23 : decode cX4_signsAlike 23 = .ok (.aload_n 0, 1) := by decide +kernel
theorem dX4_signsAlike_24 : decode cX4_signsAlike 24 = .ok (.getfield 9, 3) := by decide +kernel
theorem dX4_signsAlike_27 : decode cX4_signsAlike 27 = .ok (.aload_n 0, 1) := by decide +kernel
theorem dX4_signsAlike_28 : decode cX4_signsAlike 28 = .ok (.getfield 29, 3) := by decide +kernel
theorem dX4_signsAlike_31 : decode cX4_signsAlike 31 = .ok (.iload_n 2, 1) := by decide +kernel
theorem dX4_signsAlike_32 : decode cX4_signsAlike 32 = .ok (.iadd, 1) := by decide +kernel
theorem dX4_signsAlike_33 : decode cX4_signsAlike 33 = .ok (.baload, 1) := by decide +kernel
theorem dX4_signsAlike_34 : decode cX4_signsAlike 34 = .ok (.aload_n 1, 1) := by decide +kernel
theorem dX4_signsAlike_35 : decode cX4_signsAlike 35 = .ok (.iload_n 2, 1) := by decide +kernel
theorem dX4_signsAlike_36 : decode cX4_signsAlike 36 = .ok (.invokevirtual 65, 3) := by decide +kernel
theorem dX4_signsAlike_39 : decode cX4_signsAlike 39 = .ok (.if_icmp .ne 9, 3) := by decide +kernel
theorem dX4_signsAlike_42 : decode cX4_signsAlike 42 = .ok (.iinc 2 1, 3) := by decide +kernel
theorem dX4_signsAlike_45 : decode cX4_signsAlike 45 = .ok (.goto (-43), 3) := by decide +kernel
theorem dX4_signsAlike_48 : decode cX4_signsAlike 48 = .ok (.iload_n 2, 1) := by decide +kernel
theorem dX4_signsAlike_49 : decode cX4_signsAlike 49 = .ok (.ireturn, 1) := by decide +kernel
theorem dX4_parseValue_0 : decode cX4_parseValue 0 = .ok (.aload_n 0, 1) := by decide +kernel
theorem dX4_parseValue_1 : decode cX4_parseValue 1 = .ok (.getfield 29, 3) := by decide +kernel
theorem dX4_parseValue_4 : decode cX4_parseValue 4 = .ok (.aload_n 0, 1) := by decide +kernel
theorem dX4_parseValue_5 : decode cX4_parseValue 5 = .ok (.getfield 22, 3) := by decide +kernel
theorem dX4_parseValue_8 : decode cX4_parseValue 8 = .ok (.if_icmp .ge 17, 3) := by decide +kernel
theorem dX4_parseValue_11 : decode cX4_parseValue 11 = .ok (.aload_n 0, 1) := by decide +kernel
theorem dX4_parseValue_12 : decode cX4_parseValue 12 = .ok (.getfield 9, 3) := by decide +kernel
theorem dX4_parseValue_15 : decode cX4_parseValue 15 = .ok (.aload_n 0, 1) := by decide +kernel
theorem dX4_parseValue_16 : decode cX4_parseValue 16 = .ok (.getfield 29, 3) := by decide +kernel
theorem dX4_parseValue_19 : decode cX4_parseValue 19 = .ok (.baload, 1) := by decide +kernel
theorem dX4_parseValue_20 : decode cX4_parseValue 20 = .ok (.bipush 32, 2) := by decide +kernel
theorem dX4_parseValue_22 : decode cX4_parseValue 22 = .ok (.if_icmp .eq 5, 3) := by decide +kernel
theorem dX4_parseValue_25 : decode cX4_parseValue 25 = .ok (.iconst (-1), 1) := by decide +kernel
theorem dX4_parseValue_26 : decode cX4_parseValue 26 = .ok (.ireturn, 1) := by decide +kernel
theorem dX4_parseValue_27 : decode cX4_parseValue 27 = .ok (.aload_n 0, 1) := by decide +kernel
theorem dX4_parseValue_28 : decode cX4_parseValue 28 = .ok (.dup, 1) := by decide +kernel
theorem dX4_parseValue_29 : decode cX4_parseValue 29 = .ok (.getfield 29, 3) := by decide +kernel
theorem dX4_parseValue_32 : decode cX4_parseValue 32 = .ok (.iconst 1, 1) := by decide +kernel
theorem dX4_parseValue_33 : decode cX4_parseValue 33 = .ok (.iadd, 1) := by decide +kernel
theorem dX4_parseValue_34 : decode cX4_parseValue 34 = .ok (.putfield 29, 3) := by decide +kernel
theorem dX4_parseValue_37 : decode cX4_parseValue 37 = .ok (.iconst 0, 1) := by decide +kernel
theorem dX4_parseValue_38 : decode cX4_parseValue 38 = .ok (.istore_n 1, 1) := by decide +kernel
theorem dX4_parseValue_39 : decode cX4_parseValue 39 = .ok (.iconst 0, 1) := by decide +kernel
theorem dX4_parseValue_40 : decode cX4_parseValue 40 = .ok (.istore_n 2, 1) := by decide +kernel
theorem dX4_parseValue_41 : decode cX4_parseValue 41 = .ok (.iload_n 2, 1) := by decide +kernel
theorem dX4_parseValue_42 : decode cX4_parseValue 42 = .ok (.bipush 9, 2) := by decide +kernel
theorem dX4_parseValue_44 : decode cX4_parseValue 44 = .ok (.if_icmp .ge 63, 3) := by decide +kernel
theorem dX4_parseValue_47 : decode cX4_parseValue 47 = .ok (.aload_n 0, 1) := by decide +kernel
theorem dX4_parseValue_48 : decode cX4_parseValue 48 = .ok (.getfield 29, 3) := by decide +kernel
theorem dX4_parseValue_51 : decode cX4_parseValue 51 = .ok (.aload_n 0, 1) := by decide +kernel
theorem dX4_parseValue_52 : decode cX4_parseValue 52 = .ok (.getfield 22, 3) := by decide +kernel
theorem dX4_parseValue_55 : decode cX4_parseValue 55 = .ok (.if_icmp .ge 52, 3) := by decide +kernel
theorem dX4_parseValue_58 : decode cX4_parseValue 58 = .ok (.aload_n 0, 1) := by decide +kernel
theorem dX4_parseValue_59 : decode cX4_parseValue 59 = .ok (.getfield 9, 3) := by decide +kernel
theorem dX4_parseValue_62 : decode cX4_parseValue 62 = .ok (.aload_n 0, 1) := by decide +kernel
theorem dX4_parseValue_63 : decode cX4_parseValue 63 = .ok (.getfield 29, 3) := by decide +kernel
theorem dX4_parseValue_66 : decode cX4_parseValue 66 = .ok (.baload, 1) := by decide +kernel
theorem dX4_parseValue_67 : decode cX4_parseValue 67 = .ok (.invokestatic 69, 3) := by decide +kernel
theorem dX4_parseValue_70 : decode cX4_parseValue 70 = .ok (.ifCond .eq 37, 3) := by decide +kernel
theorem dX4_parseValue_73 : decode cX4_parseValue 73 = .ok (.iload_n 1, 1) := by decide +kernel
theorem dX4_parseValue_74 : decode cX4_parseValue 74 = .ok (.bipush 10, 2) := by decide +kernel
theorem dX4_parseValue_76 : decode cX4_parseValue 76 = .ok (.imul, 1) := by decide +kernel
theorem dX4_parseValue_77 : decode cX4_parseValue 77 = .ok (.aload_n 0, 1) := by decide +kernel
theorem dX4_parseValue_78 : decode cX4_parseValue 78 = .ok (.getfield 9, 3) := by decide +kernel
theorem dX4_parseValue_81 : decode cX4_parseValue 81 = .ok (.aload_n 0, 1) := by decide +kernel
theorem dX4_parseValue_82 : decode cX4_parseValue 82 = .ok (.getfield 29, 3) := by decide +kernel
theorem dX4_parseValue_85 : decode cX4_parseValue 85 = .ok (.baload, 1) := by decide +kernel
theorem dX4_parseValue_86 : decode cX4_parseValue 86 = .ok (.bipush 48, 2) := by decide +kernel
theorem dX4_parseValue_88 : decode cX4_parseValue 88 = .ok (.isub, 1) := by decide +kernel
theorem dX4_parseValue_89 : decode cX4_parseValue 89 = .ok (.iadd, 1) := by decide +kernel
theorem dX4_parseValue_90 : decode cX4_parseValue 90 = .ok (.istore_n 1, 1) := by decide +kernel
theorem dX4_parseValue_91 : decode cX4_parseValue 91 = .ok (.iinc 2 1, 3) := by decide +kernel
theorem dX4_parseValue_94 : decode cX4_parseValue 94 = .ok (.aload_n 0, 1) := by decide +kernel
theorem dX4_parseValue_95 : decode cX4_parseValue 95 = .ok (.dup, 1) := by decide +kernel
theorem dX4_parseValue_96 : decode cX4_parseValue 96 = .ok (.getfield 29, 3) := by decide +kernel
theorem dX4_parseValue_99 : decode cX4_parseValue 99 = .ok (.iconst 1, 1) := by decide +kernel
theorem dX4_parseValue_100 : decode cX4_parseValue 100 = .ok (.iadd, 1) := by decide +kernel
theorem dX4_parseValue_101 : decode cX4_parseValue 101 = .ok (.putfield 29, 3) := by decide +kernel
theorem dX4_parseValue_104 : decode cX4_parseValue 104 = .ok (.goto (-63), 3) := by decide +kernel
theorem dX4_parseValue_107 : decode cX4_parseValue 107 = .ok (.iload_n 2, 1) := by decide +kernel
theorem dX4_parseValue_108 : decode cX4_parseValue 108 = .ok (.ifCond .le 7, 3) := by decide +kernel
theorem dX4_parseValue_111 : decode cX4_parseValue 111 = .ok (.iload_n 1, 1) := by decide +kernel
theorem dX4_parseValue_112 : decode cX4_parseValue 112 = .ok (.goto 4, 3) := by decide +kernel
theorem dX4_parseValue_115 : decode cX4_parseValue 115 = .ok (.iconst (-1), 1) := by decide +kernel
theorem dX4_parseValue_116 : decode cX4_parseValue 116 = .ok (.ireturn, 1) := by decide +kernel
theorem dX4_isDigit_0 : decode cX4_isDigit 0 = .ok (.iload_n 0, 1) := by decide +kernel
theorem dX4_isDigit_1 : decode cX4_isDigit 1 = .ok (.bipush 48, 2) := by decide +kernel
theorem dX4_isDigit_3 : decode cX4_isDigit 3 = .ok (.if_icmp .lt 13, 3) := by decide +kernel
theorem dX4_isDigit_6 : decode cX4_isDigit 6 = .ok (.iload_n 0, 1) := by decide +kernel
theorem dX4_isDigit_7 : decode cX4_isDigit 7 = .ok (.bipush 57, 2) := by decide +kernel
theorem dX4_isDigit_9 : decode cX4_isDigit 9 = .ok (.if_icmp .gt 7, 3) := by decide +kernel
theorem dX4_isDigit_12 : decode cX4_isDigit 12 = .ok (.iconst 1, 1) := by decide +kernel
theorem dX4_isDigit_13 : decode cX4_isDigit 13 = .ok (.goto 4, 3) := by decide +kernel
theorem dX4_isDigit_16 : decode cX4_isDigit 16 = .ok (.iconst 0, 1) := by decide +kernel
theorem dX4_isDigit_17 : decode cX4_isDigit 17 = .ok (.ireturn, 1) := by decide +kernel
theorem dX4_valuesDue_0 : decode cX4_valuesDue 0 = .ok (.iload_n 0, 1) := by decide +kernel
theorem dX4_valuesDue_1 : decode cX4_valuesDue 1 = .ok (.ifCond .ne 7, 3) := by decide +kernel
theorem dX4_valuesDue_4 : decode cX4_valuesDue 4 = .ok (.iconst 4, 1) := by decide +kernel
theorem dX4_valuesDue_5 : decode cX4_valuesDue 5 = .ok (.goto 4, 3) := by decide +kernel
theorem dX4_valuesDue_8 : decode cX4_valuesDue 8 = .ok (.iconst 2, 1) := by decide +kernel
theorem dX4_valuesDue_9 : decode cX4_valuesDue 9 = .ok (.ireturn, 1) := by decide +kernel
theorem dX4_wordText_0 : decode cX4_wordText 0 = .ok (.iload_n 0, 1) := by decide +kernel
theorem dX4_wordText_1 : decode cX4_wordText 1 = .ok (.tableswitch 43 0 3 #[31, 34, 37, 40], 31) := by decide +kernel
theorem dX4_wordText_32 : decode cX4_wordText 32 = .ok (.ldc 72, 2) := by decide +kernel
theorem dX4_wordText_34 : decode cX4_wordText 34 = .ok (.areturn, 1) := by decide +kernel
theorem dX4_wordText_35 : decode cX4_wordText 35 = .ok (.ldc 74, 2) := by decide +kernel
theorem dX4_wordText_37 : decode cX4_wordText 37 = .ok (.areturn, 1) := by decide +kernel
theorem dX4_wordText_38 : decode cX4_wordText 38 = .ok (.ldc 76, 2) := by decide +kernel
theorem dX4_wordText_40 : decode cX4_wordText 40 = .ok (.areturn, 1) := by decide +kernel
theorem dX4_wordText_41 : decode cX4_wordText 41 = .ok (.ldc 78, 2) := by decide +kernel
theorem dX4_wordText_43 : decode cX4_wordText 43 = .ok (.areturn, 1) := by decide +kernel
theorem dX4_wordText_44 : decode cX4_wordText 44 = .ok (.ldc 80, 2) := by decide +kernel
theorem dX4_wordText_46 : decode cX4_wordText 46 = .ok (.areturn, 1) := by decide +kernel
theorem dX5_init_0 : decode cX5_init 0 = .ok (.aload_n 0, 1) := by decide +kernel
theorem dX5_init_1 : decode cX5_init 1 = .ok (.invokespecial 3, 3) := by decide +kernel
theorem dX5_init_4 : decode cX5_init 4 = .ok (.aload_n 0, 1) := by decide +kernel
theorem dX5_init_5 : decode cX5_init 5 = .ok (.iconst (-1), 1) := by decide +kernel
theorem dX5_init_6 : decode cX5_init 6 = .ok (.putfield 9, 3) := by decide +kernel
theorem dX5_init_9 : decode cX5_init 9 = .ok (.aload_n 0, 1) := by decide +kernel
theorem dX5_init_10 : decode cX5_init 10 = .ok (.bipush 60, 2) := by decide +kernel
theorem dX5_init_12 : decode cX5_init 12 = .ok (.newarray .long, 2) := by decide +kernel
theorem dX5_init_14 : decode cX5_init 14 = .ok (.putfield 15, 3) := by decide +kernel
theorem dX5_init_17 : decode cX5_init 17 = .ok (.return_, 1) := by decide +kernel
theorem dX5_clear_0 : decode cX5_clear 0 = .ok (.aload_n 0, 1) := by decide +kernel
theorem dX5_clear_1 : decode cX5_clear 1 = .ok (.iload_n 1, 1) := by decide +kernel
theorem dX5_clear_2 : decode cX5_clear 2 = .ok (.putfield 9, 3) := by decide +kernel
theorem dX5_clear_5 : decode cX5_clear 5 = .ok (.aload_n 0, 1) := by decide +kernel
theorem dX5_clear_6 : decode cX5_clear 6 = .ok (.iload_n 2, 1) := by decide +kernel
theorem dX5_clear_7 : decode cX5_clear 7 = .ok (.putfield 19, 3) := by decide +kernel
theorem dX5_clear_10 : decode cX5_clear 10 = .ok (.iconst 0, 1) := by decide +kernel
theorem dX5_clear_11 : decode cX5_clear 11 = .ok (.istore_n 3, 1) := by decide +kernel
theorem dX5_clear_12 : decode cX5_clear 12 = .ok (.iload_n 3, 1) := by decide +kernel
theorem dX5_clear_13 : decode cX5_clear 13 = .ok (.bipush 60, 2) := by decide +kernel
theorem dX5_clear_15 : decode cX5_clear 15 = .ok (.if_icmp .ge 16, 3) := by decide +kernel
theorem dX5_clear_18 : decode cX5_clear 18 = .ok (.aload_n 0, 1) := by decide +kernel
theorem dX5_clear_19 : decode cX5_clear 19 = .ok (.getfield 15, 3) := by decide +kernel
theorem dX5_clear_22 : decode cX5_clear 22 = .ok (.iload_n 3, 1) := by decide +kernel
theorem dX5_clear_23 : decode cX5_clear 23 = .ok (.lconst 0, 1) := by decide +kernel
theorem dX5_clear_24 : decode cX5_clear 24 = .ok (.lastore, 1) := by decide +kernel
theorem dX5_clear_25 : decode cX5_clear 25 = .ok (.iinc 3 1, 3) := by decide +kernel
theorem dX5_clear_28 : decode cX5_clear 28 = .ok (.goto (-16), 3) := by decide +kernel
theorem dX5_clear_31 : decode cX5_clear 31 = .ok (.return_, 1) := by decide +kernel
theorem dX5_holds_0 : decode cX5_holds 0 = .ok (.iload_n 1, 1) := by decide +kernel
theorem dX5_holds_1 : decode cX5_holds 1 = .ok (.ifCond .lt 25, 3) := by decide +kernel
theorem dX5_holds_4 : decode cX5_holds 4 = .ok (.iload_n 2, 1) := by decide +kernel
theorem dX5_holds_5 : decode cX5_holds 5 = .ok (.ifCond .lt 21, 3) := by decide +kernel
theorem dX5_holds_8 : decode cX5_holds 8 = .ok (.iload_n 1, 1) := by decide +kernel
theorem dX5_holds_9 : decode cX5_holds 9 = .ok (.i2l, 1) := by decide +kernel
theorem dX5_holds_10 : decode cX5_holds 10 = .ok (.iload_n 2, 1) := by decide +kernel
theorem dX5_holds_11 : decode cX5_holds 11 = .ok (.i2l, 1) := by decide +kernel
theorem dX5_holds_12 : decode cX5_holds 12 = .ok (.ladd, 1) := by decide +kernel
theorem dX5_holds_13 : decode cX5_holds 13 = .ok (.aload_n 0, 1) := by decide +kernel
theorem dX5_holds_14 : decode cX5_holds 14 = .ok (.getfield 19, 3) := by decide +kernel
theorem dX5_holds_17 : decode cX5_holds 17 = .ok (.i2l, 1) := by decide +kernel
theorem dX5_holds_18 : decode cX5_holds 18 = .ok (.lcmp, 1) := by decide +kernel
theorem dX5_holds_19 : decode cX5_holds 19 = .ok (.ifCond .gt 7, 3) := by decide +kernel
theorem dX5_holds_22 : decode cX5_holds 22 = .ok (.iconst 1, 1) := by decide +kernel
theorem dX5_holds_23 : decode cX5_holds 23 = .ok (.goto 4, 3) := by decide +kernel
theorem dX5_holds_26 : decode cX5_holds 26 = .ok (.iconst 0, 1) := by decide +kernel
theorem dX5_holds_27 : decode cX5_holds 27 = .ok (.ireturn, 1) := by decide +kernel
theorem dX5_put_0 : decode cX5_put 0 = .ok (.iload_n 1, 1) := by decide +kernel
theorem dX5_put_1 : decode cX5_put 1 = .ok (.ifCond .lt 11, 3) := by decide +kernel
theorem dX5_put_4 : decode cX5_put 4 = .ok (.iload_n 1, 1) := by decide +kernel
theorem dX5_put_5 : decode cX5_put 5 = .ok (.aload_n 0, 1) := by decide +kernel
theorem dX5_put_6 : decode cX5_put 6 = .ok (.getfield 19, 3) := by decide +kernel
theorem dX5_put_9 : decode cX5_put 9 = .ok (.if_icmp .lt 5, 3) := by decide +kernel
theorem dX5_put_12 : decode cX5_put 12 = .ok (.iconst 0, 1) := by decide +kernel
theorem dX5_put_13 : decode cX5_put 13 = .ok (.ireturn, 1) := by decide +kernel
theorem dX5_put_14 : decode cX5_put 14 = .ok (.aload_n 0, 1) := by decide +kernel
theorem dX5_put_15 : decode cX5_put 15 = .ok (.getfield 15, 3) := by decide +kernel
theorem dX5_put_18 : decode cX5_put 18 = .ok (.iload_n 1, 1) := by decide +kernel
theorem dX5_put_19 : decode cX5_put 19 = .ok (.aload_n 0, 1) := by decide +kernel
theorem dX5_put_20 : decode cX5_put 20 = .ok (.lload_n 2, 1) := by decide +kernel
theorem dX5_put_21 : decode cX5_put 21 = .ok (.invokevirtual 22, 3) := by decide +kernel
theorem dX5_put_24 : decode cX5_put 24 = .ok (.lastore, 1) := by decide +kernel
theorem dX5_put_25 : decode cX5_put 25 = .ok (.iconst 1, 1) := by decide +kernel
theorem dX5_put_26 : decode cX5_put 26 = .ok (.ireturn, 1) := by decide +kernel
theorem dX5_asItem_0 : decode cX5_asItem 0 = .ok (.aload_n 0, 1) := by decide +kernel
theorem dX5_asItem_1 : decode cX5_asItem 1 = .ok (.getfield 9, 3) := by decide +kernel
theorem dX5_asItem_4 : decode cX5_asItem 4 = .ok (.tableswitch 62 0 4 #[36, 41, 46, 62, 50], 36) := by decide +kernel
theorem dX5_asItem_40 : decode cX5_asItem 40 = .ok (.lload_n 1, 1) := by decide +kernel
theorem dX5_asItem_41 : decode cX5_asItem 41 = .ok (.l2i, 1) := by decide +kernel
theorem dX5_asItem_42 : decode cX5_asItem 42 = .ok (.i2b, 1) := by decide +kernel
theorem dX5_asItem_43 : decode cX5_asItem 43 = .ok (.i2l, 1) := by decide +kernel
theorem dX5_asItem_44 : decode cX5_asItem 44 = .ok (.lreturn, 1) := by decide +kernel
theorem dX5_asItem_45 : decode cX5_asItem 45 = .ok (.lload_n 1, 1) := by decide +kernel
theorem dX5_asItem_46 : decode cX5_asItem 46 = .ok (.l2i, 1) := by decide +kernel
theorem dX5_asItem_47 : decode cX5_asItem 47 = .ok (.i2s, 1) := by decide +kernel
theorem dX5_asItem_48 : decode cX5_asItem 48 = .ok (.i2l, 1) := by decide +kernel
theorem dX5_asItem_49 : decode cX5_asItem 49 = .ok (.lreturn, 1) := by decide +kernel
theorem dX5_asItem_50 : decode cX5_asItem 50 = .ok (.lload_n 1, 1) := by decide +kernel
theorem dX5_asItem_51 : decode cX5_asItem 51 = .ok (.l2i, 1) := by decide +kernel
theorem dX5_asItem_52 : decode cX5_asItem 52 = .ok (.i2l, 1) := by decide +kernel
theorem dX5_asItem_53 : decode cX5_asItem 53 = .ok (.lreturn, 1) := by decide +kernel
theorem dX5_asItem_54 : decode cX5_asItem 54 = .ok (.lload_n 1, 1) := by decide +kernel
theorem dX5_asItem_55 : decode cX5_asItem 55 = .ok (.lconst 0, 1) := by decide +kernel
theorem dX5_asItem_56 : decode cX5_asItem 56 = .ok (.lcmp, 1) := by decide +kernel
theorem dX5_asItem_57 : decode cX5_asItem 57 = .ok (.ifCond .eq 7, 3) := by decide +kernel
theorem dX5_asItem_60 : decode cX5_asItem 60 = .ok (.lconst 1, 1) := by decide +kernel
theorem dX5_asItem_61 : decode cX5_asItem 61 = .ok (.goto 4, 3) := by decide +kernel
theorem dX5_asItem_64 : decode cX5_asItem 64 = .ok (.lconst 0, 1) := by decide +kernel
theorem dX5_asItem_65 : decode cX5_asItem 65 = .ok (.lreturn, 1) := by decide +kernel
theorem dX5_asItem_66 : decode cX5_asItem 66 = .ok (.lload_n 1, 1) := by decide +kernel
theorem dX5_asItem_67 : decode cX5_asItem 67 = .ok (.lreturn, 1) := by decide +kernel
theorem dX6_init_0 : decode cX6_init 0 = .ok (.aload_n 0, 1) := by decide +kernel
theorem dX6_init_1 : decode cX6_init 1 = .ok (.invokespecial 3, 3) := by decide +kernel
theorem dX6_init_4 : decode cX6_init 4 = .ok (.aload_n 0, 1) := by decide +kernel
theorem dX6_init_5 : decode cX6_init 5 = .ok (.new 9, 3) := by decide +kernel
theorem dX6_init_8 : decode cX6_init 8 = .ok (.dup, 1) := by decide +kernel
theorem dX6_init_9 : decode cX6_init 9 = .ok (.invokespecial 11, 3) := by decide +kernel
theorem dX6_init_12 : decode cX6_init 12 = .ok (.putfield 12, 3) := by decide +kernel
theorem dX6_init_15 : decode cX6_init 15 = .ok (.aload_n 0, 1) := by decide +kernel
theorem dX6_init_16 : decode cX6_init 16 = .ok (.new 9, 3) := by decide +kernel
theorem dX6_init_19 : decode cX6_init 19 = .ok (.dup, 1) := by decide +kernel
theorem dX6_init_20 : decode cX6_init 20 = .ok (.invokespecial 11, 3) := by decide +kernel
theorem dX6_init_23 : decode cX6_init 23 = .ok (.putfield 18, 3) := by decide +kernel
theorem dX6_init_26 : decode cX6_init 26 = .ok (.aload_n 0, 1) := by decide +kernel
theorem dX6_init_27 : decode cX6_init 27 = .ok (.new 21, 3) := by decide +kernel
theorem dX6_init_30 : decode cX6_init 30 = .ok (.dup, 1) := by decide +kernel
theorem dX6_init_31 : decode cX6_init 31 = .ok (.invokespecial 23, 3) := by decide +kernel
theorem dX6_init_34 : decode cX6_init 34 = .ok (.putfield 24, 3) := by decide +kernel
theorem dX6_init_37 : decode cX6_init 37 = .ok (.aload_n 0, 1) := by decide +kernel
theorem dX6_init_38 : decode cX6_init 38 = .ok (.bipush 6, 2) := by decide +kernel
theorem dX6_init_40 : decode cX6_init 40 = .ok (.anewarray 28, 3) := by decide +kernel
theorem dX6_init_43 : decode cX6_init 43 = .ok (.putfield 30, 3) := by decide +kernel
theorem dX6_init_46 : decode cX6_init 46 = .ok (.aload_n 0, 1) := by decide +kernel
theorem dX6_init_47 : decode cX6_init 47 = .ok (.new 34, 3) := by decide +kernel
theorem dX6_init_50 : decode cX6_init 50 = .ok (.dup, 1) := by decide +kernel
theorem dX6_init_51 : decode cX6_init 51 = .ok (.invokespecial 36, 3) := by decide +kernel
theorem dX6_init_54 : decode cX6_init 54 = .ok (.putfield 37, 3) := by decide +kernel
theorem dX6_init_57 : decode cX6_init 57 = .ok (.aload_n 0, 1) := by decide +kernel
theorem dX6_init_58 : decode cX6_init 58 = .ok (.new 41, 3) := by decide +kernel
theorem dX6_init_61 : decode cX6_init 61 = .ok (.dup, 1) := by decide +kernel
theorem dX6_init_62 : decode cX6_init 62 = .ok (.invokespecial 43, 3) := by decide +kernel
theorem dX6_init_65 : decode cX6_init 65 = .ok (.putfield 44, 3) := by decide +kernel
theorem dX6_init_68 : decode cX6_init 68 = .ok (.aload_n 0, 1) := by decide +kernel
theorem dX6_init_69 : decode cX6_init 69 = .ok (.new 41, 3) := by decide +kernel
theorem dX6_init_72 : decode cX6_init 72 = .ok (.dup, 1) := by decide +kernel
theorem dX6_init_73 : decode cX6_init 73 = .ok (.invokespecial 43, 3) := by decide +kernel
theorem dX6_init_76 : decode cX6_init 76 = .ok (.putfield 48, 3) := by decide +kernel
theorem dX6_init_79 : decode cX6_init 79 = .ok (.aload_n 0, 1) := by decide +kernel
theorem dX6_init_80 : decode cX6_init 80 = .ok (.bipush 16, 2) := by decide +kernel
theorem dX6_init_82 : decode cX6_init 82 = .ok (.anewarray 41, 3) := by decide +kernel
theorem dX6_init_85 : decode cX6_init 85 = .ok (.putfield 51, 3) := by decide +kernel
theorem dX6_init_88 : decode cX6_init 88 = .ok (.aload_n 0, 1) := by decide +kernel
theorem dX6_init_89 : decode cX6_init 89 = .ok (.iconst 3, 1) := by decide +kernel
theorem dX6_init_90 : decode cX6_init 90 = .ok (.newarray .int, 2) := by decide +kernel
theorem dX6_init_92 : decode cX6_init 92 = .ok (.putfield 55, 3) := by decide +kernel
theorem dX6_init_95 : decode cX6_init 95 = .ok (.iconst 0, 1) := by decide +kernel
theorem dX6_init_96 : decode cX6_init 96 = .ok (.istore_n 1, 1) := by decide +kernel
theorem dX6_init_97 : decode cX6_init 97 = .ok (.iload_n 1, 1) := by decide +kernel
theorem dX6_init_98 : decode cX6_init 98 = .ok (.bipush 6, 2) := by decide +kernel
theorem dX6_init_100 : decode cX6_init 100 = .ok (.if_icmp .ge 22, 3) := by decide +kernel
theorem dX6_init_103 : decode cX6_init 103 = .ok (.aload_n 0, 1) := by decide +kernel
theorem dX6_init_104 : decode cX6_init 104 = .ok (.getfield 30, 3) := by decide +kernel
theorem dX6_init_107 : decode cX6_init 107 = .ok (.iload_n 1, 1) := by decide +kernel
theorem dX6_init_108 : decode cX6_init 108 = .ok (.new 28, 3) := by decide +kernel
theorem dX6_init_111 : decode cX6_init 111 = .ok (.dup, 1) := by decide +kernel
theorem dX6_init_112 : decode cX6_init 112 = .ok (.invokespecial 59, 3) := by decide +kernel
theorem dX6_init_115 : decode cX6_init 115 = .ok (.aastore, 1) := by decide +kernel
theorem dX6_init_116 : decode cX6_init 116 = .ok (.iinc 1 1, 3) := by decide +kernel
theorem dX6_init_119 : decode cX6_init 119 = .ok (.goto (-22), 3) := by decide +kernel
theorem dX6_init_122 : decode cX6_init 122 = .ok (.iconst 0, 1) := by decide +kernel
theorem dX6_init_123 : decode cX6_init 123 = .ok (.istore_n 1, 1) := by decide +kernel
theorem dX6_init_124 : decode cX6_init 124 = .ok (.iload_n 1, 1) := by decide +kernel
theorem dX6_init_125 : decode cX6_init 125 = .ok (.bipush 16, 2) := by decide +kernel
theorem dX6_init_127 : decode cX6_init 127 = .ok (.if_icmp .ge 22, 3) := by decide +kernel
theorem dX6_init_130 : decode cX6_init 130 = .ok (.aload_n 0, 1) := by decide +kernel
theorem dX6_init_131 : decode cX6_init 131 = .ok (.getfield 51, 3) := by decide +kernel
theorem dX6_init_134 : decode cX6_init 134 = .ok (.iload_n 1, 1) := by decide +kernel
theorem dX6_init_135 : decode cX6_init 135 = .ok (.new 41, 3) := by decide +kernel
theorem dX6_init_138 : decode cX6_init 138 = .ok (.dup, 1) := by decide +kernel
theorem dX6_init_139 : decode cX6_init 139 = .ok (.invokespecial 43, 3) := by decide +kernel
theorem dX6_init_142 : decode cX6_init 142 = .ok (.aastore, 1) := by decide +kernel
theorem dX6_init_143 : decode cX6_init 143 = .ok (.iinc 1 1, 3) := by decide +kernel
theorem dX6_init_146 : decode cX6_init 146 = .ok (.goto (-22), 3) := by decide +kernel
theorem dX6_init_149 : decode cX6_init 149 = .ok (.return_, 1) := by decide +kernel
theorem dX6_spread_0 : decode cX6_spread 0 = .ok (.iload_n 1, 1) := by decide +kernel
theorem dX6_spread_1 : decode cX6_spread 1 = .ok (.invokestatic 60, 3) := by decide +kernel
theorem dX6_spread_4 : decode cX6_spread 4 = .ok (.ifCond .eq 10, 3) := by decide +kernel
theorem dX6_spread_7 : decode cX6_spread 7 = .ok (.iload_n 2, 1) := by decide +kernel
theorem dX6_spread_8 : decode cX6_spread 8 = .ok (.invokestatic 64, 3) := by decide +kernel
theorem dX6_spread_11 : decode cX6_spread 11 = .ok (.ifCond .ne 5, 3) := by decide +kernel
theorem dX6_spread_14 : decode cX6_spread 14 = .ok (.iconst (-1), 1) := by decide +kernel
theorem dX6_spread_15 : decode cX6_spread 15 = .ok (.ireturn, 1) := by decide +kernel
theorem dX6_spread_16 : decode cX6_spread 16 = .ok (.iload_n 3, 1) := by decide +kernel
theorem dX6_spread_17 : decode cX6_spread 17 = .ok (.iconst 1, 1) := by decide +kernel
theorem dX6_spread_18 : decode cX6_spread 18 = .ok (.ldc 67, 2) := by decide +kernel
theorem dX6_spread_20 : decode cX6_spread 20 = .ok (.invokestatic 68, 3) := by decide +kernel
theorem dX6_spread_23 : decode cX6_spread 23 = .ok (.ifCond .eq 20, 3) := by decide +kernel
theorem dX6_spread_26 : decode cX6_spread 26 = .ok (.iload 4, 2) := by decide +kernel
theorem dX6_spread_28 : decode cX6_spread 28 = .ok (.iconst 1, 1) := by decide +kernel
theorem dX6_spread_29 : decode cX6_spread 29 = .ok (.ldc 67, 2) := by decide +kernel
theorem dX6_spread_31 : decode cX6_spread 31 = .ok (.invokestatic 68, 3) := by decide +kernel
theorem dX6_spread_34 : decode cX6_spread 34 = .ok (.ifCond .eq 9, 3) := by decide +kernel
theorem dX6_spread_37 : decode cX6_spread 37 = .ok (.iload_n 3, 1) := by decide +kernel
theorem dX6_spread_38 : decode cX6_spread 38 = .ok (.iload 4, 2) := by decide +kernel
theorem dX6_spread_40 : decode cX6_spread 40 = .ok (.if_icmp .lt 6, 3) := by decide +kernel
theorem dX6_spread_43 : decode cX6_spread 43 = .ok (.bipush (-2), 2) := by decide +kernel
theorem dX6_spread_45 : decode cX6_spread 45 = .ok (.ireturn, 1) := by decide +kernel
theorem dX6_spread_46 : decode cX6_spread 46 = .ok (.aload_n 0, 1) := by decide +kernel
theorem dX6_spread_47 : decode cX6_spread 47 = .ok (.getfield 44, 3) := by decide +kernel
theorem dX6_spread_50 : decode cX6_spread 50 = .ok (.iload_n 3, 1) := by decide +kernel
theorem dX6_spread_51 : decode cX6_spread 51 = .ok (.i2l, 1) := by decide +kernel
theorem dX6_spread_52 : decode cX6_spread 52 = .ok (.iload 4, 2) := by decide +kernel
theorem dX6_spread_54 : decode cX6_spread 54 = .ok (.i2l, 1) := by decide +kernel
theorem dX6_spread_55 : decode cX6_spread 55 = .ok (.invokevirtual 72, 3) := by decide +kernel
theorem dX6_spread_58 : decode cX6_spread 58 = .ok (.aload_n 0, 1) := by decide +kernel
theorem dX6_spread_59 : decode cX6_spread 59 = .ok (.getfield 12, 3) := by decide +kernel
theorem dX6_spread_62 : decode cX6_spread 62 = .ok (.getfield 76, 3) := by decide +kernel
theorem dX6_spread_65 : decode cX6_spread 65 = .ok (.iload_n 1, 1) := by decide +kernel
theorem dX6_spread_66 : decode cX6_spread 66 = .ok (.aaload, 1) := by decide +kernel
theorem dX6_spread_67 : decode cX6_spread 67 = .ok (.iload_n 2, 1) := by decide +kernel
theorem dX6_spread_68 : decode cX6_spread 68 = .ok (.aload_n 0, 1) := by decide +kernel
theorem dX6_spread_69 : decode cX6_spread 69 = .ok (.getfield 44, 3) := by decide +kernel
theorem dX6_spread_72 : decode cX6_spread 72 = .ok (.invokevirtual 80, 3) := by decide +kernel
theorem dX6_spread_75 : decode cX6_spread 75 = .ok (.aload_n 0, 1) := by decide +kernel
theorem dX6_spread_76 : decode cX6_spread 76 = .ok (.getfield 44, 3) := by decide +kernel
theorem dX6_spread_79 : decode cX6_spread 79 = .ok (.invokevirtual 84, 3) := by decide +kernel
theorem dX6_spread_82 : decode cX6_spread 82 = .ok (.ifCond .eq 7, 3) := by decide +kernel
theorem dX6_spread_85 : decode cX6_spread 85 = .ok (.iconst 1, 1) := by decide +kernel
theorem dX6_spread_86 : decode cX6_spread 86 = .ok (.goto 4, 3) := by decide +kernel
theorem dX6_spread_89 : decode cX6_spread 89 = .ok (.iconst 0, 1) := by decide +kernel
theorem dX6_spread_90 : decode cX6_spread 90 = .ok (.ireturn, 1) := by decide +kernel
theorem dX6_begin_0 : decode cX6_begin 0 = .ok (.iload_n 1, 1) := by decide +kernel
theorem dX6_begin_1 : decode cX6_begin 1 = .ok (.invokestatic 60, 3) := by decide +kernel
theorem dX6_begin_4 : decode cX6_begin 4 = .ok (.ifCond .eq 10, 3) := by decide +kernel
theorem dX6_begin_7 : decode cX6_begin 7 = .ok (.iload_n 2, 1) := by decide +kernel
theorem dX6_begin_8 : decode cX6_begin 8 = .ok (.invokestatic 64, 3) := by decide +kernel
theorem dX6_begin_11 : decode cX6_begin 11 = .ok (.ifCond .ne 5, 3) := by decide +kernel
theorem dX6_begin_14 : decode cX6_begin 14 = .ok (.iconst (-1), 1) := by decide +kernel
theorem dX6_begin_15 : decode cX6_begin 15 = .ok (.ireturn, 1) := by decide +kernel
theorem dX6_begin_16 : decode cX6_begin 16 = .ok (.aload_n 0, 1) := by decide +kernel
theorem dX6_begin_17 : decode cX6_begin 17 = .ok (.getfield 12, 3) := by decide +kernel
theorem dX6_begin_20 : decode cX6_begin 20 = .ok (.getfield 76, 3) := by decide +kernel
theorem dX6_begin_23 : decode cX6_begin 23 = .ok (.iload_n 1, 1) := by decide +kernel
theorem dX6_begin_24 : decode cX6_begin 24 = .ok (.aaload, 1) := by decide +kernel
theorem dX6_begin_25 : decode cX6_begin 25 = .ok (.getfield 88, 3) := by decide +kernel
theorem dX6_begin_28 : decode cX6_begin 28 = .ok (.istore_n 3, 1) := by decide +kernel
theorem dX6_begin_29 : decode cX6_begin 29 = .ok (.aload_n 0, 1) := by decide +kernel
theorem dX6_begin_30 : decode cX6_begin 30 = .ok (.getfield 12, 3) := by decide +kernel
theorem dX6_begin_33 : decode cX6_begin 33 = .ok (.getfield 76, 3) := by decide +kernel
theorem dX6_begin_36 : decode cX6_begin 36 = .ok (.iload_n 1, 1) := by decide +kernel
theorem dX6_begin_37 : decode cX6_begin 37 = .ok (.aaload, 1) := by decide +kernel
theorem dX6_begin_38 : decode cX6_begin 38 = .ok (.iload_n 2, 1) := by decide +kernel
theorem dX6_begin_39 : decode cX6_begin 39 = .ok (.invokevirtual 92, 3) := by decide +kernel
theorem dX6_begin_42 : decode cX6_begin 42 = .ok (.iload_n 3, 1) := by decide +kernel
theorem dX6_begin_43 : decode cX6_begin 43 = .ok (.ireturn, 1) := by decide +kernel
theorem dX6_add_0 : decode cX6_add 0 = .ok (.iload_n 1, 1) := by decide +kernel
theorem dX6_add_1 : decode cX6_add 1 = .ok (.invokestatic 60, 3) := by decide +kernel
theorem dX6_add_4 : decode cX6_add 4 = .ok (.ifCond .ne 5, 3) := by decide +kernel
theorem dX6_add_7 : decode cX6_add 7 = .ok (.iconst (-1), 1) := by decide +kernel
theorem dX6_add_8 : decode cX6_add 8 = .ok (.ireturn, 1) := by decide +kernel
theorem dX6_add_9 : decode cX6_add 9 = .ok (.iload_n 2, 1) := by decide +kernel
theorem dX6_add_10 : decode cX6_add 10 = .ok (.invokestatic 96, 3) := by decide +kernel
theorem dX6_add_13 : decode cX6_add 13 = .ok (.ifCond .ne 6, 3) := by decide +kernel
theorem dX6_add_16 : decode cX6_add 16 = .ok (.bipush (-2), 2) := by decide +kernel
theorem dX6_add_18 : decode cX6_add 18 = .ok (.ireturn, 1) := by decide +kernel
theorem dX6_add_19 : decode cX6_add 19 = .ok (.aload_n 0, 1) := by decide +kernel
theorem dX6_add_20 : decode cX6_add 20 = .ok (.getfield 12, 3) := by decide +kernel
theorem dX6_add_23 : decode cX6_add 23 = .ok (.getfield 76, 3) := by decide +kernel
theorem dX6_add_26 : decode cX6_add 26 = .ok (.iload_n 1, 1) := by decide +kernel
theorem dX6_add_27 : decode cX6_add 27 = .ok (.aaload, 1) := by decide +kernel
theorem dX6_add_28 : decode cX6_add 28 = .ok (.iload_n 2, 1) := by decide +kernel
theorem dX6_add_29 : decode cX6_add 29 = .ok (.invokevirtual 99, 3) := by decide +kernel
theorem dX6_add_32 : decode cX6_add 32 = .ok (.ifCond .eq 18, 3) := by decide +kernel
theorem dX6_add_35 : decode cX6_add 35 = .ok (.aload_n 0, 1) := by decide +kernel
theorem dX6_add_36 : decode cX6_add 36 = .ok (.getfield 12, 3) := by decide +kernel
theorem dX6_add_39 : decode cX6_add 39 = .ok (.getfield 76, 3) := by decide +kernel
theorem dX6_add_42 : decode cX6_add 42 = .ok (.iload_n 1, 1) := by decide +kernel
theorem dX6_add_43 : decode cX6_add 43 = .ok (.aaload, 1) := by decide +kernel
theorem dX6_add_44 : decode cX6_add 44 = .ok (.getfield 88, 3) := by decide +kernel
theorem dX6_add_47 : decode cX6_add 47 = .ok (.goto 5, 3) := by decide +kernel
theorem dX6_add_50 : decode cX6_add 50 = .ok (.bipush (-4), 2) := by decide +kernel
theorem dX6_add_52 : decode cX6_add 52 = .ok (.ireturn, 1) := by decide +kernel
theorem dX6_cut_0 : decode cX6_cut 0 = .ok (.iload_n 1, 1) := by decide +kernel
theorem dX6_cut_1 : decode cX6_cut 1 = .ok (.invokestatic 60, 3) := by decide +kernel
theorem dX6_cut_4 : decode cX6_cut 4 = .ok (.ifCond .ne 5, 3) := by decide +kernel
theorem dX6_cut_7 : decode cX6_cut 7 = .ok (.iconst (-1), 1) := by decide +kernel
theorem dX6_cut_8 : decode cX6_cut 8 = .ok (.ireturn, 1) := by decide +kernel
theorem dX6_cut_9 : decode cX6_cut 9 = .ok (.aload_n 0, 1) := by decide +kernel
theorem dX6_cut_10 : decode cX6_cut 10 = .ok (.getfield 12, 3) := by decide +kernel
theorem dX6_cut_13 : decode cX6_cut 13 = .ok (.getfield 76, 3) := by decide +kernel
theorem dX6_cut_16 : decode cX6_cut 16 = .ok (.iload_n 1, 1) := by decide +kernel
theorem dX6_cut_17 : decode cX6_cut 17 = .ok (.aaload, 1) := by decide +kernel
theorem dX6_cut_18 : decode cX6_cut 18 = .ok (.getfield 88, 3) := by decide +kernel
theorem dX6_cut_21 : decode cX6_cut 21 = .ok (.istore_n 3, 1) := by decide +kernel
theorem dX6_cut_22 : decode cX6_cut 22 = .ok (.iload_n 2, 1) := by decide +kernel
theorem dX6_cut_23 : decode cX6_cut 23 = .ok (.iconst 0, 1) := by decide +kernel
theorem dX6_cut_24 : decode cX6_cut 24 = .ok (.iload_n 3, 1) := by decide +kernel
theorem dX6_cut_25 : decode cX6_cut 25 = .ok (.invokestatic 68, 3) := by decide +kernel
theorem dX6_cut_28 : decode cX6_cut 28 = .ok (.ifCond .ne 6, 3) := by decide +kernel
theorem dX6_cut_31 : decode cX6_cut 31 = .ok (.bipush (-2), 2) := by decide +kernel
theorem dX6_cut_33 : decode cX6_cut 33 = .ok (.ireturn, 1) := by decide +kernel
theorem dX6_cut_34 : decode cX6_cut 34 = .ok (.aload_n 0, 1) := by decide +kernel
theorem dX6_cut_35 : decode cX6_cut 35 = .ok (.getfield 12, 3) := by decide +kernel
theorem dX6_cut_38 : decode cX6_cut 38 = .ok (.getfield 76, 3) := by decide +kernel
theorem dX6_cut_41 : decode cX6_cut 41 = .ok (.iload_n 1, 1) := by decide +kernel
theorem dX6_cut_42 : decode cX6_cut 42 = .ok (.aaload, 1) := by decide +kernel
theorem dX6_cut_43 : decode cX6_cut 43 = .ok (.iload_n 2, 1) := by decide +kernel
theorem dX6_cut_44 : decode cX6_cut 44 = .ok (.putfield 88, 3) := by decide +kernel
theorem dX6_cut_47 : decode cX6_cut 47 = .ok (.iload_n 3, 1) := by decide +kernel
theorem dX6_cut_48 : decode cX6_cut 48 = .ok (.iload_n 2, 1) := by decide +kernel
theorem dX6_cut_49 : decode cX6_cut 49 = .ok (.isub, 1) := by decide +kernel
theorem dX6_cut_50 : decode cX6_cut 50 = .ok (.ireturn, 1) := by decide +kernel
theorem dX6_copies_0 : decode cX6_copies 0 = .ok (.iload_n 1, 1) := by decide +kernel
theorem dX6_copies_1 : decode cX6_copies 1 = .ok (.invokestatic 60, 3) := by decide +kernel
theorem dX6_copies_4 : decode cX6_copies 4 = .ok (.ifCond .eq 10, 3) := by decide +kernel
theorem dX6_copies_7 : decode cX6_copies 7 = .ok (.iload_n 2, 1) := by decide +kernel
theorem dX6_copies_8 : decode cX6_copies 8 = .ok (.invokestatic 60, 3) := by decide +kernel
theorem dX6_copies_11 : decode cX6_copies 11 = .ok (.ifCond .ne 5, 3) := by decide +kernel
theorem dX6_copies_14 : decode cX6_copies 14 = .ok (.iconst (-1), 1) := by decide +kernel
theorem dX6_copies_15 : decode cX6_copies 15 = .ok (.ireturn, 1) := by decide +kernel
theorem dX6_copies_16 : decode cX6_copies 16 = .ok (.aload_n 0, 1) := by decide +kernel
theorem dX6_copies_17 : decode cX6_copies 17 = .ok (.getfield 12, 3) := by decide +kernel
theorem dX6_copies_20 : decode cX6_copies 20 = .ok (.getfield 76, 3) := by decide +kernel
theorem dX6_copies_23 : decode cX6_copies 23 = .ok (.iload_n 1, 1) := by decide +kernel
theorem dX6_copies_24 : decode cX6_copies 24 = .ok (.aaload, 1) := by decide +kernel
theorem dX6_copies_25 : decode cX6_copies 25 = .ok (.aload_n 0, 1) := by decide +kernel
theorem dX6_copies_26 : decode cX6_copies 26 = .ok (.getfield 12, 3) := by decide +kernel
theorem dX6_copies_29 : decode cX6_copies 29 = .ok (.getfield 76, 3) := by decide +kernel
theorem dX6_copies_32 : decode cX6_copies 32 = .ok (.iload_n 2, 1) := by decide +kernel
theorem dX6_copies_33 : decode cX6_copies 33 = .ok (.aaload, 1) := by decide +kernel
theorem dX6_copies_34 : decode cX6_copies 34 = .ok (.invokevirtual 102, 3) := by decide +kernel
theorem dX6_copies_37 : decode cX6_copies 37 = .ok (.aload_n 0, 1) := by decide +kernel
theorem dX6_copies_38 : decode cX6_copies 38 = .ok (.getfield 12, 3) := by decide +kernel
theorem dX6_copies_41 : decode cX6_copies 41 = .ok (.getfield 76, 3) := by decide +kernel
theorem dX6_copies_44 : decode cX6_copies 44 = .ok (.iload_n 1, 1) := by decide +kernel
theorem dX6_copies_45 : decode cX6_copies 45 = .ok (.aaload, 1) := by decide +kernel
theorem dX6_copies_46 : decode cX6_copies 46 = .ok (.getfield 88, 3) := by decide +kernel
theorem dX6_copies_49 : decode cX6_copies 49 = .ok (.ireturn, 1) := by decide +kernel
theorem dX6_works_0 : decode cX6_works 0 = .ok (.iload_n 1, 1) := by decide +kernel
theorem dX6_works_1 : decode cX6_works 1 = .ok (.invokestatic 60, 3) := by decide +kernel
theorem dX6_works_4 : decode cX6_works 4 = .ok (.ifCond .eq 27, 3) := by decide +kernel
theorem dX6_works_7 : decode cX6_works 7 = .ok (.iload_n 2, 1) := by decide +kernel
theorem dX6_works_8 : decode cX6_works 8 = .ok (.invokestatic 60, 3) := by decide +kernel
theorem dX6_works_11 : decode cX6_works 11 = .ok (.ifCond .eq 20, 3) := by decide +kernel
theorem dX6_works_14 : decode cX6_works 14 = .ok (.iload_n 3, 1) := by decide +kernel
theorem dX6_works_15 : decode cX6_works 15 = .ok (.invokestatic 60, 3) := by decide +kernel
theorem dX6_works_18 : decode cX6_works 18 = .ok (.ifCond .eq 13, 3) := by decide +kernel
theorem dX6_works_21 : decode cX6_works 21 = .ok (.iload 4, 2) := by decide +kernel
theorem dX6_works_23 : decode cX6_works 23 = .ok (.iconst 0, 1) := by decide +kernel
theorem dX6_works_24 : decode cX6_works 24 = .ok (.iconst 2, 1) := by decide +kernel
theorem dX6_works_25 : decode cX6_works 25 = .ok (.invokestatic 68, 3) := by decide +kernel
theorem dX6_works_28 : decode cX6_works 28 = .ok (.ifCond .ne 5, 3) := by decide +kernel
theorem dX6_works_31 : decode cX6_works 31 = .ok (.iconst (-1), 1) := by decide +kernel
theorem dX6_works_32 : decode cX6_works 32 = .ok (.ireturn, 1) := by decide +kernel
theorem dX6_works_33 : decode cX6_works 33 = .ok (.aload_n 0, 1) := by decide +kernel
theorem dX6_works_34 : decode cX6_works 34 = .ok (.getfield 12, 3) := by decide +kernel
theorem dX6_works_37 : decode cX6_works 37 = .ok (.getfield 76, 3) := by decide +kernel
theorem dX6_works_40 : decode cX6_works 40 = .ok (.iload_n 2, 1) := by decide +kernel
theorem dX6_works_41 : decode cX6_works 41 = .ok (.aaload, 1) := by decide +kernel
theorem dX6_works_42 : decode cX6_works 42 = .ok (.aload_n 0, 1) := by decide +kernel
theorem dX6_works_43 : decode cX6_works 43 = .ok (.getfield 12, 3) := by decide +kernel
theorem dX6_works_46 : decode cX6_works 46 = .ok (.getfield 76, 3) := by decide +kernel
theorem dX6_works_49 : decode cX6_works 49 = .ok (.iload_n 2, 1) := by decide +kernel
theorem dX6_works_50 : decode cX6_works 50 = .ok (.aaload, 1) := by decide +kernel
theorem dX6_works_51 : decode cX6_works 51 = .ok (.getfield 88, 3) := by decide +kernel
theorem dX6_works_54 : decode cX6_works 54 = .ok (.aload_n 0, 1) := by decide +kernel
theorem dX6_works_55 : decode cX6_works 55 = .ok (.getfield 44, 3) := by decide +kernel
theorem dX6_works_58 : decode cX6_works 58 = .ok (.invokevirtual 106, 3) := by decide +kernel
theorem dX6_works_61 : decode cX6_works 61 = .ok (.aload_n 0, 1) := by decide +kernel
theorem dX6_works_62 : decode cX6_works 62 = .ok (.getfield 12, 3) := by decide +kernel
theorem dX6_works_65 : decode cX6_works 65 = .ok (.getfield 76, 3) := by decide +kernel
theorem dX6_works_68 : decode cX6_works 68 = .ok (.iload_n 3, 1) := by decide +kernel
theorem dX6_works_69 : decode cX6_works 69 = .ok (.aaload, 1) := by decide +kernel
theorem dX6_works_70 : decode cX6_works 70 = .ok (.aload_n 0, 1) := by decide +kernel
theorem dX6_works_71 : decode cX6_works 71 = .ok (.getfield 12, 3) := by decide +kernel
theorem dX6_works_74 : decode cX6_works 74 = .ok (.getfield 76, 3) := by decide +kernel
theorem dX6_works_77 : decode cX6_works 77 = .ok (.iload_n 3, 1) := by decide +kernel
theorem dX6_works_78 : decode cX6_works 78 = .ok (.aaload, 1) := by decide +kernel
theorem dX6_works_79 : decode cX6_works 79 = .ok (.getfield 88, 3) := by decide +kernel
theorem dX6_works_82 : decode cX6_works 82 = .ok (.aload_n 0, 1) := by decide +kernel
theorem dX6_works_83 : decode cX6_works 83 = .ok (.getfield 48, 3) := by decide +kernel
theorem dX6_works_86 : decode cX6_works 86 = .ok (.invokevirtual 106, 3) := by decide +kernel
theorem dX6_works_89 : decode cX6_works 89 = .ok (.aload_n 0, 1) := by decide +kernel
theorem dX6_works_90 : decode cX6_works 90 = .ok (.getfield 44, 3) := by decide +kernel
theorem dX6_works_93 : decode cX6_works 93 = .ok (.getfield 109, 3) := by decide +kernel
theorem dX6_works_96 : decode cX6_works 96 = .ok (.ifCond .eq 13, 3) := by decide +kernel
theorem dX6_works_99 : decode cX6_works 99 = .ok (.aload_n 0, 1) := by decide +kernel
theorem dX6_works_100 : decode cX6_works 100 = .ok (.getfield 48, 3) := by decide +kernel
theorem dX6_works_103 : decode cX6_works 103 = .ok (.getfield 109, 3) := by decide +kernel
theorem dX6_works_106 : decode cX6_works 106 = .ok (.ifCond .ne 6, 3) := by decide +kernel
theorem dX6_works_109 : decode cX6_works 109 = .ok (.bipush (-3), 2) := by decide +kernel
theorem dX6_works_111 : decode cX6_works 111 = .ok (.ireturn, 1) := by decide +kernel
theorem dX6_works_112 : decode cX6_works 112 = .ok (.aload_n 0, 1) := by decide +kernel
theorem dX6_works_113 : decode cX6_works 113 = .ok (.iload 4, 2) := by decide +kernel
theorem dX6_works_115 : decode cX6_works 115 = .ok (.invokevirtual 113, 3) := by decide +kernel
theorem dX6_works_118 : decode cX6_works 118 = .ok (.aload_n 0, 1) := by decide +kernel
theorem dX6_works_119 : decode cX6_works 119 = .ok (.getfield 44, 3) := by decide +kernel
theorem dX6_works_122 : decode cX6_works 122 = .ok (.invokevirtual 116, 3) := by decide +kernel
theorem dX6_works_125 : decode cX6_works 125 = .ok (.ifCond .ne 6, 3) := by decide +kernel
theorem dX6_works_128 : decode cX6_works 128 = .ok (.bipush (-3), 2) := by decide +kernel
theorem dX6_works_130 : decode cX6_works 130 = .ok (.ireturn, 1) := by decide +kernel
theorem dX6_works_131 : decode cX6_works 131 = .ok (.aload_n 0, 1) := by decide +kernel
theorem dX6_works_132 : decode cX6_works 132 = .ok (.getfield 12, 3) := by decide +kernel
theorem dX6_works_135 : decode cX6_works 135 = .ok (.getfield 76, 3) := by decide +kernel
theorem dX6_works_138 : decode cX6_works 138 = .ok (.iload_n 1, 1) := by decide +kernel
theorem dX6_works_139 : decode cX6_works 139 = .ok (.aaload, 1) := by decide +kernel
theorem dX6_works_140 : decode cX6_works 140 = .ok (.aload_n 0, 1) := by decide +kernel
theorem dX6_works_141 : decode cX6_works 141 = .ok (.getfield 12, 3) := by decide +kernel
theorem dX6_works_144 : decode cX6_works 144 = .ok (.getfield 76, 3) := by decide +kernel
theorem dX6_works_147 : decode cX6_works 147 = .ok (.iload_n 1, 1) := by decide +kernel
theorem dX6_works_148 : decode cX6_works 148 = .ok (.aaload, 1) := by decide +kernel
theorem dX6_works_149 : decode cX6_works 149 = .ok (.getfield 119, 3) := by decide +kernel
theorem dX6_works_152 : decode cX6_works 152 = .ok (.aload_n 0, 1) := by decide +kernel
theorem dX6_works_153 : decode cX6_works 153 = .ok (.getfield 44, 3) := by decide +kernel
theorem dX6_works_156 : decode cX6_works 156 = .ok (.invokevirtual 80, 3) := by decide +kernel
theorem dX6_works_159 : decode cX6_works 159 = .ok (.aload_n 0, 1) := by decide +kernel
theorem dX6_works_160 : decode cX6_works 160 = .ok (.getfield 44, 3) := by decide +kernel
theorem dX6_works_163 : decode cX6_works 163 = .ok (.invokevirtual 84, 3) := by decide +kernel
theorem dX6_works_166 : decode cX6_works 166 = .ok (.ifCond .eq 7, 3) := by decide +kernel
theorem dX6_works_169 : decode cX6_works 169 = .ok (.iconst 1, 1) := by decide +kernel
theorem dX6_works_170 : decode cX6_works 170 = .ok (.goto 4, 3) := by decide +kernel
theorem dX6_works_173 : decode cX6_works 173 = .ok (.iconst 0, 1) := by decide +kernel
theorem dX6_works_174 : decode cX6_works 174 = .ok (.ireturn, 1) := by decide +kernel
theorem dX6_feed_0 : decode cX6_feed 0 = .ok (.iload_n 1, 1) := by decide +kernel
theorem dX6_feed_1 : decode cX6_feed 1 = .ok (.iconst 0, 1) := by decide +kernel
theorem dX6_feed_2 : decode cX6_feed 2 = .ok (.bipush 127, 2) := by decide +kernel
theorem dX6_feed_4 : decode cX6_feed 4 = .ok (.invokestatic 68, 3) := by decide +kernel
theorem dX6_feed_7 : decode cX6_feed 7 = .ok (.ifCond .ne 6, 3) := by decide +kernel
theorem dX6_feed_10 : decode cX6_feed 10 = .ok (.bipush (-2), 2) := by decide +kernel
theorem dX6_feed_12 : decode cX6_feed 12 = .ok (.ireturn, 1) := by decide +kernel
theorem dX6_feed_13 : decode cX6_feed 13 = .ok (.aload_n 0, 1) := by decide +kernel
theorem dX6_feed_14 : decode cX6_feed 14 = .ok (.getfield 24, 3) := by decide +kernel
theorem dX6_feed_17 : decode cX6_feed 17 = .ok (.iload_n 1, 1) := by decide +kernel
theorem dX6_feed_18 : decode cX6_feed 18 = .ok (.invokevirtual 122, 3) := by decide +kernel
theorem dX6_feed_21 : decode cX6_feed 21 = .ok (.ifCond .eq 13, 3) := by decide +kernel
theorem dX6_feed_24 : decode cX6_feed 24 = .ok (.aload_n 0, 1) := by decide +kernel
theorem dX6_feed_25 : decode cX6_feed 25 = .ok (.getfield 24, 3) := by decide +kernel
theorem dX6_feed_28 : decode cX6_feed 28 = .ok (.getfield 125, 3) := by decide +kernel
theorem dX6_feed_31 : decode cX6_feed 31 = .ok (.goto 5, 3) := by decide +kernel
theorem dX6_feed_34 : decode cX6_feed 34 = .ok (.bipush (-4), 2) := by decide +kernel
theorem dX6_feed_36 : decode cX6_feed 36 = .ok (.ireturn, 1) := by decide +kernel
theorem dX6_read_0 : decode cX6_read 0 = .ok (.aload_n 0, 1) := by decide +kernel
theorem dX6_read_1 : decode cX6_read 1 = .ok (.getfield 24, 3) := by decide +kernel
theorem dX6_read_4 : decode cX6_read 4 = .ok (.invokevirtual 128, 3) := by decide +kernel
theorem dX6_read_7 : decode cX6_read 7 = .ok (.istore_n 1, 1) := by decide +kernel
theorem dX6_read_8 : decode cX6_read 8 = .ok (.aload_n 0, 1) := by decide +kernel
theorem dX6_read_9 : decode cX6_read 9 = .ok (.getfield 24, 3) := by decide +kernel
theorem dX6_read_12 : decode cX6_read 12 = .ok (.iconst 0, 1) := by decide +kernel
theorem dX6_read_13 : decode cX6_read 13 = .ok (.putfield 125, 3) := by decide +kernel
theorem dX6_read_16 : decode cX6_read 16 = .ok (.iload_n 1, 1) := by decide +kernel
theorem dX6_read_17 : decode cX6_read 17 = .ok (.iconst (-1), 1) := by decide +kernel
theorem dX6_read_18 : decode cX6_read 18 = .ok (.if_icmp .eq 8, 3) := by decide +kernel
theorem dX6_read_21 : decode cX6_read 21 = .ok (.bipush (-10), 2) := by decide +kernel
theorem dX6_read_23 : decode cX6_read 23 = .ok (.iload_n 1, 1) := by decide +kernel
theorem dX6_read_24 : decode cX6_read 24 = .ok (.isub, 1) := by decide +kernel
theorem dX6_read_25 : decode cX6_read 25 = .ok (.ireturn, 1) := by decide +kernel
theorem dX6_read_26 : decode cX6_read 26 = .ok (.iconst 0, 1) := by decide +kernel
theorem dX6_read_27 : decode cX6_read 27 = .ok (.istore_n 2, 1) := by decide +kernel
theorem dX6_read_28 : decode cX6_read 28 = .ok (.iconst 0, 1) := by decide +kernel
theorem dX6_read_29 : decode cX6_read 29 = .ok (.istore_n 3, 1) := by decide +kernel
theorem dX6_read_30 : decode cX6_read 30 = .ok (.iload_n 3, 1) := by decide +kernel
theorem dX6_read_31 : decode cX6_read 31 = .ok (.aload_n 0, 1) := by decide +kernel
theorem dX6_read_32 : decode cX6_read 32 = .ok (.getfield 24, 3) := by decide +kernel
theorem dX6_read_35 : decode cX6_read 35 = .ok (.getfield 132, 3) := by decide +kernel
theorem dX6_read_38 : decode cX6_read 38 = .ok (.if_icmp .ge 20, 3) := by decide +kernel
theorem dX6_read_41 : decode cX6_read 41 = .ok (.aload_n 0, 1) := by decide +kernel
theorem dX6_read_42 : decode cX6_read 42 = .ok (.iload_n 3, 1) := by decide +kernel
theorem dX6_read_43 : decode cX6_read 43 = .ok (.invokevirtual 135, 3) := by decide +kernel
theorem dX6_read_46 : decode cX6_read 46 = .ok (.ifCond .lt 6, 3) := by decide +kernel
theorem dX6_read_49 : decode cX6_read 49 = .ok (.iinc 2 1, 3) := by decide +kernel
theorem dX6_read_52 : decode cX6_read 52 = .ok (.iinc 3 1, 3) := by decide +kernel
theorem dX6_read_55 : decode cX6_read 55 = .ok (.goto (-25), 3) := by decide +kernel
theorem dX6_read_58 : decode cX6_read 58 = .ok (.iload_n 2, 1) := by decide +kernel
theorem dX6_read_59 : decode cX6_read 59 = .ok (.ireturn, 1) := by decide +kernel
theorem dX6_of_0 : decode cX6_of 0 = .ok (.iload_n 1, 1) := by decide +kernel
theorem dX6_of_1 : decode cX6_of 1 = .ok (.invokestatic 60, 3) := by decide +kernel
theorem dX6_of_4 : decode cX6_of 4 = .ok (.ifCond .eq 7, 3) := by decide +kernel
theorem dX6_of_7 : decode cX6_of 7 = .ok (.iload_n 2, 1) := by decide +kernel
theorem dX6_of_8 : decode cX6_of 8 = .ok (.ifCond .ge 5, 3) := by decide +kernel
theorem dX6_of_11 : decode cX6_of 11 = .ok (.iconst (-1), 1) := by decide +kernel
theorem dX6_of_12 : decode cX6_of 12 = .ok (.ireturn, 1) := by decide +kernel
theorem dX6_of_13 : decode cX6_of 13 = .ok (.aload_n 0, 1) := by decide +kernel
theorem dX6_of_14 : decode cX6_of 14 = .ok (.getfield 12, 3) := by decide +kernel
theorem dX6_of_17 : decode cX6_of 17 = .ok (.getfield 76, 3) := by decide +kernel
theorem dX6_of_20 : decode cX6_of 20 = .ok (.iload_n 1, 1) := by decide +kernel
theorem dX6_of_21 : decode cX6_of 21 = .ok (.aaload, 1) := by decide +kernel
theorem dX6_of_22 : decode cX6_of 22 = .ok (.astore_n 3, 1) := by decide +kernel
theorem dX6_of_23 : decode cX6_of 23 = .ok (.iload_n 2, 1) := by decide +kernel
theorem dX6_of_24 : decode cX6_of 24 = .ok (.aload_n 3, 1) := by decide +kernel
theorem dX6_of_25 : decode cX6_of 25 = .ok (.getfield 88, 3) := by decide +kernel
theorem dX6_of_28 : decode cX6_of 28 = .ok (.if_icmp .ge 12, 3) := by decide +kernel
theorem dX6_of_31 : decode cX6_of 31 = .ok (.aload_n 3, 1) := by decide +kernel
theorem dX6_of_32 : decode cX6_of 32 = .ok (.getfield 139, 3) := by decide +kernel
theorem dX6_of_35 : decode cX6_of 35 = .ok (.iload_n 2, 1) := by decide +kernel
theorem dX6_of_36 : decode cX6_of 36 = .ok (.iaload, 1) := by decide +kernel
theorem dX6_of_37 : decode cX6_of 37 = .ok (.goto 5, 3) := by decide +kernel
theorem dX6_of_40 : decode cX6_of 40 = .ok (.bipush (-5), 2) := by decide +kernel
theorem dX6_of_42 : decode cX6_of 42 = .ok (.ireturn, 1) := by decide +kernel
theorem dX6_told_0 : decode cX6_told 0 = .ok (.iload_n 1, 1) := by decide +kernel
theorem dX6_told_1 : decode cX6_told 1 = .ok (.invokestatic 60, 3) := by decide +kernel
theorem dX6_told_4 : decode cX6_told 4 = .ok (.ifCond .eq 12, 3) := by decide +kernel
theorem dX6_told_7 : decode cX6_told 7 = .ok (.iload_n 2, 1) := by decide +kernel
theorem dX6_told_8 : decode cX6_told 8 = .ok (.iconst 0, 1) := by decide +kernel
theorem dX6_told_9 : decode cX6_told 9 = .ok (.iconst 3, 1) := by decide +kernel
theorem dX6_told_10 : decode cX6_told 10 = .ok (.invokestatic 68, 3) := by decide +kernel
theorem dX6_told_13 : decode cX6_told 13 = .ok (.ifCond .ne 5, 3) := by decide +kernel
theorem dX6_told_16 : decode cX6_told 16 = .ok (.iconst (-1), 1) := by decide +kernel
theorem dX6_told_17 : decode cX6_told 17 = .ok (.ireturn, 1) := by decide +kernel
theorem dX6_told_18 : decode cX6_told 18 = .ok (.aload_n 0, 1) := by decide +kernel
theorem dX6_told_19 : decode cX6_told 19 = .ok (.getfield 12, 3) := by decide +kernel
theorem dX6_told_22 : decode cX6_told 22 = .ok (.getfield 76, 3) := by decide +kernel
theorem dX6_told_25 : decode cX6_told 25 = .ok (.iload_n 1, 1) := by decide +kernel
theorem dX6_told_26 : decode cX6_told 26 = .ok (.aaload, 1) := by decide +kernel
theorem dX6_told_27 : decode cX6_told 27 = .ok (.astore_n 3, 1) := by decide +kernel
theorem dX6_told_28 : decode cX6_told 28 = .ok (.iload_n 2, 1) := by decide +kernel
theorem dX6_told_29 : decode cX6_told 29 = .ok (.ifCond .ne 8, 3) := by decide +kernel
theorem dX6_told_32 : decode cX6_told 32 = .ok (.aload_n 3, 1) := by decide +kernel
theorem dX6_told_33 : decode cX6_told 33 = .ok (.getfield 119, 3) := by decide +kernel
theorem dX6_told_36 : decode cX6_told 36 = .ok (.ireturn, 1) := by decide +kernel
theorem dX6_told_37 : decode cX6_told 37 = .ok (.iload_n 2, 1) := by decide +kernel
theorem dX6_told_38 : decode cX6_told 38 = .ok (.iconst 1, 1) := by decide +kernel
theorem dX6_told_39 : decode cX6_told 39 = .ok (.if_icmp .ne 8, 3) := by decide +kernel
theorem dX6_told_42 : decode cX6_told 42 = .ok (.aload_n 3, 1) := by decide +kernel
theorem dX6_told_43 : decode cX6_told 43 = .ok (.getfield 88, 3) := by decide +kernel
theorem dX6_told_46 : decode cX6_told 46 = .ok (.ireturn, 1) := by decide +kernel
theorem dX6_told_47 : decode cX6_told 47 = .ok (.iload_n 2, 1) := by decide +kernel
theorem dX6_told_48 : decode cX6_told 48 = .ok (.iconst 2, 1) := by decide +kernel
theorem dX6_told_49 : decode cX6_told 49 = .ok (.if_icmp .ne 8, 3) := by decide +kernel
theorem dX6_told_52 : decode cX6_told 52 = .ok (.aload_n 3, 1) := by decide +kernel
theorem dX6_told_53 : decode cX6_told 53 = .ok (.invokevirtual 142, 3) := by decide +kernel
theorem dX6_told_56 : decode cX6_told 56 = .ok (.ireturn, 1) := by decide +kernel
theorem dX6_told_57 : decode cX6_told 57 = .ok (.aload_n 3, 1) := by decide +kernel
theorem dX6_told_58 : decode cX6_told 58 = .ok (.aload_n 3, 1) := by decide +kernel
theorem dX6_told_59 : decode cX6_told 59 = .ok (.getfield 88, 3) := by decide +kernel
theorem dX6_told_62 : decode cX6_told 62 = .ok (.aload_n 0, 1) := by decide +kernel
theorem dX6_told_63 : decode cX6_told 63 = .ok (.getfield 44, 3) := by decide +kernel
theorem dX6_told_66 : decode cX6_told 66 = .ok (.invokevirtual 106, 3) := by decide +kernel
theorem dX6_told_69 : decode cX6_told 69 = .ok (.aload_n 0, 1) := by decide +kernel
theorem dX6_told_70 : decode cX6_told 70 = .ok (.getfield 44, 3) := by decide +kernel
theorem dX6_told_73 : decode cX6_told 73 = .ok (.getfield 109, 3) := by decide +kernel
theorem dX6_told_76 : decode cX6_told 76 = .ok (.ifCond .eq 7, 3) := by decide +kernel
theorem dX6_told_79 : decode cX6_told 79 = .ok (.iconst 1, 1) := by decide +kernel
theorem dX6_told_80 : decode cX6_told 80 = .ok (.goto 4, 3) := by decide +kernel
theorem dX6_told_83 : decode cX6_told 83 = .ok (.iconst 0, 1) := by decide +kernel
theorem dX6_told_84 : decode cX6_told 84 = .ok (.ireturn, 1) := by decide +kernel
theorem dX6_worth_0 : decode cX6_worth 0 = .ok (.iload_n 1, 1) := by decide +kernel
theorem dX6_worth_1 : decode cX6_worth 1 = .ok (.invokestatic 60, 3) := by decide +kernel
theorem dX6_worth_4 : decode cX6_worth 4 = .ok (.ifCond .eq 10, 3) := by decide +kernel
theorem dX6_worth_7 : decode cX6_worth 7 = .ok (.iload_n 2, 1) := by decide +kernel
theorem dX6_worth_8 : decode cX6_worth 8 = .ok (.invokestatic 145, 3) := by decide +kernel
theorem dX6_worth_11 : decode cX6_worth 11 = .ok (.ifCond .ne 7, 3) := by decide +kernel
theorem dX6_worth_14 : decode cX6_worth 14 = .ok (.ldc2_w 148, 3) := by decide +kernel
theorem dX6_worth_17 : decode cX6_worth 17 = .ok (.lreturn, 1) := by decide +kernel
theorem dX6_worth_18 : decode cX6_worth 18 = .ok (.aload_n 0, 1) := by decide +kernel
theorem dX6_worth_19 : decode cX6_worth 19 = .ok (.getfield 12, 3) := by decide +kernel
theorem dX6_worth_22 : decode cX6_worth 22 = .ok (.getfield 76, 3) := by decide +kernel
theorem dX6_worth_25 : decode cX6_worth 25 = .ok (.iload_n 1, 1) := by decide +kernel
theorem dX6_worth_26 : decode cX6_worth 26 = .ok (.aaload, 1) := by decide +kernel
theorem dX6_worth_27 : decode cX6_worth 27 = .ok (.aload_n 0, 1) := by decide +kernel
theorem dX6_worth_28 : decode cX6_worth 28 = .ok (.getfield 12, 3) := by decide +kernel
theorem dX6_worth_31 : decode cX6_worth 31 = .ok (.getfield 76, 3) := by decide +kernel
theorem dX6_worth_34 : decode cX6_worth 34 = .ok (.iload_n 1, 1) := by decide +kernel
theorem dX6_worth_35 : decode cX6_worth 35 = .ok (.aaload, 1) := by decide +kernel
theorem dX6_worth_36 : decode cX6_worth 36 = .ok (.getfield 88, 3) := by decide +kernel
theorem dX6_worth_39 : decode cX6_worth 39 = .ok (.aload_n 0, 1) := by decide +kernel
theorem dX6_worth_40 : decode cX6_worth 40 = .ok (.getfield 44, 3) := by decide +kernel
theorem dX6_worth_43 : decode cX6_worth 43 = .ok (.invokevirtual 106, 3) := by decide +kernel
theorem dX6_worth_46 : decode cX6_worth 46 = .ok (.aload_n 0, 1) := by decide +kernel
theorem dX6_worth_47 : decode cX6_worth 47 = .ok (.getfield 44, 3) := by decide +kernel
theorem dX6_worth_50 : decode cX6_worth 50 = .ok (.iload_n 2, 1) := by decide +kernel
theorem dX6_worth_51 : decode cX6_worth 51 = .ok (.invokevirtual 150, 3) := by decide +kernel
theorem dX6_worth_54 : decode cX6_worth 54 = .ok (.lreturn, 1) := by decide +kernel
theorem dX6_written_0 : decode cX6_written 0 = .ok (.iload_n 1, 1) := by decide +kernel
theorem dX6_written_1 : decode cX6_written 1 = .ok (.invokestatic 60, 3) := by decide +kernel
theorem dX6_written_4 : decode cX6_written 4 = .ok (.ifCond .eq 7, 3) := by decide +kernel
theorem dX6_written_7 : decode cX6_written 7 = .ok (.iload_n 2, 1) := by decide +kernel
theorem dX6_written_8 : decode cX6_written 8 = .ok (.ifCond .ge 5, 3) := by decide +kernel
theorem dX6_written_11 : decode cX6_written 11 = .ok (.iconst (-1), 1) := by decide +kernel
theorem dX6_written_12 : decode cX6_written 12 = .ok (.ireturn, 1) := by decide +kernel
theorem dX6_written_13 : decode cX6_written 13 = .ok (.aload_n 0, 1) := by decide +kernel
theorem dX6_written_14 : decode cX6_written 14 = .ok (.getfield 12, 3) := by decide +kernel
theorem dX6_written_17 : decode cX6_written 17 = .ok (.getfield 76, 3) := by decide +kernel
theorem dX6_written_20 : decode cX6_written 20 = .ok (.iload_n 1, 1) := by decide +kernel
theorem dX6_written_21 : decode cX6_written 21 = .ok (.aaload, 1) := by decide +kernel
theorem dX6_written_22 : decode cX6_written 22 = .ok (.iload_n 2, 1) := by decide +kernel
theorem dX6_written_23 : decode cX6_written 23 = .ok (.invokevirtual 154, 3) := by decide +kernel
theorem dX6_written_26 : decode cX6_written 26 = .ok (.ireturn, 1) := by decide +kernel
theorem dX6_greater_0 : decode cX6_greater 0 = .ok (.iload_n 1, 1) := by decide +kernel
theorem dX6_greater_1 : decode cX6_greater 1 = .ok (.invokestatic 60, 3) := by decide +kernel
theorem dX6_greater_4 : decode cX6_greater 4 = .ok (.ifCond .eq 10, 3) := by decide +kernel
theorem dX6_greater_7 : decode cX6_greater 7 = .ok (.iload_n 2, 1) := by decide +kernel
theorem dX6_greater_8 : decode cX6_greater 8 = .ok (.invokestatic 60, 3) := by decide +kernel
theorem dX6_greater_11 : decode cX6_greater 11 = .ok (.ifCond .ne 5, 3) := by decide +kernel
theorem dX6_greater_14 : decode cX6_greater 14 = .ok (.iconst (-1), 1) := by decide +kernel
theorem dX6_greater_15 : decode cX6_greater 15 = .ok (.ireturn, 1) := by decide +kernel
theorem dX6_greater_16 : decode cX6_greater 16 = .ok (.aload_n 0, 1) := by decide +kernel
theorem dX6_greater_17 : decode cX6_greater 17 = .ok (.getfield 12, 3) := by decide +kernel
theorem dX6_greater_20 : decode cX6_greater 20 = .ok (.getfield 76, 3) := by decide +kernel
theorem dX6_greater_23 : decode cX6_greater 23 = .ok (.iload_n 1, 1) := by decide +kernel
theorem dX6_greater_24 : decode cX6_greater 24 = .ok (.aaload, 1) := by decide +kernel
theorem dX6_greater_25 : decode cX6_greater 25 = .ok (.getfield 119, 3) := by decide +kernel
theorem dX6_greater_28 : decode cX6_greater 28 = .ok (.aload_n 0, 1) := by decide +kernel
theorem dX6_greater_29 : decode cX6_greater 29 = .ok (.getfield 12, 3) := by decide +kernel
theorem dX6_greater_32 : decode cX6_greater 32 = .ok (.getfield 76, 3) := by decide +kernel
theorem dX6_greater_35 : decode cX6_greater 35 = .ok (.iload_n 2, 1) := by decide +kernel
theorem dX6_greater_36 : decode cX6_greater 36 = .ok (.aaload, 1) := by decide +kernel
theorem dX6_greater_37 : decode cX6_greater 37 = .ok (.getfield 119, 3) := by decide +kernel
theorem dX6_greater_40 : decode cX6_greater 40 = .ok (.if_icmp .eq 6, 3) := by decide +kernel
theorem dX6_greater_43 : decode cX6_greater 43 = .ok (.bipush (-3), 2) := by decide +kernel
theorem dX6_greater_45 : decode cX6_greater 45 = .ok (.ireturn, 1) := by decide +kernel
theorem dX6_greater_46 : decode cX6_greater 46 = .ok (.aload_n 0, 1) := by decide +kernel
theorem dX6_greater_47 : decode cX6_greater 47 = .ok (.getfield 12, 3) := by decide +kernel
theorem dX6_greater_50 : decode cX6_greater 50 = .ok (.getfield 76, 3) := by decide +kernel
theorem dX6_greater_53 : decode cX6_greater 53 = .ok (.iload_n 1, 1) := by decide +kernel
theorem dX6_greater_54 : decode cX6_greater 54 = .ok (.aaload, 1) := by decide +kernel
theorem dX6_greater_55 : decode cX6_greater 55 = .ok (.aload_n 0, 1) := by decide +kernel
theorem dX6_greater_56 : decode cX6_greater 56 = .ok (.getfield 12, 3) := by decide +kernel
theorem dX6_greater_59 : decode cX6_greater 59 = .ok (.getfield 76, 3) := by decide +kernel
theorem dX6_greater_62 : decode cX6_greater 62 = .ok (.iload_n 2, 1) := by decide +kernel
theorem dX6_greater_63 : decode cX6_greater 63 = .ok (.aaload, 1) := by decide +kernel
theorem dX6_greater_64 : decode cX6_greater 64 = .ok (.invokevirtual 157, 3) := by decide +kernel
theorem dX6_greater_67 : decode cX6_greater 67 = .ok (.ireturn, 1) := by decide +kernel
theorem dX6_worthier_0 : decode cX6_worthier 0 = .ok (.iload_n 1, 1) := by decide +kernel
theorem dX6_worthier_1 : decode cX6_worthier 1 = .ok (.invokestatic 60, 3) := by decide +kernel
theorem dX6_worthier_4 : decode cX6_worthier 4 = .ok (.ifCond .eq 10, 3) := by decide +kernel
theorem dX6_worthier_7 : decode cX6_worthier 7 = .ok (.iload_n 2, 1) := by decide +kernel
theorem dX6_worthier_8 : decode cX6_worthier 8 = .ok (.invokestatic 60, 3) := by decide +kernel
theorem dX6_worthier_11 : decode cX6_worthier 11 = .ok (.ifCond .ne 5, 3) := by decide +kernel
theorem dX6_worthier_14 : decode cX6_worthier 14 = .ok (.iconst (-1), 1) := by decide +kernel
theorem dX6_worthier_15 : decode cX6_worthier 15 = .ok (.ireturn, 1) := by decide +kernel
theorem dX6_worthier_16 : decode cX6_worthier 16 = .ok (.aload_n 0, 1) := by decide +kernel
theorem dX6_worthier_17 : decode cX6_worthier 17 = .ok (.getfield 12, 3) := by decide +kernel
theorem dX6_worthier_20 : decode cX6_worthier 20 = .ok (.getfield 76, 3) := by decide +kernel
theorem dX6_worthier_23 : decode cX6_worthier 23 = .ok (.iload_n 1, 1) := by decide +kernel
theorem dX6_worthier_24 : decode cX6_worthier 24 = .ok (.aaload, 1) := by decide +kernel
theorem dX6_worthier_25 : decode cX6_worthier 25 = .ok (.aload_n 0, 1) := by decide +kernel
theorem dX6_worthier_26 : decode cX6_worthier 26 = .ok (.getfield 12, 3) := by decide +kernel
theorem dX6_worthier_29 : decode cX6_worthier 29 = .ok (.getfield 76, 3) := by decide +kernel
theorem dX6_worthier_32 : decode cX6_worthier 32 = .ok (.iload_n 1, 1) := by decide +kernel
theorem dX6_worthier_33 : decode cX6_worthier 33 = .ok (.aaload, 1) := by decide +kernel
theorem dX6_worthier_34 : decode cX6_worthier 34 = .ok (.getfield 88, 3) := by decide +kernel
theorem dX6_worthier_37 : decode cX6_worthier 37 = .ok (.aload_n 0, 1) := by decide +kernel
theorem dX6_worthier_38 : decode cX6_worthier 38 = .ok (.getfield 44, 3) := by decide +kernel
theorem dX6_worthier_41 : decode cX6_worthier 41 = .ok (.invokevirtual 106, 3) := by decide +kernel
theorem dX6_worthier_44 : decode cX6_worthier 44 = .ok (.aload_n 0, 1) := by decide +kernel
theorem dX6_worthier_45 : decode cX6_worthier 45 = .ok (.getfield 12, 3) := by decide +kernel
theorem dX6_worthier_48 : decode cX6_worthier 48 = .ok (.getfield 76, 3) := by decide +kernel
theorem dX6_worthier_51 : decode cX6_worthier 51 = .ok (.iload_n 2, 1) := by decide +kernel
theorem dX6_worthier_52 : decode cX6_worthier 52 = .ok (.aaload, 1) := by decide +kernel
theorem dX6_worthier_53 : decode cX6_worthier 53 = .ok (.aload_n 0, 1) := by decide +kernel
theorem dX6_worthier_54 : decode cX6_worthier 54 = .ok (.getfield 12, 3) := by decide +kernel
theorem dX6_worthier_57 : decode cX6_worthier 57 = .ok (.getfield 76, 3) := by decide +kernel
theorem dX6_worthier_60 : decode cX6_worthier 60 = .ok (.iload_n 2, 1) := by decide +kernel
theorem dX6_worthier_61 : decode cX6_worthier 61 = .ok (.aaload, 1) := by decide +kernel
theorem dX6_worthier_62 : decode cX6_worthier 62 = .ok (.getfield 88, 3) := by decide +kernel
theorem dX6_worthier_65 : decode cX6_worthier 65 = .ok (.aload_n 0, 1) := by decide +kernel
theorem dX6_worthier_66 : decode cX6_worthier 66 = .ok (.getfield 48, 3) := by decide +kernel
theorem dX6_worthier_69 : decode cX6_worthier 69 = .ok (.invokevirtual 106, 3) := by decide +kernel
theorem dX6_worthier_72 : decode cX6_worthier 72 = .ok (.aload_n 0, 1) := by decide +kernel
theorem dX6_worthier_73 : decode cX6_worthier 73 = .ok (.getfield 44, 3) := by decide +kernel
theorem dX6_worthier_76 : decode cX6_worthier 76 = .ok (.getfield 109, 3) := by decide +kernel
theorem dX6_worthier_79 : decode cX6_worthier 79 = .ok (.ifCond .eq 13, 3) := by decide +kernel
theorem dX6_worthier_82 : decode cX6_worthier 82 = .ok (.aload_n 0, 1) := by decide +kernel
theorem dX6_worthier_83 : decode cX6_worthier 83 = .ok (.getfield 48, 3) := by decide +kernel
theorem dX6_worthier_86 : decode cX6_worthier 86 = .ok (.getfield 109, 3) := by decide +kernel
theorem dX6_worthier_89 : decode cX6_worthier 89 = .ok (.ifCond .ne 6, 3) := by decide +kernel
theorem dX6_worthier_92 : decode cX6_worthier 92 = .ok (.bipush (-3), 2) := by decide +kernel
theorem dX6_worthier_94 : decode cX6_worthier 94 = .ok (.ireturn, 1) := by decide +kernel
theorem dX6_worthier_95 : decode cX6_worthier 95 = .ok (.aload_n 0, 1) := by decide +kernel
theorem dX6_worthier_96 : decode cX6_worthier 96 = .ok (.getfield 44, 3) := by decide +kernel
theorem dX6_worthier_99 : decode cX6_worthier 99 = .ok (.aload_n 0, 1) := by decide +kernel
theorem dX6_worthier_100 : decode cX6_worthier 100 = .ok (.getfield 48, 3) := by decide +kernel
theorem dX6_worthier_103 : decode cX6_worthier 103 = .ok (.invokevirtual 161, 3) := by decide +kernel
theorem dX6_worthier_106 : decode cX6_worthier 106 = .ok (.ifCond .eq 5, 3) := by decide +kernel
theorem dX6_worthier_109 : decode cX6_worthier 109 = .ok (.iconst 1, 1) := by decide +kernel
theorem dX6_worthier_110 : decode cX6_worthier 110 = .ok (.ireturn, 1) := by decide +kernel
theorem dX6_worthier_111 : decode cX6_worthier 111 = .ok (.aload_n 0, 1) := by decide +kernel
theorem dX6_worthier_112 : decode cX6_worthier 112 = .ok (.getfield 48, 3) := by decide +kernel
theorem dX6_worthier_115 : decode cX6_worthier 115 = .ok (.aload_n 0, 1) := by decide +kernel
theorem dX6_worthier_116 : decode cX6_worthier 116 = .ok (.getfield 44, 3) := by decide +kernel
theorem dX6_worthier_119 : decode cX6_worthier 119 = .ok (.invokevirtual 161, 3) := by decide +kernel
theorem dX6_worthier_122 : decode cX6_worthier 122 = .ok (.ifCond .eq 7, 3) := by decide +kernel
theorem dX6_worthier_125 : decode cX6_worthier 125 = .ok (.iconst 2, 1) := by decide +kernel
theorem dX6_worthier_126 : decode cX6_worthier 126 = .ok (.goto 4, 3) := by decide +kernel
theorem dX6_worthier_129 : decode cX6_worthier 129 = .ok (.iconst 0, 1) := by decide +kernel
theorem dX6_worthier_130 : decode cX6_worthier 130 = .ok (.ireturn, 1) := by decide +kernel
theorem dX6_beginning_0 : decode cX6_beginning 0 = .ok (.iload_n 1, 1) := by decide +kernel
theorem dX6_beginning_1 : decode cX6_beginning 1 = .ok (.invokestatic 60, 3) := by decide +kernel
theorem dX6_beginning_4 : decode cX6_beginning 4 = .ok (.ifCond .eq 23, 3) := by decide +kernel
theorem dX6_beginning_7 : decode cX6_beginning 7 = .ok (.iload_n 2, 1) := by decide +kernel
theorem dX6_beginning_8 : decode cX6_beginning 8 = .ok (.iconst 0, 1) := by decide +kernel
theorem dX6_beginning_9 : decode cX6_beginning 9 = .ok (.aload_n 0, 1) := by decide +kernel
theorem dX6_beginning_10 : decode cX6_beginning 10 = .ok (.getfield 12, 3) := by decide +kernel
theorem dX6_beginning_13 : decode cX6_beginning 13 = .ok (.getfield 76, 3) := by decide +kernel
theorem dX6_beginning_16 : decode cX6_beginning 16 = .ok (.iload_n 1, 1) := by decide +kernel
theorem dX6_beginning_17 : decode cX6_beginning 17 = .ok (.aaload, 1) := by decide +kernel
theorem dX6_beginning_18 : decode cX6_beginning 18 = .ok (.getfield 88, 3) := by decide +kernel
theorem dX6_beginning_21 : decode cX6_beginning 21 = .ok (.invokestatic 68, 3) := by decide +kernel
theorem dX6_beginning_24 : decode cX6_beginning 24 = .ok (.ifCond .ne 7, 3) := by decide +kernel
theorem dX6_beginning_27 : decode cX6_beginning 27 = .ok (.ldc2_w 148, 3) := by decide +kernel
theorem dX6_beginning_30 : decode cX6_beginning 30 = .ok (.lreturn, 1) := by decide +kernel
theorem dX6_beginning_31 : decode cX6_beginning 31 = .ok (.iload_n 3, 1) := by decide +kernel
theorem dX6_beginning_32 : decode cX6_beginning 32 = .ok (.iconst 0, 1) := by decide +kernel
theorem dX6_beginning_33 : decode cX6_beginning 33 = .ok (.iconst 1, 1) := by decide +kernel
theorem dX6_beginning_34 : decode cX6_beginning 34 = .ok (.invokestatic 68, 3) := by decide +kernel
theorem dX6_beginning_37 : decode cX6_beginning 37 = .ok (.ifCond .eq 11, 3) := by decide +kernel
theorem dX6_beginning_40 : decode cX6_beginning 40 = .ok (.iload 4, 2) := by decide +kernel
theorem dX6_beginning_42 : decode cX6_beginning 42 = .ok (.invokestatic 145, 3) := by decide +kernel
theorem dX6_beginning_45 : decode cX6_beginning 45 = .ok (.ifCond .ne 7, 3) := by decide +kernel
theorem dX6_beginning_48 : decode cX6_beginning 48 = .ok (.ldc2_w 148, 3) := by decide +kernel
theorem dX6_beginning_51 : decode cX6_beginning 51 = .ok (.lreturn, 1) := by decide +kernel
theorem dX6_beginning_52 : decode cX6_beginning 52 = .ok (.aload_n 0, 1) := by decide +kernel
theorem dX6_beginning_53 : decode cX6_beginning 53 = .ok (.getfield 12, 3) := by decide +kernel
theorem dX6_beginning_56 : decode cX6_beginning 56 = .ok (.getfield 76, 3) := by decide +kernel
theorem dX6_beginning_59 : decode cX6_beginning 59 = .ok (.iload_n 1, 1) := by decide +kernel
theorem dX6_beginning_60 : decode cX6_beginning 60 = .ok (.aaload, 1) := by decide +kernel
theorem dX6_beginning_61 : decode cX6_beginning 61 = .ok (.iload_n 2, 1) := by decide +kernel
theorem dX6_beginning_62 : decode cX6_beginning 62 = .ok (.aload_n 0, 1) := by decide +kernel
theorem dX6_beginning_63 : decode cX6_beginning 63 = .ok (.getfield 44, 3) := by decide +kernel
theorem dX6_beginning_66 : decode cX6_beginning 66 = .ok (.invokevirtual 106, 3) := by decide +kernel
theorem dX6_beginning_69 : decode cX6_beginning 69 = .ok (.iload_n 3, 1) := by decide +kernel
theorem dX6_beginning_70 : decode cX6_beginning 70 = .ok (.ifCond .ne 13, 3) := by decide +kernel
theorem dX6_beginning_73 : decode cX6_beginning 73 = .ok (.aload_n 0, 1) := by decide +kernel
theorem dX6_beginning_74 : decode cX6_beginning 74 = .ok (.getfield 44, 3) := by decide +kernel
theorem dX6_beginning_77 : decode cX6_beginning 77 = .ok (.iload 4, 2) := by decide +kernel
theorem dX6_beginning_79 : decode cX6_beginning 79 = .ok (.invokevirtual 150, 3) := by decide +kernel
theorem dX6_beginning_82 : decode cX6_beginning 82 = .ok (.lreturn, 1) := by decide +kernel
theorem dX6_beginning_83 : decode cX6_beginning 83 = .ok (.aload_n 0, 1) := by decide +kernel
theorem dX6_beginning_84 : decode cX6_beginning 84 = .ok (.getfield 12, 3) := by decide +kernel
theorem dX6_beginning_87 : decode cX6_beginning 87 = .ok (.getfield 76, 3) := by decide +kernel
theorem dX6_beginning_90 : decode cX6_beginning 90 = .ok (.iload_n 1, 1) := by decide +kernel
theorem dX6_beginning_91 : decode cX6_beginning 91 = .ok (.aaload, 1) := by decide +kernel
theorem dX6_beginning_92 : decode cX6_beginning 92 = .ok (.aload_n 0, 1) := by decide +kernel
theorem dX6_beginning_93 : decode cX6_beginning 93 = .ok (.getfield 12, 3) := by decide +kernel
theorem dX6_beginning_96 : decode cX6_beginning 96 = .ok (.getfield 76, 3) := by decide +kernel
theorem dX6_beginning_99 : decode cX6_beginning 99 = .ok (.iload_n 1, 1) := by decide +kernel
theorem dX6_beginning_100 : decode cX6_beginning 100 = .ok (.aaload, 1) := by decide +kernel
theorem dX6_beginning_101 : decode cX6_beginning 101 = .ok (.getfield 88, 3) := by decide +kernel
theorem dX6_beginning_104 : decode cX6_beginning 104 = .ok (.aload_n 0, 1) := by decide +kernel
theorem dX6_beginning_105 : decode cX6_beginning 105 = .ok (.getfield 48, 3) := by decide +kernel
theorem dX6_beginning_108 : decode cX6_beginning 108 = .ok (.invokevirtual 106, 3) := by decide +kernel
theorem dX6_beginning_111 : decode cX6_beginning 111 = .ok (.aload_n 0, 1) := by decide +kernel
theorem dX6_beginning_112 : decode cX6_beginning 112 = .ok (.getfield 48, 3) := by decide +kernel
theorem dX6_beginning_115 : decode cX6_beginning 115 = .ok (.aload_n 0, 1) := by decide +kernel
theorem dX6_beginning_116 : decode cX6_beginning 116 = .ok (.getfield 44, 3) := by decide +kernel
theorem dX6_beginning_119 : decode cX6_beginning 119 = .ok (.invokevirtual 165, 3) := by decide +kernel
theorem dX6_beginning_122 : decode cX6_beginning 122 = .ok (.aload_n 0, 1) := by decide +kernel
theorem dX6_beginning_123 : decode cX6_beginning 123 = .ok (.getfield 48, 3) := by decide +kernel
theorem dX6_beginning_126 : decode cX6_beginning 126 = .ok (.iload 4, 2) := by decide +kernel
theorem dX6_beginning_128 : decode cX6_beginning 128 = .ok (.invokevirtual 150, 3) := by decide +kernel
theorem dX6_beginning_131 : decode cX6_beginning 131 = .ok (.lreturn, 1) := by decide +kernel
theorem dX6_units_0 : decode cX6_units 0 = .ok (.iload_n 1, 1) := by decide +kernel
theorem dX6_units_1 : decode cX6_units 1 = .ok (.iconst 1, 1) := by decide +kernel
theorem dX6_units_2 : decode cX6_units 2 = .ok (.sipush 9999, 3) := by decide +kernel
theorem dX6_units_5 : decode cX6_units 5 = .ok (.invokestatic 68, 3) := by decide +kernel
theorem dX6_units_8 : decode cX6_units 8 = .ok (.ifCond .eq 14, 3) := by decide +kernel
theorem dX6_units_11 : decode cX6_units 11 = .ok (.iload_n 2, 1) := by decide +kernel
theorem dX6_units_12 : decode cX6_units 12 = .ok (.iconst 1, 1) := by decide +kernel
theorem dX6_units_13 : decode cX6_units 13 = .ok (.sipush 9999, 3) := by decide +kernel
theorem dX6_units_16 : decode cX6_units 16 = .ok (.invokestatic 68, 3) := by decide +kernel
theorem dX6_units_19 : decode cX6_units 19 = .ok (.ifCond .ne 6, 3) := by decide +kernel
theorem dX6_units_22 : decode cX6_units 22 = .ok (.bipush (-2), 2) := by decide +kernel
theorem dX6_units_24 : decode cX6_units 24 = .ok (.ireturn, 1) := by decide +kernel
theorem dX6_units_25 : decode cX6_units 25 = .ok (.iload_n 3, 1) := by decide +kernel
theorem dX6_units_26 : decode cX6_units 26 = .ok (.iconst 0, 1) := by decide +kernel
theorem dX6_units_27 : decode cX6_units 27 = .ok (.iconst 3, 1) := by decide +kernel
theorem dX6_units_28 : decode cX6_units 28 = .ok (.invokestatic 68, 3) := by decide +kernel
theorem dX6_units_31 : decode cX6_units 31 = .ok (.ifCond .ne 5, 3) := by decide +kernel
theorem dX6_units_34 : decode cX6_units 34 = .ok (.iconst (-1), 1) := by decide +kernel
theorem dX6_units_35 : decode cX6_units 35 = .ok (.ireturn, 1) := by decide +kernel
theorem dX6_units_36 : decode cX6_units 36 = .ok (.aload_n 0, 1) := by decide +kernel
theorem dX6_units_37 : decode cX6_units 37 = .ok (.iload_n 1, 1) := by decide +kernel
theorem dX6_units_38 : decode cX6_units 38 = .ok (.i2l, 1) := by decide +kernel
theorem dX6_units_39 : decode cX6_units 39 = .ok (.iload_n 2, 1) := by decide +kernel
theorem dX6_units_40 : decode cX6_units 40 = .ok (.i2l, 1) := by decide +kernel
theorem dX6_units_41 : decode cX6_units 41 = .ok (.invokevirtual 169, 3) := by decide +kernel
theorem dX6_units_44 : decode cX6_units 44 = .ok (.istore 4, 2) := by decide +kernel
theorem dX6_units_46 : decode cX6_units 46 = .ok (.iload_n 3, 1) := by decide +kernel
theorem dX6_units_47 : decode cX6_units 47 = .ok (.iload 4, 2) := by decide +kernel
theorem dX6_units_49 : decode cX6_units 49 = .ok (.if_icmp .le 6, 3) := by decide +kernel
theorem dX6_units_52 : decode cX6_units 52 = .ok (.bipush (-5), 2) := by decide +kernel
theorem dX6_units_54 : decode cX6_units 54 = .ok (.ireturn, 1) := by decide +kernel
theorem dX6_units_55 : decode cX6_units 55 = .ok (.iload_n 3, 1) := by decide +kernel
theorem dX6_units_56 : decode cX6_units 56 = .ok (.ifCond .ne 8, 3) := by decide +kernel
theorem dX6_units_59 : decode cX6_units 59 = .ok (.iload 4, 2) := by decide +kernel
theorem dX6_units_61 : decode cX6_units 61 = .ok (.goto 11, 3) := by decide +kernel
theorem dX6_units_64 : decode cX6_units 64 = .ok (.aload_n 0, 1) := by decide +kernel
theorem dX6_units_65 : decode cX6_units 65 = .ok (.getfield 55, 3) := by decide +kernel
theorem dX6_units_68 : decode cX6_units 68 = .ok (.iload_n 3, 1) := by decide +kernel
theorem dX6_units_69 : decode cX6_units 69 = .ok (.iconst 1, 1) := by decide +kernel
theorem dX6_units_70 : decode cX6_units 70 = .ok (.isub, 1) := by decide +kernel
theorem dX6_units_71 : decode cX6_units 71 = .ok (.iaload, 1) := by decide +kernel
theorem dX6_units_72 : decode cX6_units 72 = .ok (.ireturn, 1) := by decide +kernel
theorem dX6_see_0 : decode cX6_see 0 = .ok (.iload_n 1, 1) := by decide +kernel
theorem dX6_see_1 : decode cX6_see 1 = .ok (.iconst (-1), 1) := by decide +kernel
theorem dX6_see_2 : decode cX6_see 2 = .ok (.if_icmp .ne 14, 3) := by decide +kernel
theorem dX6_see_5 : decode cX6_see 5 = .ok (.aload_n 0, 1) := by decide +kernel
theorem dX6_see_6 : decode cX6_see 6 = .ok (.getfield 12, 3) := by decide +kernel
theorem dX6_see_9 : decode cX6_see 9 = .ok (.getfield 173, 3) := by decide +kernel
theorem dX6_see_12 : decode cX6_see 12 = .ok (.invokevirtual 177, 3) := by decide +kernel
theorem dX6_see_15 : decode cX6_see 15 = .ok (.ireturn, 1) := by decide +kernel
theorem dX6_see_16 : decode cX6_see 16 = .ok (.iload_n 1, 1) := by decide +kernel
theorem dX6_see_17 : decode cX6_see 17 = .ok (.invokestatic 60, 3) := by decide +kernel
theorem dX6_see_20 : decode cX6_see 20 = .ok (.ifCond .ne 5, 3) := by decide +kernel
theorem dX6_see_23 : decode cX6_see 23 = .ok (.iconst (-1), 1) := by decide +kernel
theorem dX6_see_24 : decode cX6_see 24 = .ok (.ireturn, 1) := by decide +kernel
theorem dX6_see_25 : decode cX6_see 25 = .ok (.iload_n 2, 1) := by decide +kernel
theorem dX6_see_26 : decode cX6_see 26 = .ok (.iconst 1, 1) := by decide +kernel
theorem dX6_see_27 : decode cX6_see 27 = .ok (.sipush 9999, 3) := by decide +kernel
theorem dX6_see_30 : decode cX6_see 30 = .ok (.invokestatic 68, 3) := by decide +kernel
theorem dX6_see_33 : decode cX6_see 33 = .ok (.ifCond .eq 14, 3) := by decide +kernel
theorem dX6_see_36 : decode cX6_see 36 = .ok (.iload_n 3, 1) := by decide +kernel
theorem dX6_see_37 : decode cX6_see 37 = .ok (.iconst 1, 1) := by decide +kernel
theorem dX6_see_38 : decode cX6_see 38 = .ok (.sipush 9999, 3) := by decide +kernel
theorem dX6_see_41 : decode cX6_see 41 = .ok (.invokestatic 68, 3) := by decide +kernel
theorem dX6_see_44 : decode cX6_see 44 = .ok (.ifCond .ne 6, 3) := by decide +kernel
theorem dX6_see_47 : decode cX6_see 47 = .ok (.bipush (-2), 2) := by decide +kernel
theorem dX6_see_49 : decode cX6_see 49 = .ok (.ireturn, 1) := by decide +kernel
theorem dX6_see_50 : decode cX6_see 50 = .ok (.aload_n 0, 1) := by decide +kernel
theorem dX6_see_51 : decode cX6_see 51 = .ok (.getfield 12, 3) := by decide +kernel
theorem dX6_see_54 : decode cX6_see 54 = .ok (.getfield 173, 3) := by decide +kernel
theorem dX6_see_57 : decode cX6_see 57 = .ok (.iload_n 1, 1) := by decide +kernel
theorem dX6_see_58 : decode cX6_see 58 = .ok (.iload_n 2, 1) := by decide +kernel
theorem dX6_see_59 : decode cX6_see 59 = .ok (.iload_n 3, 1) := by decide +kernel
theorem dX6_see_60 : decode cX6_see 60 = .ok (.invokevirtual 181, 3) := by decide +kernel
theorem dX6_see_63 : decode cX6_see 63 = .ok (.ireturn, 1) := by decide +kernel
theorem dX6_fits_0 : decode cX6_fits 0 = .ok (.iload_n 1, 1) := by decide +kernel
theorem dX6_fits_1 : decode cX6_fits 1 = .ok (.invokestatic 60, 3) := by decide +kernel
theorem dX6_fits_4 : decode cX6_fits 4 = .ok (.ifCond .eq 34, 3) := by decide +kernel
theorem dX6_fits_7 : decode cX6_fits 7 = .ok (.iload_n 2, 1) := by decide +kernel
theorem dX6_fits_8 : decode cX6_fits 8 = .ok (.iconst 0, 1) := by decide +kernel
theorem dX6_fits_9 : decode cX6_fits 9 = .ok (.aload_n 0, 1) := by decide +kernel
theorem dX6_fits_10 : decode cX6_fits 10 = .ok (.getfield 12, 3) := by decide +kernel
theorem dX6_fits_13 : decode cX6_fits 13 = .ok (.getfield 76, 3) := by decide +kernel
theorem dX6_fits_16 : decode cX6_fits 16 = .ok (.iload_n 1, 1) := by decide +kernel
theorem dX6_fits_17 : decode cX6_fits 17 = .ok (.aaload, 1) := by decide +kernel
theorem dX6_fits_18 : decode cX6_fits 18 = .ok (.getfield 88, 3) := by decide +kernel
theorem dX6_fits_21 : decode cX6_fits 21 = .ok (.iconst 1, 1) := by decide +kernel
theorem dX6_fits_22 : decode cX6_fits 22 = .ok (.isub, 1) := by decide +kernel
theorem dX6_fits_23 : decode cX6_fits 23 = .ok (.invokestatic 68, 3) := by decide +kernel
theorem dX6_fits_26 : decode cX6_fits 26 = .ok (.ifCond .eq 12, 3) := by decide +kernel
theorem dX6_fits_29 : decode cX6_fits 29 = .ok (.iload_n 3, 1) := by decide +kernel
theorem dX6_fits_30 : decode cX6_fits 30 = .ok (.iconst 0, 1) := by decide +kernel
theorem dX6_fits_31 : decode cX6_fits 31 = .ok (.iconst 1, 1) := by decide +kernel
theorem dX6_fits_32 : decode cX6_fits 32 = .ok (.invokestatic 68, 3) := by decide +kernel
theorem dX6_fits_35 : decode cX6_fits 35 = .ok (.ifCond .ne 5, 3) := by decide +kernel
theorem dX6_fits_38 : decode cX6_fits 38 = .ok (.iconst (-1), 1) := by decide +kernel
theorem dX6_fits_39 : decode cX6_fits 39 = .ok (.ireturn, 1) := by decide +kernel
theorem dX6_fits_40 : decode cX6_fits 40 = .ok (.aload_n 0, 1) := by decide +kernel
theorem dX6_fits_41 : decode cX6_fits 41 = .ok (.iload_n 1, 1) := by decide +kernel
theorem dX6_fits_42 : decode cX6_fits 42 = .ok (.invokevirtual 185, 3) := by decide +kernel
theorem dX6_fits_45 : decode cX6_fits 45 = .ok (.ifCond .ne 14, 3) := by decide +kernel
theorem dX6_fits_48 : decode cX6_fits 48 = .ok (.iload_n 3, 1) := by decide +kernel
theorem dX6_fits_49 : decode cX6_fits 49 = .ok (.ifCond .ne 7, 3) := by decide +kernel
theorem dX6_fits_52 : decode cX6_fits 52 = .ok (.iconst 0, 1) := by decide +kernel
theorem dX6_fits_53 : decode cX6_fits 53 = .ok (.goto 5, 3) := by decide +kernel
theorem dX6_fits_56 : decode cX6_fits 56 = .ok (.bipush (-5), 2) := by decide +kernel
theorem dX6_fits_58 : decode cX6_fits 58 = .ok (.ireturn, 1) := by decide +kernel
theorem dX6_fits_59 : decode cX6_fits 59 = .ok (.aload_n 0, 1) := by decide +kernel
theorem dX6_fits_60 : decode cX6_fits 60 = .ok (.getfield 37, 3) := by decide +kernel
theorem dX6_fits_63 : decode cX6_fits 63 = .ok (.aload_n 0, 1) := by decide +kernel
theorem dX6_fits_64 : decode cX6_fits 64 = .ok (.getfield 12, 3) := by decide +kernel
theorem dX6_fits_67 : decode cX6_fits 67 = .ok (.getfield 76, 3) := by decide +kernel
theorem dX6_fits_70 : decode cX6_fits 70 = .ok (.iload_n 1, 1) := by decide +kernel
theorem dX6_fits_71 : decode cX6_fits 71 = .ok (.aaload, 1) := by decide +kernel
theorem dX6_fits_72 : decode cX6_fits 72 = .ok (.invokevirtual 102, 3) := by decide +kernel
theorem dX6_fits_75 : decode cX6_fits 75 = .ok (.iconst 0, 1) := by decide +kernel
theorem dX6_fits_76 : decode cX6_fits 76 = .ok (.istore 4, 2) := by decide +kernel
theorem dX6_fits_78 : decode cX6_fits 78 = .ok (.bipush (-5), 2) := by decide +kernel
theorem dX6_fits_80 : decode cX6_fits 80 = .ok (.istore 5, 2) := by decide +kernel
theorem dX6_fits_82 : decode cX6_fits 82 = .ok (.bipush 99, 2) := by decide +kernel
theorem dX6_fits_84 : decode cX6_fits 84 = .ok (.istore 6, 2) := by decide +kernel
theorem dX6_fits_86 : decode cX6_fits 86 = .ok (.iload 6, 2) := by decide +kernel
theorem dX6_fits_88 : decode cX6_fits 88 = .ok (.ifCond .lt 57, 3) := by decide +kernel
theorem dX6_fits_91 : decode cX6_fits 91 = .ok (.aload_n 0, 1) := by decide +kernel
theorem dX6_fits_92 : decode cX6_fits 92 = .ok (.getfield 37, 3) := by decide +kernel
theorem dX6_fits_95 : decode cX6_fits 95 = .ok (.getfield 139, 3) := by decide +kernel
theorem dX6_fits_98 : decode cX6_fits 98 = .ok (.iload_n 2, 1) := by decide +kernel
theorem dX6_fits_99 : decode cX6_fits 99 = .ok (.iload 6, 2) := by decide +kernel
theorem dX6_fits_101 : decode cX6_fits 101 = .ok (.iastore, 1) := by decide +kernel
theorem dX6_fits_102 : decode cX6_fits 102 = .ok (.aload_n 0, 1) := by decide +kernel
theorem dX6_fits_103 : decode cX6_fits 103 = .ok (.getfield 37, 3) := by decide +kernel
theorem dX6_fits_106 : decode cX6_fits 106 = .ok (.aload_n 0, 1) := by decide +kernel
theorem dX6_fits_107 : decode cX6_fits 107 = .ok (.getfield 37, 3) := by decide +kernel
theorem dX6_fits_110 : decode cX6_fits 110 = .ok (.getfield 88, 3) := by decide +kernel
theorem dX6_fits_113 : decode cX6_fits 113 = .ok (.aload_n 0, 1) := by decide +kernel
theorem dX6_fits_114 : decode cX6_fits 114 = .ok (.getfield 44, 3) := by decide +kernel
theorem dX6_fits_117 : decode cX6_fits 117 = .ok (.invokevirtual 106, 3) := by decide +kernel
theorem dX6_fits_120 : decode cX6_fits 120 = .ok (.aload_n 0, 1) := by decide +kernel
theorem dX6_fits_121 : decode cX6_fits 121 = .ok (.iload_n 1, 1) := by decide +kernel
theorem dX6_fits_122 : decode cX6_fits 122 = .ok (.aload_n 0, 1) := by decide +kernel
theorem dX6_fits_123 : decode cX6_fits 123 = .ok (.getfield 44, 3) := by decide +kernel
theorem dX6_fits_126 : decode cX6_fits 126 = .ok (.invokevirtual 188, 3) := by decide +kernel
theorem dX6_fits_129 : decode cX6_fits 129 = .ok (.ifCond .eq 10, 3) := by decide +kernel
theorem dX6_fits_132 : decode cX6_fits 132 = .ok (.iinc 4 1, 3) := by decide +kernel
theorem dX6_fits_135 : decode cX6_fits 135 = .ok (.iload 6, 2) := by decide +kernel
theorem dX6_fits_137 : decode cX6_fits 137 = .ok (.istore 5, 2) := by decide +kernel
theorem dX6_fits_139 : decode cX6_fits 139 = .ok (.iinc 6 (-1), 3) := by decide +kernel
theorem dX6_fits_142 : decode cX6_fits 142 = .ok (.goto (-56), 3) := by decide +kernel
theorem dX6_fits_145 : decode cX6_fits 145 = .ok (.iload_n 3, 1) := by decide +kernel
theorem dX6_fits_146 : decode cX6_fits 146 = .ok (.ifCond .ne 8, 3) := by decide +kernel
theorem dX6_fits_149 : decode cX6_fits 149 = .ok (.iload 4, 2) := by decide +kernel
theorem dX6_fits_151 : decode cX6_fits 151 = .ok (.goto 5, 3) := by decide +kernel
theorem dX6_fits_154 : decode cX6_fits 154 = .ok (.iload 5, 2) := by decide +kernel
theorem dX6_fits_156 : decode cX6_fits 156 = .ok (.ireturn, 1) := by decide +kernel
theorem dX6_odds_0 : decode cX6_odds 0 = .ok (.iload_n 1, 1) := by decide +kernel
theorem dX6_odds_1 : decode cX6_odds 1 = .ok (.invokestatic 60, 3) := by decide +kernel
theorem dX6_odds_4 : decode cX6_odds 4 = .ok (.ifCond .eq 17, 3) := by decide +kernel
theorem dX6_odds_7 : decode cX6_odds 7 = .ok (.iload_n 2, 1) := by decide +kernel
theorem dX6_odds_8 : decode cX6_odds 8 = .ok (.invokestatic 60, 3) := by decide +kernel
theorem dX6_odds_11 : decode cX6_odds 11 = .ok (.ifCond .eq 10, 3) := by decide +kernel
theorem dX6_odds_14 : decode cX6_odds 14 = .ok (.iload_n 3, 1) := by decide +kernel
theorem dX6_odds_15 : decode cX6_odds 15 = .ok (.invokestatic 145, 3) := by decide +kernel
theorem dX6_odds_18 : decode cX6_odds 18 = .ok (.ifCond .ne 7, 3) := by decide +kernel
theorem dX6_odds_21 : decode cX6_odds 21 = .ok (.ldc2_w 148, 3) := by decide +kernel
theorem dX6_odds_24 : decode cX6_odds 24 = .ok (.lreturn, 1) := by decide +kernel
theorem dX6_odds_25 : decode cX6_odds 25 = .ok (.aload_n 0, 1) := by decide +kernel
theorem dX6_odds_26 : decode cX6_odds 26 = .ok (.getfield 12, 3) := by decide +kernel
theorem dX6_odds_29 : decode cX6_odds 29 = .ok (.getfield 76, 3) := by decide +kernel
theorem dX6_odds_32 : decode cX6_odds 32 = .ok (.iload_n 1, 1) := by decide +kernel
theorem dX6_odds_33 : decode cX6_odds 33 = .ok (.aaload, 1) := by decide +kernel
theorem dX6_odds_34 : decode cX6_odds 34 = .ok (.getfield 88, 3) := by decide +kernel
theorem dX6_odds_37 : decode cX6_odds 37 = .ok (.aload_n 0, 1) := by decide +kernel
theorem dX6_odds_38 : decode cX6_odds 38 = .ok (.getfield 12, 3) := by decide +kernel
theorem dX6_odds_41 : decode cX6_odds 41 = .ok (.getfield 76, 3) := by decide +kernel
theorem dX6_odds_44 : decode cX6_odds 44 = .ok (.iload_n 2, 1) := by decide +kernel
theorem dX6_odds_45 : decode cX6_odds 45 = .ok (.aaload, 1) := by decide +kernel
theorem dX6_odds_46 : decode cX6_odds 46 = .ok (.getfield 88, 3) := by decide +kernel
theorem dX6_odds_49 : decode cX6_odds 49 = .ok (.imul, 1) := by decide +kernel
theorem dX6_odds_50 : decode cX6_odds 50 = .ok (.istore 4, 2) := by decide +kernel
theorem dX6_odds_52 : decode cX6_odds 52 = .ok (.iload 4, 2) := by decide +kernel
theorem dX6_odds_54 : decode cX6_odds 54 = .ok (.ifCond .ne 7, 3) := by decide +kernel
theorem dX6_odds_57 : decode cX6_odds 57 = .ok (.ldc2_w 148, 3) := by decide +kernel
theorem dX6_odds_60 : decode cX6_odds 60 = .ok (.lreturn, 1) := by decide +kernel
theorem dX6_odds_61 : decode cX6_odds 61 = .ok (.aload_n 0, 1) := by decide +kernel
theorem dX6_odds_62 : decode cX6_odds 62 = .ok (.getfield 44, 3) := by decide +kernel
theorem dX6_odds_65 : decode cX6_odds 65 = .ok (.aload_n 0, 1) := by decide +kernel
theorem dX6_odds_66 : decode cX6_odds 66 = .ok (.aload_n 0, 1) := by decide +kernel
theorem dX6_odds_67 : decode cX6_odds 67 = .ok (.getfield 12, 3) := by decide +kernel
theorem dX6_odds_70 : decode cX6_odds 70 = .ok (.getfield 76, 3) := by decide +kernel
theorem dX6_odds_73 : decode cX6_odds 73 = .ok (.iload_n 1, 1) := by decide +kernel
theorem dX6_odds_74 : decode cX6_odds 74 = .ok (.aaload, 1) := by decide +kernel
theorem dX6_odds_75 : decode cX6_odds 75 = .ok (.aload_n 0, 1) := by decide +kernel
theorem dX6_odds_76 : decode cX6_odds 76 = .ok (.getfield 12, 3) := by decide +kernel
theorem dX6_odds_79 : decode cX6_odds 79 = .ok (.getfield 76, 3) := by decide +kernel
theorem dX6_odds_82 : decode cX6_odds 82 = .ok (.iload_n 2, 1) := by decide +kernel
theorem dX6_odds_83 : decode cX6_odds 83 = .ok (.aaload, 1) := by decide +kernel
theorem dX6_odds_84 : decode cX6_odds 84 = .ok (.invokevirtual 192, 3) := by decide +kernel
theorem dX6_odds_87 : decode cX6_odds 87 = .ok (.i2l, 1) := by decide +kernel
theorem dX6_odds_88 : decode cX6_odds 88 = .ok (.iload 4, 2) := by decide +kernel
theorem dX6_odds_90 : decode cX6_odds 90 = .ok (.i2l, 1) := by decide +kernel
theorem dX6_odds_91 : decode cX6_odds 91 = .ok (.invokevirtual 72, 3) := by decide +kernel
theorem dX6_odds_94 : decode cX6_odds 94 = .ok (.aload_n 0, 1) := by decide +kernel
theorem dX6_odds_95 : decode cX6_odds 95 = .ok (.getfield 44, 3) := by decide +kernel
theorem dX6_odds_98 : decode cX6_odds 98 = .ok (.iload_n 3, 1) := by decide +kernel
theorem dX6_odds_99 : decode cX6_odds 99 = .ok (.invokevirtual 150, 3) := by decide +kernel
theorem dX6_odds_102 : decode cX6_odds 102 = .ok (.lreturn, 1) := by decide +kernel
theorem dX6_mean_0 : decode cX6_mean 0 = .ok (.iload_n 1, 1) := by decide +kernel
theorem dX6_mean_1 : decode cX6_mean 1 = .ok (.invokestatic 145, 3) := by decide +kernel
theorem dX6_mean_4 : decode cX6_mean 4 = .ok (.ifCond .ne 7, 3) := by decide +kernel
theorem dX6_mean_7 : decode cX6_mean 7 = .ok (.ldc2_w 148, 3) := by decide +kernel
theorem dX6_mean_10 : decode cX6_mean 10 = .ok (.lreturn, 1) := by decide +kernel
theorem dX6_mean_11 : decode cX6_mean 11 = .ok (.iconst 0, 1) := by decide +kernel
theorem dX6_mean_12 : decode cX6_mean 12 = .ok (.istore_n 2, 1) := by decide +kernel
theorem dX6_mean_13 : decode cX6_mean 13 = .ok (.aload_n 0, 1) := by decide +kernel
theorem dX6_mean_14 : decode cX6_mean 14 = .ok (.getfield 44, 3) := by decide +kernel
theorem dX6_mean_17 : decode cX6_mean 17 = .ok (.lconst 0, 1) := by decide +kernel
theorem dX6_mean_18 : decode cX6_mean 18 = .ok (.lconst 1, 1) := by decide +kernel
theorem dX6_mean_19 : decode cX6_mean 19 = .ok (.invokevirtual 72, 3) := by decide +kernel
theorem dX6_mean_22 : decode cX6_mean 22 = .ok (.iconst 0, 1) := by decide +kernel
theorem dX6_mean_23 : decode cX6_mean 23 = .ok (.istore_n 3, 1) := by decide +kernel
theorem dX6_mean_24 : decode cX6_mean 24 = .ok (.iload_n 3, 1) := by decide +kernel
theorem dX6_mean_25 : decode cX6_mean 25 = .ok (.bipush 6, 2) := by decide +kernel
theorem dX6_mean_27 : decode cX6_mean 27 = .ok (.if_icmp .ge 71, 3) := by decide +kernel
theorem dX6_mean_30 : decode cX6_mean 30 = .ok (.aload_n 0, 1) := by decide +kernel
theorem dX6_mean_31 : decode cX6_mean 31 = .ok (.getfield 12, 3) := by decide +kernel
theorem dX6_mean_34 : decode cX6_mean 34 = .ok (.getfield 76, 3) := by decide +kernel
theorem dX6_mean_37 : decode cX6_mean 37 = .ok (.iload_n 3, 1) := by decide +kernel
theorem dX6_mean_38 : decode cX6_mean 38 = .ok (.aaload, 1) := by decide +kernel
theorem dX6_mean_39 : decode cX6_mean 39 = .ok (.aload_n 0, 1) := by decide +kernel
theorem dX6_mean_40 : decode cX6_mean 40 = .ok (.getfield 12, 3) := by decide +kernel
theorem dX6_mean_43 : decode cX6_mean 43 = .ok (.getfield 76, 3) := by decide +kernel
theorem dX6_mean_46 : decode cX6_mean 46 = .ok (.iload_n 3, 1) := by decide +kernel
theorem dX6_mean_47 : decode cX6_mean 47 = .ok (.aaload, 1) := by decide +kernel
theorem dX6_mean_48 : decode cX6_mean 48 = .ok (.getfield 88, 3) := by decide +kernel
theorem dX6_mean_51 : decode cX6_mean 51 = .ok (.aload_n 0, 1) := by decide +kernel
theorem dX6_mean_52 : decode cX6_mean 52 = .ok (.getfield 48, 3) := by decide +kernel
theorem dX6_mean_55 : decode cX6_mean 55 = .ok (.invokevirtual 106, 3) := by decide +kernel
theorem dX6_mean_58 : decode cX6_mean 58 = .ok (.aload_n 0, 1) := by decide +kernel
theorem dX6_mean_59 : decode cX6_mean 59 = .ok (.getfield 48, 3) := by decide +kernel
theorem dX6_mean_62 : decode cX6_mean 62 = .ok (.getfield 109, 3) := by decide +kernel
theorem dX6_mean_65 : decode cX6_mean 65 = .ok (.ifCond .eq 27, 3) := by decide +kernel
theorem dX6_mean_68 : decode cX6_mean 68 = .ok (.iinc 2 1, 3) := by decide +kernel
theorem dX6_mean_71 : decode cX6_mean 71 = .ok (.aload_n 0, 1) := by decide +kernel
theorem dX6_mean_72 : decode cX6_mean 72 = .ok (.getfield 44, 3) := by decide +kernel
theorem dX6_mean_75 : decode cX6_mean 75 = .ok (.aload_n 0, 1) := by decide +kernel
theorem dX6_mean_76 : decode cX6_mean 76 = .ok (.getfield 48, 3) := by decide +kernel
theorem dX6_mean_79 : decode cX6_mean 79 = .ok (.getfield 196, 3) := by decide +kernel
theorem dX6_mean_82 : decode cX6_mean 82 = .ok (.aload_n 0, 1) := by decide +kernel
theorem dX6_mean_83 : decode cX6_mean 83 = .ok (.getfield 48, 3) := by decide +kernel
theorem dX6_mean_86 : decode cX6_mean 86 = .ok (.getfield 200, 3) := by decide +kernel
theorem dX6_mean_89 : decode cX6_mean 89 = .ok (.invokevirtual 203, 3) := by decide +kernel
theorem dX6_mean_92 : decode cX6_mean 92 = .ok (.iinc 3 1, 3) := by decide +kernel
theorem dX6_mean_95 : decode cX6_mean 95 = .ok (.goto (-71), 3) := by decide +kernel
theorem dX6_mean_98 : decode cX6_mean 98 = .ok (.aload_n 0, 1) := by decide +kernel
theorem dX6_mean_99 : decode cX6_mean 99 = .ok (.getfield 44, 3) := by decide +kernel
theorem dX6_mean_102 : decode cX6_mean 102 = .ok (.iload_n 2, 1) := by decide +kernel
theorem dX6_mean_103 : decode cX6_mean 103 = .ok (.i2l, 1) := by decide +kernel
theorem dX6_mean_104 : decode cX6_mean 104 = .ok (.invokevirtual 206, 3) := by decide +kernel
theorem dX6_mean_107 : decode cX6_mean 107 = .ok (.aload_n 0, 1) := by decide +kernel
theorem dX6_mean_108 : decode cX6_mean 108 = .ok (.getfield 44, 3) := by decide +kernel
theorem dX6_mean_111 : decode cX6_mean 111 = .ok (.iload_n 1, 1) := by decide +kernel
theorem dX6_mean_112 : decode cX6_mean 112 = .ok (.invokevirtual 150, 3) := by decide +kernel
theorem dX6_mean_115 : decode cX6_mean 115 = .ok (.lreturn, 1) := by decide +kernel
theorem dX6_event_0 : decode cX6_event 0 = .ok (.iload_n 1, 1) := by decide +kernel
theorem dX6_event_1 : decode cX6_event 1 = .ok (.iconst (-1), 1) := by decide +kernel
theorem dX6_event_2 : decode cX6_event 2 = .ok (.if_icmp .ne 14, 3) := by decide +kernel
theorem dX6_event_5 : decode cX6_event 5 = .ok (.aload_n 0, 1) := by decide +kernel
theorem dX6_event_6 : decode cX6_event 6 = .ok (.getfield 12, 3) := by decide +kernel
theorem dX6_event_9 : decode cX6_event 9 = .ok (.getfield 210, 3) := by decide +kernel
theorem dX6_event_12 : decode cX6_event 12 = .ok (.invokevirtual 177, 3) := by decide +kernel
theorem dX6_event_15 : decode cX6_event 15 = .ok (.ireturn, 1) := by decide +kernel
theorem dX6_event_16 : decode cX6_event 16 = .ok (.iload_n 1, 1) := by decide +kernel
theorem dX6_event_17 : decode cX6_event 17 = .ok (.iconst 0, 1) := by decide +kernel
theorem dX6_event_18 : decode cX6_event 18 = .ok (.iconst 2, 1) := by decide +kernel
theorem dX6_event_19 : decode cX6_event 19 = .ok (.invokestatic 68, 3) := by decide +kernel
theorem dX6_event_22 : decode cX6_event 22 = .ok (.ifCond .eq 10, 3) := by decide +kernel
theorem dX6_event_25 : decode cX6_event 25 = .ok (.iload_n 2, 1) := by decide +kernel
theorem dX6_event_26 : decode cX6_event 26 = .ok (.invokestatic 60, 3) := by decide +kernel
theorem dX6_event_29 : decode cX6_event 29 = .ok (.ifCond .ne 5, 3) := by decide +kernel
theorem dX6_event_32 : decode cX6_event 32 = .ok (.iconst (-1), 1) := by decide +kernel
theorem dX6_event_33 : decode cX6_event 33 = .ok (.ireturn, 1) := by decide +kernel
theorem dX6_event_34 : decode cX6_event 34 = .ok (.aload_n 0, 1) := by decide +kernel
theorem dX6_event_35 : decode cX6_event 35 = .ok (.getfield 12, 3) := by decide +kernel
theorem dX6_event_38 : decode cX6_event 38 = .ok (.getfield 210, 3) := by decide +kernel
theorem dX6_event_41 : decode cX6_event 41 = .ok (.iload_n 1, 1) := by decide +kernel
theorem dX6_event_42 : decode cX6_event 42 = .ok (.iload_n 2, 1) := by decide +kernel
theorem dX6_event_43 : decode cX6_event 43 = .ok (.iconst 0, 1) := by decide +kernel
theorem dX6_event_44 : decode cX6_event 44 = .ok (.invokevirtual 181, 3) := by decide +kernel
theorem dX6_event_47 : decode cX6_event 47 = .ok (.ireturn, 1) := by decide +kernel
theorem dX6_after_0 : decode cX6_after 0 = .ok (.iload_n 1, 1) := by decide +kernel
theorem dX6_after_1 : decode cX6_after 1 = .ok (.invokestatic 60, 3) := by decide +kernel
theorem dX6_after_4 : decode cX6_after 4 = .ok (.ifCond .eq 12, 3) := by decide +kernel
theorem dX6_after_7 : decode cX6_after 7 = .ok (.iload_n 2, 1) := by decide +kernel
theorem dX6_after_8 : decode cX6_after 8 = .ok (.iconst 0, 1) := by decide +kernel
theorem dX6_after_9 : decode cX6_after 9 = .ok (.iconst 2, 1) := by decide +kernel
theorem dX6_after_10 : decode cX6_after 10 = .ok (.invokestatic 68, 3) := by decide +kernel
theorem dX6_after_13 : decode cX6_after 13 = .ok (.ifCond .ne 5, 3) := by decide +kernel
theorem dX6_after_16 : decode cX6_after 16 = .ok (.iconst (-1), 1) := by decide +kernel
theorem dX6_after_17 : decode cX6_after 17 = .ok (.ireturn, 1) := by decide +kernel
theorem dX6_after_18 : decode cX6_after 18 = .ok (.aload_n 0, 1) := by decide +kernel
theorem dX6_after_19 : decode cX6_after 19 = .ok (.getfield 37, 3) := by decide +kernel
theorem dX6_after_22 : decode cX6_after 22 = .ok (.aload_n 0, 1) := by decide +kernel
theorem dX6_after_23 : decode cX6_after 23 = .ok (.getfield 12, 3) := by decide +kernel
theorem dX6_after_26 : decode cX6_after 26 = .ok (.getfield 76, 3) := by decide +kernel
theorem dX6_after_29 : decode cX6_after 29 = .ok (.iload_n 1, 1) := by decide +kernel
theorem dX6_after_30 : decode cX6_after 30 = .ok (.aaload, 1) := by decide +kernel
theorem dX6_after_31 : decode cX6_after 31 = .ok (.invokevirtual 102, 3) := by decide +kernel
theorem dX6_after_34 : decode cX6_after 34 = .ok (.iconst 0, 1) := by decide +kernel
theorem dX6_after_35 : decode cX6_after 35 = .ok (.istore_n 3, 1) := by decide +kernel
theorem dX6_after_36 : decode cX6_after 36 = .ok (.iload_n 3, 1) := by decide +kernel
theorem dX6_after_37 : decode cX6_after 37 = .ok (.aload_n 0, 1) := by decide +kernel
theorem dX6_after_38 : decode cX6_after 38 = .ok (.getfield 12, 3) := by decide +kernel
theorem dX6_after_41 : decode cX6_after 41 = .ok (.getfield 210, 3) := by decide +kernel
theorem dX6_after_44 : decode cX6_after 44 = .ok (.getfield 213, 3) := by decide +kernel
theorem dX6_after_47 : decode cX6_after 47 = .ok (.if_icmp .ge 44, 3) := by decide +kernel
theorem dX6_after_50 : decode cX6_after 50 = .ok (.aload_n 0, 1) := by decide +kernel
theorem dX6_after_51 : decode cX6_after 51 = .ok (.getfield 12, 3) := by decide +kernel
theorem dX6_after_54 : decode cX6_after 54 = .ok (.getfield 210, 3) := by decide +kernel
theorem dX6_after_57 : decode cX6_after 57 = .ok (.getfield 214, 3) := by decide +kernel
theorem dX6_after_60 : decode cX6_after 60 = .ok (.iload_n 3, 1) := by decide +kernel
theorem dX6_after_61 : decode cX6_after 61 = .ok (.iaload, 1) := by decide +kernel
theorem dX6_after_62 : decode cX6_after 62 = .ok (.iload_n 1, 1) := by decide +kernel
theorem dX6_after_63 : decode cX6_after 63 = .ok (.if_icmp .ne 22, 3) := by decide +kernel
theorem dX6_after_66 : decode cX6_after 66 = .ok (.aload_n 0, 1) := by decide +kernel
theorem dX6_after_67 : decode cX6_after 67 = .ok (.getfield 37, 3) := by decide +kernel
theorem dX6_after_70 : decode cX6_after 70 = .ok (.aload_n 0, 1) := by decide +kernel
theorem dX6_after_71 : decode cX6_after 71 = .ok (.getfield 12, 3) := by decide +kernel
theorem dX6_after_74 : decode cX6_after 74 = .ok (.getfield 210, 3) := by decide +kernel
theorem dX6_after_77 : decode cX6_after 77 = .ok (.getfield 217, 3) := by decide +kernel
theorem dX6_after_80 : decode cX6_after 80 = .ok (.iload_n 3, 1) := by decide +kernel
theorem dX6_after_81 : decode cX6_after 81 = .ok (.iaload, 1) := by decide +kernel
theorem dX6_after_82 : decode cX6_after 82 = .ok (.invokevirtual 220, 3) := by decide +kernel
theorem dX6_after_85 : decode cX6_after 85 = .ok (.iinc 3 1, 3) := by decide +kernel
theorem dX6_after_88 : decode cX6_after 88 = .ok (.goto (-52), 3) := by decide +kernel
theorem dX6_after_91 : decode cX6_after 91 = .ok (.iload_n 2, 1) := by decide +kernel
theorem dX6_after_92 : decode cX6_after 92 = .ok (.ifCond .ne 11, 3) := by decide +kernel
theorem dX6_after_95 : decode cX6_after 95 = .ok (.aload_n 0, 1) := by decide +kernel
theorem dX6_after_96 : decode cX6_after 96 = .ok (.getfield 37, 3) := by decide +kernel
theorem dX6_after_99 : decode cX6_after 99 = .ok (.getfield 88, 3) := by decide +kernel
theorem dX6_after_102 : decode cX6_after 102 = .ok (.ireturn, 1) := by decide +kernel
theorem dX6_after_103 : decode cX6_after 103 = .ok (.iload_n 2, 1) := by decide +kernel
theorem dX6_after_104 : decode cX6_after 104 = .ok (.iconst 1, 1) := by decide +kernel
theorem dX6_after_105 : decode cX6_after 105 = .ok (.if_icmp .ne 13, 3) := by decide +kernel
theorem dX6_after_108 : decode cX6_after 108 = .ok (.aload_n 0, 1) := by decide +kernel
theorem dX6_after_109 : decode cX6_after 109 = .ok (.getfield 37, 3) := by decide +kernel
theorem dX6_after_112 : decode cX6_after 112 = .ok (.invokevirtual 142, 3) := by decide +kernel
theorem dX6_after_115 : decode cX6_after 115 = .ok (.goto 10, 3) := by decide +kernel
theorem dX6_after_118 : decode cX6_after 118 = .ok (.aload_n 0, 1) := by decide +kernel
theorem dX6_after_119 : decode cX6_after 119 = .ok (.getfield 37, 3) := by decide +kernel
theorem dX6_after_122 : decode cX6_after 122 = .ok (.getfield 119, 3) := by decide +kernel
theorem dX6_after_125 : decode cX6_after 125 = .ok (.ireturn, 1) := by decide +kernel
theorem dX6_book_0 : decode cX6_book 0 = .ok (.iload_n 1, 1) := by decide +kernel
theorem dX6_book_1 : decode cX6_book 1 = .ok (.iconst (-1), 1) := by decide +kernel
theorem dX6_book_2 : decode cX6_book 2 = .ok (.if_icmp .ne 14, 3) := by decide +kernel
theorem dX6_book_5 : decode cX6_book 5 = .ok (.aload_n 0, 1) := by decide +kernel
theorem dX6_book_6 : decode cX6_book 6 = .ok (.getfield 12, 3) := by decide +kernel
theorem dX6_book_9 : decode cX6_book 9 = .ok (.getfield 223, 3) := by decide +kernel
theorem dX6_book_12 : decode cX6_book 12 = .ok (.invokevirtual 177, 3) := by decide +kernel
theorem dX6_book_15 : decode cX6_book 15 = .ok (.ireturn, 1) := by decide +kernel
theorem dX6_book_16 : decode cX6_book 16 = .ok (.aload_n 0, 1) := by decide +kernel
theorem dX6_book_17 : decode cX6_book 17 = .ok (.iload_n 1, 1) := by decide +kernel
theorem dX6_book_18 : decode cX6_book 18 = .ok (.invokevirtual 226, 3) := by decide +kernel
theorem dX6_book_21 : decode cX6_book 21 = .ok (.ifCond .ne 5, 3) := by decide +kernel
theorem dX6_book_24 : decode cX6_book 24 = .ok (.iconst (-1), 1) := by decide +kernel
theorem dX6_book_25 : decode cX6_book 25 = .ok (.ireturn, 1) := by decide +kernel
theorem dX6_book_26 : decode cX6_book 26 = .ok (.iload_n 2, 1) := by decide +kernel
theorem dX6_book_27 : decode cX6_book 27 = .ok (.invokestatic 96, 3) := by decide +kernel
theorem dX6_book_30 : decode cX6_book 30 = .ok (.ifCond .ne 6, 3) := by decide +kernel
theorem dX6_book_33 : decode cX6_book 33 = .ok (.bipush (-2), 2) := by decide +kernel
theorem dX6_book_35 : decode cX6_book 35 = .ok (.ireturn, 1) := by decide +kernel
theorem dX6_book_36 : decode cX6_book 36 = .ok (.aload_n 0, 1) := by decide +kernel
theorem dX6_book_37 : decode cX6_book 37 = .ok (.getfield 12, 3) := by decide +kernel
theorem dX6_book_40 : decode cX6_book 40 = .ok (.getfield 223, 3) := by decide +kernel
theorem dX6_book_43 : decode cX6_book 43 = .ok (.iload_n 1, 1) := by decide +kernel
theorem dX6_book_44 : decode cX6_book 44 = .ok (.iload_n 2, 1) := by decide +kernel
theorem dX6_book_45 : decode cX6_book 45 = .ok (.iconst 0, 1) := by decide +kernel
theorem dX6_book_46 : decode cX6_book 46 = .ok (.invokevirtual 181, 3) := by decide +kernel
theorem dX6_book_49 : decode cX6_book 49 = .ok (.ireturn, 1) := by decide +kernel
theorem dX6_looked_0 : decode cX6_looked 0 = .ok (.iconst 0, 1) := by decide +kernel
theorem dX6_looked_1 : decode cX6_looked 1 = .ok (.istore_n 1, 1) := by decide +kernel
theorem dX6_looked_2 : decode cX6_looked 2 = .ok (.iload_n 1, 1) := by decide +kernel
theorem dX6_looked_3 : decode cX6_looked 3 = .ok (.aload_n 0, 1) := by decide +kernel
theorem dX6_looked_4 : decode cX6_looked 4 = .ok (.getfield 12, 3) := by decide +kernel
theorem dX6_looked_7 : decode cX6_looked 7 = .ok (.getfield 223, 3) := by decide +kernel
theorem dX6_looked_10 : decode cX6_looked 10 = .ok (.getfield 213, 3) := by decide +kernel
theorem dX6_looked_13 : decode cX6_looked 13 = .ok (.if_icmp .ge 52, 3) := by decide +kernel
theorem dX6_looked_16 : decode cX6_looked 16 = .ok (.aload_n 0, 1) := by decide +kernel
theorem dX6_looked_17 : decode cX6_looked 17 = .ok (.getfield 12, 3) := by decide +kernel
theorem dX6_looked_20 : decode cX6_looked 20 = .ok (.getfield 223, 3) := by decide +kernel
theorem dX6_looked_23 : decode cX6_looked 23 = .ok (.getfield 217, 3) := by decide +kernel
theorem dX6_looked_26 : decode cX6_looked 26 = .ok (.iload_n 1, 1) := by decide +kernel
theorem dX6_looked_27 : decode cX6_looked 27 = .ok (.iaload, 1) := by decide +kernel
theorem dX6_looked_28 : decode cX6_looked 28 = .ok (.istore_n 2, 1) := by decide +kernel
theorem dX6_looked_29 : decode cX6_looked 29 = .ok (.aload_n 0, 1) := by decide +kernel
theorem dX6_looked_30 : decode cX6_looked 30 = .ok (.iload_n 2, 1) := by decide +kernel
theorem dX6_looked_31 : decode cX6_looked 31 = .ok (.invokevirtual 226, 3) := by decide +kernel
theorem dX6_looked_34 : decode cX6_looked 34 = .ok (.ifCond .eq 23, 3) := by decide +kernel
theorem dX6_looked_37 : decode cX6_looked 37 = .ok (.aload_n 0, 1) := by decide +kernel
theorem dX6_looked_38 : decode cX6_looked 38 = .ok (.iload_n 2, 1) := by decide +kernel
theorem dX6_looked_39 : decode cX6_looked 39 = .ok (.invokevirtual 229, 3) := by decide +kernel
theorem dX6_looked_42 : decode cX6_looked 42 = .ok (.aload_n 0, 1) := by decide +kernel
theorem dX6_looked_43 : decode cX6_looked 43 = .ok (.getfield 12, 3) := by decide +kernel
theorem dX6_looked_46 : decode cX6_looked 46 = .ok (.getfield 223, 3) := by decide +kernel
theorem dX6_looked_49 : decode cX6_looked 49 = .ok (.getfield 214, 3) := by decide +kernel
theorem dX6_looked_52 : decode cX6_looked 52 = .ok (.iload_n 1, 1) := by decide +kernel
theorem dX6_looked_53 : decode cX6_looked 53 = .ok (.iaload, 1) := by decide +kernel
theorem dX6_looked_54 : decode cX6_looked 54 = .ok (.if_icmp .eq 5, 3) := by decide +kernel
