theorem dX0_init_0 : decode cX0_init 0 = .ok (.aload_n 0, 1) := by decide +kernel
theorem dX0_init_1 : decode cX0_init 1 = .ok (.invokespecial 3, 3) := by decide +kernel
theorem dX0_init_4 : decode cX0_init 4 = .ok (.aload_n 0, 1) := by decide +kernel
theorem dX0_init_5 : decode cX0_init 5 = .ok (.lconst 1, 1) := by decide +kernel
theorem dX0_init_6 : decode cX0_init 6 = .ok (.putfield 9, 3) := by decide +kernel
theorem dX0_init_9 : decode cX0_init 9 = .ok (.aload_n 0, 1) := by decide +kernel
theorem dX0_init_10 : decode cX0_init 10 = .ok (.iconst 1, 1) := by decide +kernel
theorem dX0_init_11 : decode cX0_init 11 = .ok (.putfield 15, 3) := by decide +kernel
theorem dX0_init_14 : decode cX0_init 14 = .ok (.return_, 1) := by decide +kernel
theorem dX0_vanish_0 : decode cX0_vanish 0 = .ok (.aload_n 0, 1) := by decide +kernel
theorem dX0_vanish_1 : decode cX0_vanish 1 = .ok (.lconst 0, 1) := by decide +kernel
theorem dX0_vanish_2 : decode cX0_vanish 2 = .ok (.putfield 19, 3) := by decide +kernel
theorem dX0_vanish_5 : decode cX0_vanish 5 = .ok (.aload_n 0, 1) := by decide +kernel
theorem dX0_vanish_6 : decode cX0_vanish 6 = .ok (.lconst 1, 1) := by decide +kernel
theorem dX0_vanish_7 : decode cX0_vanish 7 = .ok (.putfield 9, 3) := by decide +kernel
theorem dX0_vanish_10 : decode cX0_vanish 10 = .ok (.aload_n 0, 1) := by decide +kernel
theorem dX0_vanish_11 : decode cX0_vanish 11 = .ok (.iconst 0, 1) := by decide +kernel
theorem dX0_vanish_12 : decode cX0_vanish 12 = .ok (.putfield 15, 3) := by decide +kernel
theorem dX0_vanish_15 : decode cX0_vanish 15 = .ok (.return_, 1) := by decide +kernel
theorem dX0_become_0 : decode cX0_become 0 = .ok (.lload_n 3, 1) := by decide +kernel
theorem dX0_become_1 : decode cX0_become 1 = .ok (.lconst 0, 1) := by decide +kernel
theorem dX0_become_2 : decode cX0_become 2 = .ok (.lcmp, 1) := by decide +kernel
theorem dX0_become_3 : decode cX0_become 3 = .ok (.ifCond .le 14, 3) := by decide +kernel
theorem dX0_become_6 : decode cX0_become 6 = .ok (.lload_n 1, 1) := by decide +kernel
theorem dX0_become_7 : decode cX0_become 7 = .ok (.invokestatic 22, 3) := by decide +kernel
theorem dX0_become_10 : decode cX0_become 10 = .ok (.lload_n 3, 1) := by decide +kernel
theorem dX0_become_11 : decode cX0_become 11 = .ok (.invokestatic 28, 3) := by decide +kernel
theorem dX0_become_14 : decode cX0_become 14 = .ok (.goto 4, 3) := by decide +kernel
theorem dX0_become_17 : decode cX0_become 17 = .ok (.lconst 0, 1) := by decide +kernel
theorem dX0_become_18 : decode cX0_become 18 = .ok (.lstore 5, 2) := by decide +kernel
theorem dX0_become_20 : decode cX0_become 20 = .ok (.lload 5, 2) := by decide +kernel
theorem dX0_become_22 : decode cX0_become 22 = .ok (.lconst 0, 1) := by decide +kernel
theorem dX0_become_23 : decode cX0_become 23 = .ok (.lcmp, 1) := by decide +kernel
theorem dX0_become_24 : decode cX0_become 24 = .ok (.ifCond .gt 8, 3) := by decide +kernel
theorem dX0_become_27 : decode cX0_become 27 = .ok (.aload_n 0, 1) := by decide +kernel
theorem dX0_become_28 : decode cX0_become 28 = .ok (.invokevirtual 32, 3) := by decide +kernel
theorem dX0_become_31 : decode cX0_become 31 = .ok (.return_, 1) := by decide +kernel
theorem dX0_become_32 : decode cX0_become 32 = .ok (.aload_n 0, 1) := by decide +kernel
theorem dX0_become_33 : decode cX0_become 33 = .ok (.lload_n 1, 1) := by decide +kernel
theorem dX0_become_34 : decode cX0_become 34 = .ok (.lload 5, 2) := by decide +kernel
theorem dX0_become_36 : decode cX0_become 36 = .ok (.ldiv, 1) := by decide +kernel
theorem dX0_become_37 : decode cX0_become 37 = .ok (.putfield 19, 3) := by decide +kernel
theorem dX0_become_40 : decode cX0_become 40 = .ok (.aload_n 0, 1) := by decide +kernel
theorem dX0_become_41 : decode cX0_become 41 = .ok (.lload_n 3, 1) := by decide +kernel
theorem dX0_become_42 : decode cX0_become 42 = .ok (.lload 5, 2) := by decide +kernel
theorem dX0_become_44 : decode cX0_become 44 = .ok (.ldiv, 1) := by decide +kernel
theorem dX0_become_45 : decode cX0_become 45 = .ok (.putfield 9, 3) := by decide +kernel
theorem dX0_become_48 : decode cX0_become 48 = .ok (.aload_n 0, 1) := by decide +kernel
theorem dX0_become_49 : decode cX0_become 49 = .ok (.iconst 1, 1) := by decide +kernel
theorem dX0_become_50 : decode cX0_become 50 = .ok (.putfield 15, 3) := by decide +kernel
theorem dX0_become_53 : decode cX0_become 53 = .ok (.aload_n 0, 1) := by decide +kernel
theorem dX0_become_54 : decode cX0_become 54 = .ok (.getfield 19, 3) := by decide +kernel
theorem dX0_become_57 : decode cX0_become 57 = .ok (.invokestatic 22, 3) := by decide +kernel
theorem dX0_become_60 : decode cX0_become 60 = .ok (.ldc2_w 35, 3) := by decide +kernel
theorem dX0_become_63 : decode cX0_become 63 = .ok (.lcmp, 1) := by decide +kernel
theorem dX0_become_64 : decode cX0_become 64 = .ok (.ifCond .gt 14, 3) := by decide +kernel
theorem dX0_become_67 : decode cX0_become 67 = .ok (.aload_n 0, 1) := by decide +kernel
theorem dX0_become_68 : decode cX0_become 68 = .ok (.getfield 9, 3) := by decide +kernel
theorem dX0_become_71 : decode cX0_become 71 = .ok (.ldc2_w 35, 3) := by decide +kernel
theorem dX0_become_74 : decode cX0_become 74 = .ok (.lcmp, 1) := by decide +kernel
theorem dX0_become_75 : decode cX0_become 75 = .ok (.ifCond .le 7, 3) := by decide +kernel
theorem dX0_become_78 : decode cX0_become 78 = .ok (.aload_n 0, 1) := by decide +kernel
theorem dX0_become_79 : decode cX0_become 79 = .ok (.invokevirtual 32, 3) := by decide +kernel
theorem dX0_become_82 : decode cX0_become 82 = .ok (.return_, 1) := by decide +kernel
theorem dX0_greatestDivisor_0 : decode cX0_greatestDivisor 0 = .ok (.lload_n 0, 1) := by decide +kernel
theorem dX0_greatestDivisor_1 : decode cX0_greatestDivisor 1 = .ok (.lstore 4, 2) := by decide +kernel
theorem dX0_greatestDivisor_3 : decode cX0_greatestDivisor 3 = .ok (.lload_n 2, 1) := by decide +kernel
theorem dX0_greatestDivisor_4 : decode cX0_greatestDivisor 4 = .ok (.lstore 6, 2) := by decide +kernel
theorem dX0_greatestDivisor_6 : decode cX0_greatestDivisor 6 = .ok (.iconst 0, 1) := by decide +kernel
theorem dX0_greatestDivisor_7 : decode cX0_greatestDivisor 7 = .ok (.istore 8, 2) := by decide +kernel
theorem dX0_greatestDivisor_9 : decode cX0_greatestDivisor 9 = .ok (.iload 8, 2) := by decide +kernel
theorem dX0_greatestDivisor_11 : decode cX0_greatestDivisor 11 = .ok (.sipush 200, 3) := by decide +kernel
theorem dX0_greatestDivisor_14 : decode cX0_greatestDivisor 14 = .ok (.if_icmp .ge 31, 3) := by decide +kernel
theorem dX0_greatestDivisor_17 : decode cX0_greatestDivisor 17 = .ok (.lload 6, 2) := by decide +kernel
theorem dX0_greatestDivisor_19 : decode cX0_greatestDivisor 19 = .ok (.lconst 0, 1) := by decide +kernel
theorem dX0_greatestDivisor_20 : decode cX0_greatestDivisor 20 = .ok (.lcmp, 1) := by decide +kernel
theorem dX0_greatestDivisor_21 : decode cX0_greatestDivisor 21 = .ok (.ifCond .eq 24, 3) := by decide +kernel
theorem dX0_greatestDivisor_24 : decode cX0_greatestDivisor 24 = .ok (.lload 4, 2) := by decide +kernel
theorem dX0_greatestDivisor_26 : decode cX0_greatestDivisor 26 = .ok (.lload 6, 2) := by decide +kernel
theorem dX0_greatestDivisor_28 : decode cX0_greatestDivisor 28 = .ok (.lrem, 1) := by decide +kernel
theorem dX0_greatestDivisor_29 : decode cX0_greatestDivisor 29 = .ok (.lstore 9, 2) := by decide +kernel
theorem dX0_greatestDivisor_31 : decode cX0_greatestDivisor 31 = .ok (.lload 6, 2) := by decide +kernel
theorem dX0_greatestDivisor_33 : decode cX0_greatestDivisor 33 = .ok (.lstore 4, 2) := by decide +kernel
theorem dX0_greatestDivisor_35 : decode cX0_greatestDivisor 35 = .ok (.lload 9, 2) := by decide +kernel
theorem dX0_greatestDivisor_37 : decode cX0_greatestDivisor 37 = .ok (.lstore 6, 2) := by decide +kernel
theorem dX0_greatestDivisor_39 : decode cX0_greatestDivisor 39 = .ok (.iinc 8 1, 3) := by decide +kernel
theorem dX0_greatestDivisor_42 : decode cX0_greatestDivisor 42 = .ok (.goto (-33), 3) := by decide +kernel
theorem dX0_greatestDivisor_45 : decode cX0_greatestDivisor 45 = .ok (.lload 4, 2) := by decide +kernel
theorem dX0_greatestDivisor_47 : decode cX0_greatestDivisor 47 = .ok (.lreturn, 1) := by decide +kernel
theorem dX0_addOn_0 : decode cX0_addOn 0 = .ok (.aload_n 0, 1) := by decide +kernel
theorem dX0_addOn_1 : decode cX0_addOn 1 = .ok (.getfield 15, 3) := by decide +kernel
theorem dX0_addOn_4 : decode cX0_addOn 4 = .ok (.ifCond .eq 26, 3) := by decide +kernel
theorem dX0_addOn_7 : decode cX0_addOn 7 = .ok (.aload_n 0, 1) := by decide +kernel
theorem dX0_addOn_8 : decode cX0_addOn 8 = .ok (.aload_n 0, 1) := by decide +kernel
theorem dX0_addOn_9 : decode cX0_addOn 9 = .ok (.getfield 19, 3) := by decide +kernel
theorem dX0_addOn_12 : decode cX0_addOn 12 = .ok (.lload_n 3, 1) := by decide +kernel
theorem dX0_addOn_13 : decode cX0_addOn 13 = .ok (.lmul, 1) := by decide +kernel
theorem dX0_addOn_14 : decode cX0_addOn 14 = .ok (.lload_n 1, 1) := by decide +kernel
theorem dX0_addOn_15 : decode cX0_addOn 15 = .ok (.aload_n 0, 1) := by decide +kernel
theorem dX0_addOn_16 : decode cX0_addOn 16 = .ok (.getfield 9, 3) := by decide +kernel
theorem dX0_addOn_19 : decode cX0_addOn 19 = .ok (.lmul, 1) := by decide +kernel
theorem dX0_addOn_20 : decode cX0_addOn 20 = .ok (.ladd, 1) := by decide +kernel
theorem dX0_addOn_21 : decode cX0_addOn 21 = .ok (.aload_n 0, 1) := by decide +kernel
theorem dX0_addOn_22 : decode cX0_addOn 22 = .ok (.getfield 9, 3) := by decide +kernel
theorem dX0_addOn_25 : decode cX0_addOn 25 = .ok (.lload_n 3, 1) := by decide +kernel
theorem dX0_addOn_26 : decode cX0_addOn 26 = .ok (.lmul, 1) := by decide +kernel
theorem dX0_addOn_27 : decode cX0_addOn 27 = .ok (.invokevirtual 37, 3) := by decide +kernel
theorem dX0_addOn_30 : decode cX0_addOn 30 = .ok (.return_, 1) := by decide +kernel
theorem dX0_takeAway_0 : decode cX0_takeAway 0 = .ok (.aload_n 0, 1) := by decide +kernel
theorem dX0_takeAway_1 : decode cX0_takeAway 1 = .ok (.getfield 15, 3) := by decide +kernel
theorem dX0_takeAway_4 : decode cX0_takeAway 4 = .ok (.ifCond .eq 10, 3) := by decide +kernel
theorem dX0_takeAway_7 : decode cX0_takeAway 7 = .ok (.aload_n 1, 1) := by decide +kernel
theorem dX0_takeAway_8 : decode cX0_takeAway 8 = .ok (.getfield 15, 3) := by decide +kernel
theorem dX0_takeAway_11 : decode cX0_takeAway 11 = .ok (.ifCond .ne 8, 3) := by decide +kernel
theorem dX0_takeAway_14 : decode cX0_takeAway 14 = .ok (.aload_n 0, 1) := by decide +kernel
theorem dX0_takeAway_15 : decode cX0_takeAway 15 = .ok (.invokevirtual 32, 3) := by decide +kernel
theorem dX0_takeAway_18 : decode cX0_takeAway 18 = .ok (.return_, 1) := by decide +kernel
theorem dX0_takeAway_19 : decode cX0_takeAway 19 = .ok (.aload_n 0, 1) := by decide +kernel
theorem dX0_takeAway_20 : decode cX0_takeAway 20 = .ok (.aload_n 1, 1) := by decide +kernel
theorem dX0_takeAway_21 : decode cX0_takeAway 21 = .ok (.getfield 19, 3) := by decide +kernel
theorem dX0_takeAway_24 : decode cX0_takeAway 24 = .ok (.lneg, 1) := by decide +kernel
theorem dX0_takeAway_25 : decode cX0_takeAway 25 = .ok (.aload_n 1, 1) := by decide +kernel
theorem dX0_takeAway_26 : decode cX0_takeAway 26 = .ok (.getfield 9, 3) := by decide +kernel
theorem dX0_takeAway_29 : decode cX0_takeAway 29 = .ok (.invokevirtual 41, 3) := by decide +kernel
theorem dX0_takeAway_32 : decode cX0_takeAway 32 = .ok (.return_, 1) := by decide +kernel
theorem dX0_multiplyBy_0 : decode cX0_multiplyBy 0 = .ok (.aload_n 0, 1) := by decide +kernel
theorem dX0_multiplyBy_1 : decode cX0_multiplyBy 1 = .ok (.getfield 15, 3) := by decide +kernel
theorem dX0_multiplyBy_4 : decode cX0_multiplyBy 4 = .ok (.ifCond .eq 10, 3) := by decide +kernel
theorem dX0_multiplyBy_7 : decode cX0_multiplyBy 7 = .ok (.aload_n 1, 1) := by decide +kernel
theorem dX0_multiplyBy_8 : decode cX0_multiplyBy 8 = .ok (.getfield 15, 3) := by decide +kernel
theorem dX0_multiplyBy_11 : decode cX0_multiplyBy 11 = .ok (.ifCond .ne 8, 3) := by decide +kernel
theorem dX0_multiplyBy_14 : decode cX0_multiplyBy 14 = .ok (.aload_n 0, 1) := by decide +kernel
theorem dX0_multiplyBy_15 : decode cX0_multiplyBy 15 = .ok (.invokevirtual 32, 3) := by decide +kernel
theorem dX0_multiplyBy_18 : decode cX0_multiplyBy 18 = .ok (.return_, 1) := by decide +kernel
theorem dX0_multiplyBy_19 : decode cX0_multiplyBy 19 = .ok (.aload_n 0, 1) := by decide +kernel
theorem dX0_multiplyBy_20 : decode cX0_multiplyBy 20 = .ok (.aload_n 0, 1) := by decide +kernel
theorem dX0_multiplyBy_21 : decode cX0_multiplyBy 21 = .ok (.getfield 19, 3) := by decide +kernel
theorem dX0_multiplyBy_24 : decode cX0_multiplyBy 24 = .ok (.aload_n 1, 1) := by decide +kernel
theorem dX0_multiplyBy_25 : decode cX0_multiplyBy 25 = .ok (.getfield 19, 3) := by decide +kernel
theorem dX0_multiplyBy_28 : decode cX0_multiplyBy 28 = .ok (.lmul, 1) := by decide +kernel
theorem dX0_multiplyBy_29 : decode cX0_multiplyBy 29 = .ok (.aload_n 0, 1) := by decide +kernel
theorem dX0_multiplyBy_30 : decode cX0_multiplyBy 30 = .ok (.getfield 9, 3) := by decide +kernel
theorem dX0_multiplyBy_33 : decode cX0_multiplyBy 33 = .ok (.aload_n 1, 1) := by decide +kernel
theorem dX0_multiplyBy_34 : decode cX0_multiplyBy 34 = .ok (.getfield 9, 3) := by decide +kernel
theorem dX0_multiplyBy_37 : decode cX0_multiplyBy 37 = .ok (.lmul, 1) := by decide +kernel
theorem dX0_multiplyBy_38 : decode cX0_multiplyBy 38 = .ok (.invokevirtual 37, 3) := by decide +kernel
theorem dX0_multiplyBy_41 : decode cX0_multiplyBy 41 = .ok (.return_, 1) := by decide +kernel
theorem dX0_becomeRestOfOne_0 : decode cX0_becomeRestOfOne 0 = .ok (.aload_n 0, 1) := by decide +kernel
theorem dX0_becomeRestOfOne_1 : decode cX0_becomeRestOfOne 1 = .ok (.getfield 15, 3) := by decide +kernel
theorem dX0_becomeRestOfOne_4 : decode cX0_becomeRestOfOne 4 = .ok (.ifCond .eq 20, 3) := by decide +kernel
theorem dX0_becomeRestOfOne_7 : decode cX0_becomeRestOfOne 7 = .ok (.aload_n 0, 1) := by decide +kernel
theorem dX0_becomeRestOfOne_8 : decode cX0_becomeRestOfOne 8 = .ok (.aload_n 0, 1) := by decide +kernel
theorem dX0_becomeRestOfOne_9 : decode cX0_becomeRestOfOne 9 = .ok (.getfield 9, 3) := by decide +kernel
theorem dX0_becomeRestOfOne_12 : decode cX0_becomeRestOfOne 12 = .ok (.aload_n 0, 1) := by decide +kernel
theorem dX0_becomeRestOfOne_13 : decode cX0_becomeRestOfOne 13 = .ok (.getfield 19, 3) := by decide +kernel
theorem dX0_becomeRestOfOne_16 : decode cX0_becomeRestOfOne 16 = .ok (.lsub, 1) := by decide +kernel
theorem dX0_becomeRestOfOne_17 : decode cX0_becomeRestOfOne 17 = .ok (.aload_n 0, 1) := by decide +kernel
theorem dX0_becomeRestOfOne_18 : decode cX0_becomeRestOfOne 18 = .ok (.getfield 9, 3) := by decide +kernel
theorem dX0_becomeRestOfOne_21 : decode cX0_becomeRestOfOne 21 = .ok (.invokevirtual 37, 3) := by decide +kernel
theorem dX0_becomeRestOfOne_24 : decode cX0_becomeRestOfOne 24 = .ok (.return_, 1) := by decide +kernel
theorem dX0_divideBy_0 : decode cX0_divideBy 0 = .ok (.aload_n 0, 1) := by decide +kernel
theorem dX0_divideBy_1 : decode cX0_divideBy 1 = .ok (.getfield 15, 3) := by decide +kernel
theorem dX0_divideBy_4 : decode cX0_divideBy 4 = .ok (.ifCond .eq 17, 3) := by decide +kernel
theorem dX0_divideBy_7 : decode cX0_divideBy 7 = .ok (.aload_n 0, 1) := by decide +kernel
theorem dX0_divideBy_8 : decode cX0_divideBy 8 = .ok (.aload_n 0, 1) := by decide +kernel
theorem dX0_divideBy_9 : decode cX0_divideBy 9 = .ok (.getfield 19, 3) := by decide +kernel
theorem dX0_divideBy_12 : decode cX0_divideBy 12 = .ok (.aload_n 0, 1) := by decide +kernel
theorem dX0_divideBy_13 : decode cX0_divideBy 13 = .ok (.getfield 9, 3) := by decide +kernel
theorem dX0_divideBy_16 : decode cX0_divideBy 16 = .ok (.lload_n 1, 1) := by decide +kernel
theorem dX0_divideBy_17 : decode cX0_divideBy 17 = .ok (.lmul, 1) := by decide +kernel
theorem dX0_divideBy_18 : decode cX0_divideBy 18 = .ok (.invokevirtual 37, 3) := by decide +kernel
theorem dX0_divideBy_21 : decode cX0_divideBy 21 = .ok (.return_, 1) := by decide +kernel
theorem dX0_isNought_0 : decode cX0_isNought 0 = .ok (.aload_n 0, 1) := by decide +kernel
theorem dX0_isNought_1 : decode cX0_isNought 1 = .ok (.getfield 15, 3) := by decide +kernel
theorem dX0_isNought_4 : decode cX0_isNought 4 = .ok (.ifCond .eq 16, 3) := by decide +kernel
theorem dX0_isNought_7 : decode cX0_isNought 7 = .ok (.aload_n 0, 1) := by decide +kernel
theorem dX0_isNought_8 : decode cX0_isNought 8 = .ok (.getfield 19, 3) := by decide +kernel
theorem dX0_isNought_11 : decode cX0_isNought 11 = .ok (.lconst 0, 1) := by decide +kernel
theorem dX0_isNought_12 : decode cX0_isNought 12 = .ok (.lcmp, 1) := by decide +kernel
theorem dX0_isNought_13 : decode cX0_isNought 13 = .ok (.ifCond .ne 7, 3) := by decide +kernel
theorem dX0_isNought_16 : decode cX0_isNought 16 = .ok (.iconst 1, 1) := by decide +kernel
theorem dX0_isNought_17 : decode cX0_isNought 17 = .ok (.goto 4, 3) := by decide +kernel
theorem dX0_isNought_20 : decode cX0_isNought 20 = .ok (.iconst 0, 1) := by decide +kernel
theorem dX0_isNought_21 : decode cX0_isNought 21 = .ok (.ireturn, 1) := by decide +kernel
theorem dX0_isProper_0 : decode cX0_isProper 0 = .ok (.aload_n 0, 1) := by decide +kernel
theorem dX0_isProper_1 : decode cX0_isProper 1 = .ok (.getfield 15, 3) := by decide +kernel
theorem dX0_isProper_4 : decode cX0_isProper 4 = .ok (.ifCond .eq 28, 3) := by decide +kernel
theorem dX0_isProper_7 : decode cX0_isProper 7 = .ok (.aload_n 0, 1) := by decide +kernel
theorem dX0_isProper_8 : decode cX0_isProper 8 = .ok (.getfield 19, 3) := by decide +kernel
theorem dX0_isProper_11 : decode cX0_isProper 11 = .ok (.lconst 0, 1) := by decide +kernel
theorem dX0_isProper_12 : decode cX0_isProper 12 = .ok (.lcmp, 1) := by decide +kernel
theorem dX0_isProper_13 : decode cX0_isProper 13 = .ok (.ifCond .le 19, 3) := by decide +kernel
theorem dX0_isProper_16 : decode cX0_isProper 16 = .ok (.aload_n 0, 1) := by decide +kernel
theorem dX0_isProper_17 : decode cX0_isProper 17 = .ok (.getfield 19, 3) := by decide +kernel
theorem dX0_isProper_20 : decode cX0_isProper 20 = .ok (.aload_n 0, 1) := by decide +kernel
theorem dX0_isProper_21 : decode cX0_isProper 21 = .ok (.getfield 9, 3) := by decide +kernel
theorem dX0_isProper_24 : decode cX0_isProper 24 = .ok (.lcmp, 1) := by decide +kernel
theorem dX0_isProper_25 : decode cX0_isProper 25 = .ok (.ifCond .ge 7, 3) := by decide +kernel
theorem dX0_isProper_28 : decode cX0_isProper 28 = .ok (.iconst 1, 1) := by decide +kernel
theorem dX0_isProper_29 : decode cX0_isProper 29 = .ok (.goto 4, 3) := by decide +kernel
theorem dX0_isProper_32 : decode cX0_isProper 32 = .ok (.iconst 0, 1) := by decide +kernel
theorem dX0_isProper_33 : decode cX0_isProper 33 = .ok (.ireturn, 1) := by decide +kernel
theorem dX0_isAbove_0 : decode cX0_isAbove 0 = .ok (.aload_n 0, 1) := by decide +kernel
theorem dX0_isAbove_1 : decode cX0_isAbove 1 = .ok (.getfield 15, 3) := by decide +kernel
theorem dX0_isAbove_4 : decode cX0_isAbove 4 = .ok (.ifCond .eq 36, 3) := by decide +kernel
theorem dX0_isAbove_7 : decode cX0_isAbove 7 = .ok (.aload_n 1, 1) := by decide +kernel
theorem dX0_isAbove_8 : decode cX0_isAbove 8 = .ok (.getfield 15, 3) := by decide +kernel
theorem dX0_isAbove_11 : decode cX0_isAbove 11 = .ok (.ifCond .eq 29, 3) := by decide +kernel
theorem dX0_isAbove_14 : decode cX0_isAbove 14 = .ok (.aload_n 0, 1) := by decide +kernel
theorem dX0_isAbove_15 : decode cX0_isAbove 15 = .ok (.getfield 19, 3) := by decide +kernel
theorem dX0_isAbove_18 : decode cX0_isAbove 18 = .ok (.aload_n 1, 1) := by decide +kernel
theorem dX0_isAbove_19 : decode cX0_isAbove 19 = .ok (.getfield 9, 3) := by decide +kernel
theorem dX0_isAbove_22 : decode cX0_isAbove 22 = .ok (.lmul, 1) := by decide +kernel
theorem dX0_isAbove_23 : decode cX0_isAbove 23 = .ok (.aload_n 1, 1) := by decide +kernel
theorem dX0_isAbove_24 : decode cX0_isAbove 24 = .ok (.getfield 19, 3) := by decide +kernel
theorem dX0_isAbove_27 : decode cX0_isAbove 27 = .ok (.aload_n 0, 1) := by decide +kernel
theorem dX0_isAbove_28 : decode cX0_isAbove 28 = .ok (.getfield 9, 3) := by decide +kernel
theorem dX0_isAbove_31 : decode cX0_isAbove 31 = .ok (.lmul, 1) := by decide +kernel
theorem dX0_isAbove_32 : decode cX0_isAbove 32 = .ok (.lcmp, 1) := by decide +kernel
theorem dX0_isAbove_33 : decode cX0_isAbove 33 = .ok (.ifCond .le 7, 3) := by decide +kernel
theorem dX0_isAbove_36 : decode cX0_isAbove 36 = .ok (.iconst 1, 1) := by decide +kernel
theorem dX0_isAbove_37 : decode cX0_isAbove 37 = .ok (.goto 4, 3) := by decide +kernel
theorem dX0_isAbove_40 : decode cX0_isAbove 40 = .ok (.iconst 0, 1) := by decide +kernel
theorem dX0_isAbove_41 : decode cX0_isAbove 41 = .ok (.ireturn, 1) := by decide +kernel
theorem dX0_isJust_0 : decode cX0_isJust 0 = .ok (.aload_n 0, 1) := by decide +kernel
theorem dX0_isJust_1 : decode cX0_isJust 1 = .ok (.getfield 15, 3) := by decide +kernel
theorem dX0_isJust_4 : decode cX0_isJust 4 = .ok (.ifCond .eq 23, 3) := by decide +kernel
theorem dX0_isJust_7 : decode cX0_isJust 7 = .ok (.aload_n 0, 1) := by decide +kernel
theorem dX0_isJust_8 : decode cX0_isJust 8 = .ok (.getfield 19, 3) := by decide +kernel
theorem dX0_isJust_11 : decode cX0_isJust 11 = .ok (.lload_n 3, 1) := by decide +kernel
theorem dX0_isJust_12 : decode cX0_isJust 12 = .ok (.lmul, 1) := by decide +kernel
theorem dX0_isJust_13 : decode cX0_isJust 13 = .ok (.lload_n 1, 1) := by decide +kernel
theorem dX0_isJust_14 : decode cX0_isJust 14 = .ok (.aload_n 0, 1) := by decide +kernel
theorem dX0_isJust_15 : decode cX0_isJust 15 = .ok (.getfield 9, 3) := by decide +kernel
theorem dX0_isJust_18 : decode cX0_isJust 18 = .ok (.lmul, 1) := by decide +kernel
theorem dX0_isJust_19 : decode cX0_isJust 19 = .ok (.lcmp, 1) := by decide +kernel
theorem dX0_isJust_20 : decode cX0_isJust 20 = .ok (.ifCond .ne 7, 3) := by decide +kernel
theorem dX0_isJust_23 : decode cX0_isJust 23 = .ok (.iconst 1, 1) := by decide +kernel
theorem dX0_isJust_24 : decode cX0_isJust 24 = .ok (.goto 4, 3) := by decide +kernel
theorem dX0_isJust_27 : decode cX0_isJust 27 = .ok (.iconst 0, 1) := by decide +kernel
theorem dX0_isJust_28 : decode cX0_isJust 28 = .ok (.ireturn, 1) := by decide +kernel
theorem dX0_partOf_0 : decode cX0_partOf 0 = .ok (.aload_n 0, 1) := by decide +kernel
theorem dX0_partOf_1 : decode cX0_partOf 1 = .ok (.getfield 15, 3) := by decide +kernel
theorem dX0_partOf_4 : decode cX0_partOf 4 = .ok (.ifCond .ne 7, 3) := by decide +kernel
theorem dX0_partOf_7 : decode cX0_partOf 7 = .ok (.ldc2_w 44, 3) := by decide +kernel
theorem dX0_partOf_10 : decode cX0_partOf 10 = .ok (.lreturn, 1) := by decide +kernel
theorem dX0_partOf_11 : decode cX0_partOf 11 = .ok (.iload_n 1, 1) := by decide +kernel
theorem dX0_partOf_12 : decode cX0_partOf 12 = .ok (.ifCond .ne 10, 3) := by decide +kernel
theorem dX0_partOf_15 : decode cX0_partOf 15 = .ok (.aload_n 0, 1) := by decide +kernel
theorem dX0_partOf_16 : decode cX0_partOf 16 = .ok (.getfield 19, 3) := by decide +kernel
theorem dX0_partOf_19 : decode cX0_partOf 19 = .ok (.goto 7, 3) := by decide +kernel
theorem dX0_partOf_22 : decode cX0_partOf 22 = .ok (.aload_n 0, 1) := by decide +kernel
theorem dX0_partOf_23 : decode cX0_partOf 23 = .ok (.getfield 9, 3) := by decide +kernel
theorem dX0_partOf_26 : decode cX0_partOf 26 = .ok (.lreturn, 1) := by decide +kernel
theorem dX1_init_0 : decode cX1_init 0 = .ok (.aload_n 0, 1) := by decide +kernel
theorem dX1_init_1 : decode cX1_init 1 = .ok (.invokespecial 3, 3) := by decide +kernel
theorem dX1_init_4 : decode cX1_init 4 = .ok (.iconst 0, 1) := by decide +kernel
theorem dX1_init_5 : decode cX1_init 5 = .ok (.iload_n 1, 1) := by decide +kernel
theorem dX1_init_6 : decode cX1_init 6 = .ok (.invokestatic 9, 3) := by decide +kernel
theorem dX1_init_9 : decode cX1_init 9 = .ok (.istore_n 2, 1) := by decide +kernel
theorem dX1_init_10 : decode cX1_init 10 = .ok (.aload_n 0, 1) := by decide +kernel
theorem dX1_init_11 : decode cX1_init 11 = .ok (.iload_n 2, 1) := by decide +kernel
theorem dX1_init_12 : decode cX1_init 12 = .ok (.newarray .int, 2) := by decide +kernel
theorem dX1_init_14 : decode cX1_init 14 = .ok (.putfield 15, 3) := by decide +kernel
theorem dX1_init_17 : decode cX1_init 17 = .ok (.aload_n 0, 1) := by decide +kernel
theorem dX1_init_18 : decode cX1_init 18 = .ok (.iload_n 2, 1) := by decide +kernel
theorem dX1_init_19 : decode cX1_init 19 = .ok (.newarray .int, 2) := by decide +kernel
theorem dX1_init_21 : decode cX1_init 21 = .ok (.putfield 21, 3) := by decide +kernel
theorem dX1_init_24 : decode cX1_init 24 = .ok (.aload_n 0, 1) := by decide +kernel
theorem dX1_init_25 : decode cX1_init 25 = .ok (.iload_n 2, 1) := by decide +kernel
theorem dX1_init_26 : decode cX1_init 26 = .ok (.newarray .int, 2) := by decide +kernel
theorem dX1_init_28 : decode cX1_init 28 = .ok (.putfield 24, 3) := by decide +kernel
theorem dX1_init_31 : decode cX1_init 31 = .ok (.return_, 1) := by decide +kernel
theorem dX1_clear_0 : decode cX1_clear 0 = .ok (.aload_n 0, 1) := by decide +kernel
theorem dX1_clear_1 : decode cX1_clear 1 = .ok (.iconst 0, 1) := by decide +kernel
theorem dX1_clear_2 : decode cX1_clear 2 = .ok (.putfield 27, 3) := by decide +kernel
theorem dX1_clear_5 : decode cX1_clear 5 = .ok (.iconst 0, 1) := by decide +kernel
theorem dX1_clear_6 : decode cX1_clear 6 = .ok (.ireturn, 1) := by decide +kernel
theorem dX1_put_0 : decode cX1_put 0 = .ok (.aload_n 0, 1) := by decide +kernel
theorem dX1_put_1 : decode cX1_put 1 = .ok (.getfield 27, 3) := by decide +kernel
theorem dX1_put_4 : decode cX1_put 4 = .ok (.aload_n 0, 1) := by decide +kernel
theorem dX1_put_5 : decode cX1_put 5 = .ok (.getfield 15, 3) := by decide +kernel
theorem dX1_put_8 : decode cX1_put 8 = .ok (.arraylength, 1) := by decide +kernel
theorem dX1_put_9 : decode cX1_put 9 = .ok (.if_icmp .lt 6, 3) := by decide +kernel
theorem dX1_put_12 : decode cX1_put 12 = .ok (.bipush (-4), 2) := by decide +kernel
theorem dX1_put_14 : decode cX1_put 14 = .ok (.ireturn, 1) := by decide +kernel
theorem dX1_put_15 : decode cX1_put 15 = .ok (.aload_n 0, 1) := by decide +kernel
theorem dX1_put_16 : decode cX1_put 16 = .ok (.getfield 15, 3) := by decide +kernel
theorem dX1_put_19 : decode cX1_put 19 = .ok (.aload_n 0, 1) := by decide +kernel
theorem dX1_put_20 : decode cX1_put 20 = .ok (.getfield 27, 3) := by decide +kernel
theorem dX1_put_23 : decode cX1_put 23 = .ok (.iload_n 1, 1) := by decide +kernel
theorem dX1_put_24 : decode cX1_put 24 = .ok (.iastore, 1) := by decide +kernel
theorem dX1_put_25 : decode cX1_put 25 = .ok (.aload_n 0, 1) := by decide +kernel
theorem dX1_put_26 : decode cX1_put 26 = .ok (.getfield 21, 3) := by decide +kernel
theorem dX1_put_29 : decode cX1_put 29 = .ok (.aload_n 0, 1) := by decide +kernel
theorem dX1_put_30 : decode cX1_put 30 = .ok (.getfield 27, 3) := by decide +kernel
theorem dX1_put_33 : decode cX1_put 33 = .ok (.iload_n 2, 1) := by decide +kernel
theorem dX1_put_34 : decode cX1_put 34 = .ok (.iastore, 1) := by decide +kernel
theorem dX1_put_35 : decode cX1_put 35 = .ok (.aload_n 0, 1) := by decide +kernel
theorem dX1_put_36 : decode cX1_put 36 = .ok (.getfield 24, 3) := by decide +kernel
theorem dX1_put_39 : decode cX1_put 39 = .ok (.aload_n 0, 1) := by decide +kernel
theorem dX1_put_40 : decode cX1_put 40 = .ok (.getfield 27, 3) := by decide +kernel
theorem dX1_put_43 : decode cX1_put 43 = .ok (.iload_n 3, 1) := by decide +kernel
theorem dX1_put_44 : decode cX1_put 44 = .ok (.iastore, 1) := by decide +kernel
theorem dX1_put_45 : decode cX1_put 45 = .ok (.aload_n 0, 1) := by decide +kernel
theorem dX1_put_46 : decode cX1_put 46 = .ok (.dup, 1) := by decide +kernel
theorem dX1_put_47 : decode cX1_put 47 = .ok (.getfield 27, 3) := by decide +kernel
theorem dX1_put_50 : decode cX1_put 50 = .ok (.iconst 1, 1) := by decide +kernel
theorem dX1_put_51 : decode cX1_put 51 = .ok (.iadd, 1) := by decide +kernel
theorem dX1_put_52 : decode cX1_put 52 = .ok (.putfield 27, 3) := by decide +kernel
theorem dX1_put_55 : decode cX1_put 55 = .ok (.aload_n 0, 1) := by decide +kernel
theorem dX1_put_56 : decode cX1_put 56 = .ok (.getfield 27, 3) := by decide +kernel
theorem dX1_put_59 : decode cX1_put 59 = .ok (.ireturn, 1) := by decide +kernel
theorem dX1_becomeAs_0 : decode cX1_becomeAs 0 = .ok (.aload_n 0, 1) := by decide +kernel
theorem dX1_becomeAs_1 : decode cX1_becomeAs 1 = .ok (.invokevirtual 31, 3) := by decide +kernel
theorem dX1_becomeAs_4 : decode cX1_becomeAs 4 = .ok (.pop, 1) := by decide +kernel
theorem dX1_becomeAs_5 : decode cX1_becomeAs 5 = .ok (.iconst 0, 1) := by decide +kernel
theorem dX1_becomeAs_6 : decode cX1_becomeAs 6 = .ok (.istore_n 2, 1) := by decide +kernel
theorem dX1_becomeAs_7 : decode cX1_becomeAs 7 = .ok (.iload_n 2, 1) := by decide +kernel
theorem dX1_becomeAs_8 : decode cX1_becomeAs 8 = .ok (.aload_n 1, 1) := by decide +kernel
theorem dX1_becomeAs_9 : decode cX1_becomeAs 9 = .ok (.getfield 27, 3) := by decide +kernel
theorem dX1_becomeAs_12 : decode cX1_becomeAs 12 = .ok (.if_icmp .ge 32, 3) := by decide +kernel
theorem dX1_becomeAs_15 : decode cX1_becomeAs 15 = .ok (.aload_n 0, 1) := by decide +kernel
theorem dX1_becomeAs_16 : decode cX1_becomeAs 16 = .ok (.aload_n 1, 1) := by decide +kernel
theorem dX1_becomeAs_17 : decode cX1_becomeAs 17 = .ok (.getfield 15, 3) := by decide +kernel
theorem dX1_becomeAs_20 : decode cX1_becomeAs 20 = .ok (.iload_n 2, 1) := by decide +kernel
theorem dX1_becomeAs_21 : decode cX1_becomeAs 21 = .ok (.iaload, 1) := by decide +kernel
theorem dX1_becomeAs_22 : decode cX1_becomeAs 22 = .ok (.aload_n 1, 1) := by decide +kernel
theorem dX1_becomeAs_23 : decode cX1_becomeAs 23 = .ok (.getfield 21, 3) := by decide +kernel
theorem dX1_becomeAs_26 : decode cX1_becomeAs 26 = .ok (.iload_n 2, 1) := by decide +kernel
theorem dX1_becomeAs_27 : decode cX1_becomeAs 27 = .ok (.iaload, 1) := by decide +kernel
theorem dX1_becomeAs_28 : decode cX1_becomeAs 28 = .ok (.aload_n 1, 1) := by decide +kernel
theorem dX1_becomeAs_29 : decode cX1_becomeAs 29 = .ok (.getfield 24, 3) := by decide +kernel
theorem dX1_becomeAs_32 : decode cX1_becomeAs 32 = .ok (.iload_n 2, 1) := by decide +kernel
theorem dX1_becomeAs_33 : decode cX1_becomeAs 33 = .ok (.iaload, 1) := by decide +kernel
theorem dX1_becomeAs_34 : decode cX1_becomeAs 34 = .ok (.invokevirtual 35, 3) := by decide +kernel
theorem dX1_becomeAs_37 : decode cX1_becomeAs 37 = .ok (.pop, 1) := by decide +kernel
theorem dX1_becomeAs_38 : decode cX1_becomeAs 38 = .ok (.iinc 2 1, 3) := by decide +kernel
theorem dX1_becomeAs_41 : decode cX1_becomeAs 41 = .ok (.goto (-34), 3) := by decide +kernel
theorem dX1_becomeAs_44 : decode cX1_becomeAs 44 = .ok (.return_, 1) := by decide +kernel
theorem dX2_init_0 : decode cX2_init 0 = .ok (.aload_n 0, 1) := by decide +kernel
theorem dX2_init_1 : decode cX2_init 1 = .ok (.invokespecial 3, 3) := by decide +kernel
theorem dX2_init_4 : decode cX2_init 4 = .ok (.aload_n 0, 1) := by decide +kernel
theorem dX2_init_5 : decode cX2_init 5 = .ok (.bipush 6, 2) := by decide +kernel
theorem dX2_init_7 : decode cX2_init 7 = .ok (.anewarray 9, 3) := by decide +kernel
theorem dX2_init_10 : decode cX2_init 10 = .ok (.putfield 11, 3) := by decide +kernel
theorem dX2_init_13 : decode cX2_init 13 = .ok (.aload_n 0, 1) := by decide +kernel
theorem dX2_init_14 : decode cX2_init 14 = .ok (.new 17, 3) := by decide +kernel
theorem dX2_init_17 : decode cX2_init 17 = .ok (.dup, 1) := by decide +kernel
theorem dX2_init_18 : decode cX2_init 18 = .ok (.iconst 4, 1) := by decide +kernel
theorem dX2_init_19 : decode cX2_init 19 = .ok (.invokespecial 19, 3) := by decide +kernel
theorem dX2_init_22 : decode cX2_init 22 = .ok (.putfield 22, 3) := by decide +kernel
theorem dX2_init_25 : decode cX2_init 25 = .ok (.aload_n 0, 1) := by decide +kernel
theorem dX2_init_26 : decode cX2_init 26 = .ok (.new 17, 3) := by decide +kernel
theorem dX2_init_29 : decode cX2_init 29 = .ok (.dup, 1) := by decide +kernel
theorem dX2_init_30 : decode cX2_init 30 = .ok (.bipush 8, 2) := by decide +kernel
theorem dX2_init_32 : decode cX2_init 32 = .ok (.invokespecial 19, 3) := by decide +kernel
theorem dX2_init_35 : decode cX2_init 35 = .ok (.putfield 26, 3) := by decide +kernel
theorem dX2_init_38 : decode cX2_init 38 = .ok (.aload_n 0, 1) := by decide +kernel
theorem dX2_init_39 : decode cX2_init 39 = .ok (.new 17, 3) := by decide +kernel
theorem dX2_init_42 : decode cX2_init 42 = .ok (.dup, 1) := by decide +kernel
theorem dX2_init_43 : decode cX2_init 43 = .ok (.bipush 8, 2) := by decide +kernel
theorem dX2_init_45 : decode cX2_init 45 = .ok (.invokespecial 19, 3) := by decide +kernel
theorem dX2_init_48 : decode cX2_init 48 = .ok (.putfield 29, 3) := by decide +kernel
theorem dX2_init_51 : decode cX2_init 51 = .ok (.iconst 0, 1) := by decide +kernel
theorem dX2_init_52 : decode cX2_init 52 = .ok (.istore_n 1, 1) := by decide +kernel
theorem dX2_init_53 : decode cX2_init 53 = .ok (.iload_n 1, 1) := by decide +kernel
theorem dX2_init_54 : decode cX2_init 54 = .ok (.bipush 6, 2) := by decide +kernel
theorem dX2_init_56 : decode cX2_init 56 = .ok (.if_icmp .ge 22, 3) := by decide +kernel
theorem dX2_init_59 : decode cX2_init 59 = .ok (.aload_n 0, 1) := by decide +kernel
theorem dX2_init_60 : decode cX2_init 60 = .ok (.getfield 11, 3) := by decide +kernel
theorem dX2_init_63 : decode cX2_init 63 = .ok (.iload_n 1, 1) := by decide +kernel
theorem dX2_init_64 : decode cX2_init 64 = .ok (.new 9, 3) := by decide +kernel
theorem dX2_init_67 : decode cX2_init 67 = .ok (.dup, 1) := by decide +kernel
theorem dX2_init_68 : decode cX2_init 68 = .ok (.invokespecial 32, 3) := by decide +kernel
theorem dX2_init_71 : decode cX2_init 71 = .ok (.aastore, 1) := by decide +kernel
theorem dX2_init_72 : decode cX2_init 72 = .ok (.iinc 1 1, 3) := by decide +kernel
theorem dX2_init_75 : decode cX2_init 75 = .ok (.goto (-22), 3) := by decide +kernel
theorem dX2_init_78 : decode cX2_init 78 = .ok (.return_, 1) := by decide +kernel
theorem dX2_becomeAs_0 : decode cX2_becomeAs 0 = .ok (.iconst 0, 1) := by decide +kernel
theorem dX2_becomeAs_1 : decode cX2_becomeAs 1 = .ok (.istore_n 2, 1) := by decide +kernel
theorem dX2_becomeAs_2 : decode cX2_becomeAs 2 = .ok (.iload_n 2, 1) := by decide +kernel
theorem dX2_becomeAs_3 : decode cX2_becomeAs 3 = .ok (.bipush 6, 2) := by decide +kernel
theorem dX2_becomeAs_5 : decode cX2_becomeAs 5 = .ok (.if_icmp .ge 24, 3) := by decide +kernel
theorem dX2_becomeAs_8 : decode cX2_becomeAs 8 = .ok (.aload_n 0, 1) := by decide +kernel
theorem dX2_becomeAs_9 : decode cX2_becomeAs 9 = .ok (.getfield 11, 3) := by decide +kernel
theorem dX2_becomeAs_12 : decode cX2_becomeAs 12 = .ok (.iload_n 2, 1) := by decide +kernel
theorem dX2_becomeAs_13 : decode cX2_becomeAs 13 = .ok (.aaload, 1) := by decide +kernel
theorem dX2_becomeAs_14 : decode cX2_becomeAs 14 = .ok (.aload_n 1, 1) := by decide +kernel
theorem dX2_becomeAs_15 : decode cX2_becomeAs 15 = .ok (.getfield 11, 3) := by decide +kernel
theorem dX2_becomeAs_18 : decode cX2_becomeAs 18 = .ok (.iload_n 2, 1) := by decide +kernel
theorem dX2_becomeAs_19 : decode cX2_becomeAs 19 = .ok (.aaload, 1) := by decide +kernel
theorem dX2_becomeAs_20 : decode cX2_becomeAs 20 = .ok (.invokevirtual 33, 3) := by decide +kernel
theorem dX2_becomeAs_23 : decode cX2_becomeAs 23 = .ok (.iinc 2 1, 3) := by decide +kernel
theorem dX2_becomeAs_26 : decode cX2_becomeAs 26 = .ok (.goto (-24), 3) := by decide +kernel
theorem dX2_becomeAs_29 : decode cX2_becomeAs 29 = .ok (.aload_n 0, 1) := by decide +kernel
theorem dX2_becomeAs_30 : decode cX2_becomeAs 30 = .ok (.getfield 22, 3) := by decide +kernel
theorem dX2_becomeAs_33 : decode cX2_becomeAs 33 = .ok (.aload_n 1, 1) := by decide +kernel
theorem dX2_becomeAs_34 : decode cX2_becomeAs 34 = .ok (.getfield 22, 3) := by decide +kernel
theorem dX2_becomeAs_37 : decode cX2_becomeAs 37 = .ok (.invokevirtual 37, 3) := by decide +kernel
theorem dX2_becomeAs_40 : decode cX2_becomeAs 40 = .ok (.aload_n 0, 1) := by decide +kernel
theorem dX2_becomeAs_41 : decode cX2_becomeAs 41 = .ok (.getfield 26, 3) := by decide +kernel
theorem dX2_becomeAs_44 : decode cX2_becomeAs 44 = .ok (.aload_n 1, 1) := by decide +kernel
theorem dX2_becomeAs_45 : decode cX2_becomeAs 45 = .ok (.getfield 26, 3) := by decide +kernel
theorem dX2_becomeAs_48 : decode cX2_becomeAs 48 = .ok (.invokevirtual 37, 3) := by decide +kernel
theorem dX2_becomeAs_51 : decode cX2_becomeAs 51 = .ok (.aload_n 0, 1) := by decide +kernel
theorem dX2_becomeAs_52 : decode cX2_becomeAs 52 = .ok (.getfield 29, 3) := by decide +kernel
theorem dX2_becomeAs_55 : decode cX2_becomeAs 55 = .ok (.aload_n 1, 1) := by decide +kernel
theorem dX2_becomeAs_56 : decode cX2_becomeAs 56 = .ok (.getfield 29, 3) := by decide +kernel
theorem dX2_becomeAs_59 : decode cX2_becomeAs 59 = .ok (.invokevirtual 37, 3) := by decide +kernel
theorem dX2_becomeAs_62 : decode cX2_becomeAs 62 = .ok (.return_, 1) := by decide +kernel
theorem dX2_numbersInAll_0 : decode cX2_numbersInAll 0 = .ok (.iconst 0, 1) := by decide +kernel
theorem dX2_numbersInAll_1 : decode cX2_numbersInAll 1 = .ok (.istore_n 1, 1) := by decide +kernel
theorem dX2_numbersInAll_2 : decode cX2_numbersInAll 2 = .ok (.iconst 0, 1) := by decide +kernel
theorem dX2_numbersInAll_3 : decode cX2_numbersInAll 3 = .ok (.istore_n 2, 1) := by decide +kernel
theorem dX2_numbersInAll_4 : decode cX2_numbersInAll 4 = .ok (.iload_n 2, 1) := by decide +kernel
theorem dX2_numbersInAll_5 : decode cX2_numbersInAll 5 = .ok (.bipush 6, 2) := by decide +kernel
theorem dX2_numbersInAll_7 : decode cX2_numbersInAll 7 = .ok (.if_icmp .ge 21, 3) := by decide +kernel
theorem dX2_numbersInAll_10 : decode cX2_numbersInAll 10 = .ok (.iload_n 1, 1) := by decide +kernel
theorem dX2_numbersInAll_11 : decode cX2_numbersInAll 11 = .ok (.aload_n 0, 1) := by decide +kernel
theorem dX2_numbersInAll_12 : decode cX2_numbersInAll 12 = .ok (.getfield 11, 3) := by decide +kernel
theorem dX2_numbersInAll_15 : decode cX2_numbersInAll 15 = .ok (.iload_n 2, 1) := by decide +kernel
theorem dX2_numbersInAll_16 : decode cX2_numbersInAll 16 = .ok (.aaload, 1) := by decide +kernel
theorem dX2_numbersInAll_17 : decode cX2_numbersInAll 17 = .ok (.getfield 40, 3) := by decide +kernel
theorem dX2_numbersInAll_20 : decode cX2_numbersInAll 20 = .ok (.iadd, 1) := by decide +kernel
theorem dX2_numbersInAll_21 : decode cX2_numbersInAll 21 = .ok (.istore_n 1, 1) := by decide +kernel
theorem dX2_numbersInAll_22 : decode cX2_numbersInAll 22 = .ok (.iinc 2 1, 3) := by decide +kernel
theorem dX2_numbersInAll_25 : decode cX2_numbersInAll 25 = .ok (.goto (-21), 3) := by decide +kernel
theorem dX2_numbersInAll_28 : decode cX2_numbersInAll 28 = .ok (.iload_n 1, 1) := by decide +kernel
theorem dX2_numbersInAll_29 : decode cX2_numbersInAll 29 = .ok (.ireturn, 1) := by decide +kernel
theorem dX3_init_0 : decode cX3_init 0 = .ok (.aload_n 0, 1) := by decide +kernel
theorem dX3_init_1 : decode cX3_init 1 = .ok (.invokespecial 3, 3) := by decide +kernel
theorem dX3_init_4 : decode cX3_init 4 = .ok (.aload_n 0, 1) := by decide +kernel
theorem dX3_init_5 : decode cX3_init 5 = .ok (.bipush 16, 2) := by decide +kernel
theorem dX3_init_7 : decode cX3_init 7 = .ok (.newarray .int, 2) := by decide +kernel
theorem dX3_init_9 : decode cX3_init 9 = .ok (.putfield 9, 3) := by decide +kernel
theorem dX3_init_12 : decode cX3_init 12 = .ok (.return_, 1) := by decide +kernel
theorem dX3_clear_0 : decode cX3_clear 0 = .ok (.aload_n 0, 1) := by decide +kernel
theorem dX3_clear_1 : decode cX3_clear 1 = .ok (.iload_n 1, 1) := by decide +kernel
theorem dX3_clear_2 : decode cX3_clear 2 = .ok (.putfield 15, 3) := by decide +kernel
theorem dX3_clear_5 : decode cX3_clear 5 = .ok (.aload_n 0, 1) := by decide +kernel
theorem dX3_clear_6 : decode cX3_clear 6 = .ok (.iconst 0, 1) := by decide +kernel
theorem dX3_clear_7 : decode cX3_clear 7 = .ok (.putfield 19, 3) := by decide +kernel
theorem dX3_clear_10 : decode cX3_clear 10 = .ok (.return_, 1) := by decide +kernel
theorem dX3_append_0 : decode cX3_append 0 = .ok (.aload_n 0, 1) := by decide +kernel
theorem dX3_append_1 : decode cX3_append 1 = .ok (.getfield 19, 3) := by decide +kernel
theorem dX3_append_4 : decode cX3_append 4 = .ok (.bipush 16, 2) := by decide +kernel
theorem dX3_append_6 : decode cX3_append 6 = .ok (.if_icmp .lt 5, 3) := by decide +kernel
theorem dX3_append_9 : decode cX3_append 9 = .ok (.iconst 0, 1) := by decide +kernel
theorem dX3_append_10 : decode cX3_append 10 = .ok (.ireturn, 1) := by decide +kernel
theorem dX3_append_11 : decode cX3_append 11 = .ok (.aload_n 0, 1) := by decide +kernel
theorem dX3_append_12 : decode cX3_append 12 = .ok (.getfield 9, 3) := by decide +kernel
theorem dX3_append_15 : decode cX3_append 15 = .ok (.aload_n 0, 1) := by decide +kernel
theorem dX3_append_16 : decode cX3_append 16 = .ok (.getfield 19, 3) := by decide +kernel
theorem dX3_append_19 : decode cX3_append 19 = .ok (.iload_n 1, 1) := by decide +kernel
theorem dX3_append_20 : decode cX3_append 20 = .ok (.iastore, 1) := by decide +kernel
theorem dX3_append_21 : decode cX3_append 21 = .ok (.aload_n 0, 1) := by decide +kernel
theorem dX3_append_22 : decode cX3_append 22 = .ok (.dup, 1) := by decide +kernel
theorem dX3_append_23 : decode cX3_append 23 = .ok (.getfield 19, 3) := by decide +kernel
theorem dX3_append_26 : decode cX3_append 26 = .ok (.iconst 1, 1) := by decide +kernel
theorem dX3_append_27 : decode cX3_append 27 = .ok (.iadd, 1) := by decide +kernel
theorem dX3_append_28 : decode cX3_append 28 = .ok (.putfield 19, 3) := by decide +kernel
theorem dX3_append_31 : decode cX3_append 31 = .ok (.iconst 1, 1) := by decide +kernel
theorem dX3_append_32 : decode cX3_append 32 = .ok (.ireturn, 1) := by decide +kernel
theorem dX3_becomeAs_0 : decode cX3_becomeAs 0 = .ok (.aload_n 0, 1) := by decide +kernel
theorem dX3_becomeAs_1 : decode cX3_becomeAs 1 = .ok (.aload_n 1, 1) := by decide +kernel
theorem dX3_becomeAs_2 : decode cX3_becomeAs 2 = .ok (.getfield 15, 3) := by decide +kernel
theorem dX3_becomeAs_5 : decode cX3_becomeAs 5 = .ok (.putfield 15, 3) := by decide +kernel
theorem dX3_becomeAs_8 : decode cX3_becomeAs 8 = .ok (.aload_n 0, 1) := by decide +kernel
theorem dX3_becomeAs_9 : decode cX3_becomeAs 9 = .ok (.aload_n 1, 1) := by decide +kernel
theorem dX3_becomeAs_10 : decode cX3_becomeAs 10 = .ok (.getfield 19, 3) := by decide +kernel
theorem dX3_becomeAs_13 : decode cX3_becomeAs 13 = .ok (.putfield 19, 3) := by decide +kernel
theorem dX3_becomeAs_16 : decode cX3_becomeAs 16 = .ok (.aload_n 1, 1) := by decide +kernel
theorem dX3_becomeAs_17 : decode cX3_becomeAs 17 = .ok (.getfield 9, 3) := by decide +kernel
theorem dX3_becomeAs_20 : decode cX3_becomeAs 20 = .ok (.iconst 0, 1) := by decide +kernel
theorem dX3_becomeAs_21 : decode cX3_becomeAs 21 = .ok (.aload_n 0, 1) := by decide +kernel
theorem dX3_becomeAs_22 : decode cX3_becomeAs 22 = .ok (.getfield 9, 3) := by decide +kernel
theorem dX3_becomeAs_25 : decode cX3_becomeAs 25 = .ok (.iconst 0, 1) := by decide +kernel
theorem dX3_becomeAs_26 : decode cX3_becomeAs 26 = .ok (.bipush 16, 2) := by decide +kernel
theorem dX3_becomeAs_28 : decode cX3_becomeAs 28 = .ok (.invokestatic 22, 3) := by decide +kernel
theorem dX3_becomeAs_31 : decode cX3_becomeAs 31 = .ok (.return_, 1) := by decide +kernel
theorem dX3_reckon_0 : decode cX3_reckon 0 = .ok (.aload_n 2, 1) := by decide +kernel
theorem dX3_reckon_1 : decode cX3_reckon 1 = .ok (.lconst 0, 1) := by decide +kernel
theorem dX3_reckon_2 : decode cX3_reckon 2 = .ok (.lconst 1, 1) := by decide +kernel
theorem dX3_reckon_3 : decode cX3_reckon 3 = .ok (.invokevirtual 28, 3) := by decide +kernel
theorem dX3_reckon_6 : decode cX3_reckon 6 = .ok (.iload_n 1, 1) := by decide +kernel
theorem dX3_reckon_7 : decode cX3_reckon 7 = .ok (.aload_n 0, 1) := by decide +kernel
theorem dX3_reckon_8 : decode cX3_reckon 8 = .ok (.getfield 19, 3) := by decide +kernel
theorem dX3_reckon_11 : decode cX3_reckon 11 = .ok (.invokestatic 34, 3) := by decide +kernel
theorem dX3_reckon_14 : decode cX3_reckon 14 = .ok (.iconst 1, 1) := by decide +kernel
theorem dX3_reckon_15 : decode cX3_reckon 15 = .ok (.isub, 1) := by decide +kernel
theorem dX3_reckon_16 : decode cX3_reckon 16 = .ok (.istore_n 3, 1) := by decide +kernel
theorem dX3_reckon_17 : decode cX3_reckon 17 = .ok (.iload_n 3, 1) := by decide +kernel
theorem dX3_reckon_18 : decode cX3_reckon 18 = .ok (.ifCond .lt 22, 3) := by decide +kernel
theorem dX3_reckon_21 : decode cX3_reckon 21 = .ok (.aload_n 2, 1) := by decide +kernel
theorem dX3_reckon_22 : decode cX3_reckon 22 = .ok (.getfield 40, 3) := by decide +kernel
theorem dX3_reckon_25 : decode cX3_reckon 25 = .ok (.ifCond .eq 15, 3) := by decide +kernel
theorem dX3_reckon_28 : decode cX3_reckon 28 = .ok (.aload_n 0, 1) := by decide +kernel
theorem dX3_reckon_29 : decode cX3_reckon 29 = .ok (.iload_n 3, 1) := by decide +kernel
theorem dX3_reckon_30 : decode cX3_reckon 30 = .ok (.aload_n 2, 1) := by decide +kernel
theorem dX3_reckon_31 : decode cX3_reckon 31 = .ok (.invokevirtual 44, 3) := by decide +kernel
theorem dX3_reckon_34 : decode cX3_reckon 34 = .ok (.iinc 3 (-1), 3) := by decide +kernel
theorem dX3_reckon_37 : decode cX3_reckon 37 = .ok (.goto (-20), 3) := by decide +kernel
theorem dX3_reckon_40 : decode cX3_reckon 40 = .ok (.return_, 1) := by decide +kernel
theorem dX3_fold_0 : decode cX3_fold 0 = .ok (.aload_n 0, 1) := by decide +kernel
theorem dX3_fold_1 : decode cX3_fold 1 = .ok (.getfield 9, 3) := by decide +kernel
theorem dX3_fold_4 : decode cX3_fold 4 = .ok (.iload_n 1, 1) := by decide +kernel
theorem dX3_fold_5 : decode cX3_fold 5 = .ok (.iaload, 1) := by decide +kernel
theorem dX3_fold_6 : decode cX3_fold 6 = .ok (.i2l, 1) := by decide +kernel
theorem dX3_fold_7 : decode cX3_fold 7 = .ok (.lstore_n 3, 1) := by decide +kernel
theorem dX3_fold_8 : decode cX3_fold 8 = .ok (.aload_n 0, 1) := by decide +kernel
theorem dX3_fold_9 : decode cX3_fold 9 = .ok (.getfield 15, 3) := by decide +kernel
theorem dX3_fold_12 : decode cX3_fold 12 = .ok (.ifCond .ne 12, 3) := by decide +kernel
theorem dX3_fold_15 : decode cX3_fold 15 = .ok (.aload_n 2, 1) := by decide +kernel
theorem dX3_fold_16 : decode cX3_fold 16 = .ok (.lconst 1, 1) := by decide +kernel
theorem dX3_fold_17 : decode cX3_fold 17 = .ok (.lload_n 3, 1) := by decide +kernel
theorem dX3_fold_18 : decode cX3_fold 18 = .ok (.invokevirtual 48, 3) := by decide +kernel
theorem dX3_fold_21 : decode cX3_fold 21 = .ok (.goto 59, 3) := by decide +kernel
theorem dX3_fold_24 : decode cX3_fold 24 = .ok (.aload_n 0, 1) := by decide +kernel
theorem dX3_fold_25 : decode cX3_fold 25 = .ok (.getfield 15, 3) := by decide +kernel
theorem dX3_fold_28 : decode cX3_fold 28 = .ok (.iconst 1, 1) := by decide +kernel
theorem dX3_fold_29 : decode cX3_fold 29 = .ok (.if_icmp .ne 17, 3) := by decide +kernel
theorem dX3_fold_32 : decode cX3_fold 32 = .ok (.aload_n 2, 1) := by decide +kernel
theorem dX3_fold_33 : decode cX3_fold 33 = .ok (.lconst 1, 1) := by decide +kernel
theorem dX3_fold_34 : decode cX3_fold 34 = .ok (.lconst 1, 1) := by decide +kernel
theorem dX3_fold_35 : decode cX3_fold 35 = .ok (.invokevirtual 48, 3) := by decide +kernel
theorem dX3_fold_38 : decode cX3_fold 38 = .ok (.aload_n 2, 1) := by decide +kernel
theorem dX3_fold_39 : decode cX3_fold 39 = .ok (.lload_n 3, 1) := by decide +kernel
theorem dX3_fold_40 : decode cX3_fold 40 = .ok (.invokevirtual 51, 3) := by decide +kernel
theorem dX3_fold_43 : decode cX3_fold 43 = .ok (.goto 37, 3) := by decide +kernel
theorem dX3_fold_46 : decode cX3_fold 46 = .ok (.aload_n 0, 1) := by decide +kernel
theorem dX3_fold_47 : decode cX3_fold 47 = .ok (.getfield 15, 3) := by decide +kernel
theorem dX3_fold_50 : decode cX3_fold 50 = .ok (.iconst 2, 1) := by decide +kernel
theorem dX3_fold_51 : decode cX3_fold 51 = .ok (.if_icmp .ne 15, 3) := by decide +kernel
theorem dX3_fold_54 : decode cX3_fold 54 = .ok (.aload_n 2, 1) := by decide +kernel
theorem dX3_fold_55 : decode cX3_fold 55 = .ok (.invokevirtual 55, 3) := by decide +kernel
theorem dX3_fold_58 : decode cX3_fold 58 = .ok (.aload_n 2, 1) := by decide +kernel
theorem dX3_fold_59 : decode cX3_fold 59 = .ok (.lload_n 3, 1) := by decide +kernel
theorem dX3_fold_60 : decode cX3_fold 60 = .ok (.invokevirtual 51, 3) := by decide +kernel
theorem dX3_fold_63 : decode cX3_fold 63 = .ok (.goto 17, 3) := by decide +kernel
theorem dX3_fold_66 : decode cX3_fold 66 = .ok (.aload_n 2, 1) := by decide +kernel
theorem dX3_fold_67 : decode cX3_fold 67 = .ok (.lload_n 3, 1) := by decide +kernel
theorem dX3_fold_68 : decode cX3_fold 68 = .ok (.lconst 1, 1) := by decide +kernel
theorem dX3_fold_69 : decode cX3_fold 69 = .ok (.invokevirtual 48, 3) := by decide +kernel
theorem dX3_fold_72 : decode cX3_fold 72 = .ok (.aload_n 2, 1) := by decide +kernel
theorem dX3_fold_73 : decode cX3_fold 73 = .ok (.iload_n 1, 1) := by decide +kernel
theorem dX3_fold_74 : decode cX3_fold 74 = .ok (.iconst 2, 1) := by decide +kernel
theorem dX3_fold_75 : decode cX3_fold 75 = .ok (.iadd, 1) := by decide +kernel
theorem dX3_fold_76 : decode cX3_fold 76 = .ok (.i2l, 1) := by decide +kernel
theorem dX3_fold_77 : decode cX3_fold 77 = .ok (.invokevirtual 51, 3) := by decide +kernel
theorem dX3_fold_80 : decode cX3_fold 80 = .ok (.return_, 1) := by decide +kernel
theorem dX3_unfold_0 : decode cX3_unfold 0 = .ok (.aload_n 0, 1) := by decide +kernel
theorem dX3_unfold_1 : decode cX3_unfold 1 = .ok (.iload_n 1, 1) := by decide +kernel
theorem dX3_unfold_2 : decode cX3_unfold 2 = .ok (.invokevirtual 58, 3) := by decide +kernel
theorem dX3_unfold_5 : decode cX3_unfold 5 = .ok (.iconst 0, 1) := by decide +kernel
theorem dX3_unfold_6 : decode cX3_unfold 6 = .ok (.istore_n 3, 1) := by decide +kernel
theorem dX3_unfold_7 : decode cX3_unfold 7 = .ok (.iload_n 3, 1) := by decide +kernel
theorem dX3_unfold_8 : decode cX3_unfold 8 = .ok (.bipush 16, 2) := by decide +kernel
theorem dX3_unfold_10 : decode cX3_unfold 10 = .ok (.if_icmp .ge 56, 3) := by decide +kernel
theorem dX3_unfold_13 : decode cX3_unfold 13 = .ok (.aload_n 2, 1) := by decide +kernel
theorem dX3_unfold_14 : decode cX3_unfold 14 = .ok (.invokevirtual 62, 3) := by decide +kernel
theorem dX3_unfold_17 : decode cX3_unfold 17 = .ok (.ifCond .eq 49, 3) := by decide +kernel
theorem dX3_unfold_20 : decode cX3_unfold 20 = .ok (.aload_n 0, 1) := by decide +kernel
theorem dX3_unfold_21 : decode cX3_unfold 21 = .ok (.aload_n 2, 1) := by decide +kernel
theorem dX3_unfold_22 : decode cX3_unfold 22 = .ok (.invokevirtual 66, 3) := by decide +kernel
theorem dX3_unfold_25 : decode cX3_unfold 25 = .ok (.lstore 4, 2) := by decide +kernel
theorem dX3_unfold_27 : decode cX3_unfold 27 = .ok (.lload 4, 2) := by decide +kernel
theorem dX3_unfold_29 : decode cX3_unfold 29 = .ok (.ldc2_w 70, 3) := by decide +kernel
theorem dX3_unfold_32 : decode cX3_unfold 32 = .ok (.lcmp, 1) := by decide +kernel
theorem dX3_unfold_33 : decode cX3_unfold 33 = .ok (.ifCond .le 4, 3) := by decide +kernel
theorem dX3_unfold_36 : decode cX3_unfold 36 = .ok (.return_, 1) := by decide +kernel
theorem dX3_unfold_37 : decode cX3_unfold 37 = .ok (.aload_n 0, 1) := by decide +kernel
theorem dX3_unfold_38 : decode cX3_unfold 38 = .ok (.lload 4, 2) := by decide +kernel
theorem dX3_unfold_40 : decode cX3_unfold 40 = .ok (.aload_n 2, 1) := by decide +kernel
theorem dX3_unfold_41 : decode cX3_unfold 41 = .ok (.invokevirtual 72, 3) := by decide +kernel
theorem dX3_unfold_44 : decode cX3_unfold 44 = .ok (.aload_n 2, 1) := by decide +kernel
theorem dX3_unfold_45 : decode cX3_unfold 45 = .ok (.getfield 40, 3) := by decide +kernel
theorem dX3_unfold_48 : decode cX3_unfold 48 = .ok (.ifCond .ne 4, 3) := by decide +kernel
theorem dX3_unfold_51 : decode cX3_unfold 51 = .ok (.return_, 1) := by decide +kernel
theorem dX3_unfold_52 : decode cX3_unfold 52 = .ok (.aload_n 0, 1) := by decide +kernel
theorem dX3_unfold_53 : decode cX3_unfold 53 = .ok (.lload 4, 2) := by decide +kernel
theorem dX3_unfold_55 : decode cX3_unfold 55 = .ok (.l2i, 1) := by decide +kernel
theorem dX3_unfold_56 : decode cX3_unfold 56 = .ok (.invokevirtual 76, 3) := by decide +kernel
theorem dX3_unfold_59 : decode cX3_unfold 59 = .ok (.pop, 1) := by decide +kernel
theorem dX3_unfold_60 : decode cX3_unfold 60 = .ok (.iinc 3 1, 3) := by decide +kernel
theorem dX3_unfold_63 : decode cX3_unfold 63 = .ok (.goto (-56), 3) := by decide +kernel
theorem dX3_unfold_66 : decode cX3_unfold 66 = .ok (.return_, 1) := by decide +kernel
theorem dX3_nextNumber_0 : decode cX3_nextNumber 0 = .ok (.aload_n 0, 1) := by decide +kernel
theorem dX3_nextNumber_1 : decode cX3_nextNumber 1 = .ok (.getfield 15, 3) := by decide +kernel
theorem dX3_nextNumber_4 : decode cX3_nextNumber 4 = .ok (.ifCond .eq 11, 3) := by decide +kernel
theorem dX3_nextNumber_7 : decode cX3_nextNumber 7 = .ok (.aload_n 0, 1) := by decide +kernel
theorem dX3_nextNumber_8 : decode cX3_nextNumber 8 = .ok (.getfield 15, 3) := by decide +kernel
theorem dX3_nextNumber_11 : decode cX3_nextNumber 11 = .ok (.iconst 1, 1) := by decide +kernel
theorem dX3_nextNumber_12 : decode cX3_nextNumber 12 = .ok (.if_icmp .ne 33, 3) := by decide +kernel
theorem dX3_nextNumber_15 : decode cX3_nextNumber 15 = .ok (.aload_n 1, 1) := by decide +kernel
theorem dX3_nextNumber_16 : decode cX3_nextNumber 16 = .ok (.getfield 80, 3) := by decide +kernel
theorem dX3_nextNumber_19 : decode cX3_nextNumber 19 = .ok (.lconst 0, 1) := by decide +kernel
theorem dX3_nextNumber_20 : decode cX3_nextNumber 20 = .ok (.lcmp, 1) := by decide +kernel
theorem dX3_nextNumber_21 : decode cX3_nextNumber 21 = .ok (.ifCond .le 22, 3) := by decide +kernel
theorem dX3_nextNumber_24 : decode cX3_nextNumber 24 = .ok (.aload_n 1, 1) := by decide +kernel
theorem dX3_nextNumber_25 : decode cX3_nextNumber 25 = .ok (.getfield 84, 3) := by decide +kernel
theorem dX3_nextNumber_28 : decode cX3_nextNumber 28 = .ok (.aload_n 1, 1) := by decide +kernel
theorem dX3_nextNumber_29 : decode cX3_nextNumber 29 = .ok (.getfield 80, 3) := by decide +kernel
theorem dX3_nextNumber_32 : decode cX3_nextNumber 32 = .ok (.ladd, 1) := by decide +kernel
theorem dX3_nextNumber_33 : decode cX3_nextNumber 33 = .ok (.lconst 1, 1) := by decide +kernel
theorem dX3_nextNumber_34 : decode cX3_nextNumber 34 = .ok (.lsub, 1) := by decide +kernel
theorem dX3_nextNumber_35 : decode cX3_nextNumber 35 = .ok (.aload_n 1, 1) := by decide +kernel
theorem dX3_nextNumber_36 : decode cX3_nextNumber 36 = .ok (.getfield 80, 3) := by decide +kernel
theorem dX3_nextNumber_39 : decode cX3_nextNumber 39 = .ok (.ldiv, 1) := by decide +kernel
theorem dX3_nextNumber_40 : decode cX3_nextNumber 40 = .ok (.goto 4, 3) := by decide +kernel
theorem dX3_nextNumber_43 : decode cX3_nextNumber 43 = .ok (.lconst 0, 1) := by decide +kernel
theorem dX3_nextNumber_44 : decode cX3_nextNumber 44 = .ok (.lreturn, 1) := by decide +kernel
theorem dX3_nextNumber_45 : decode cX3_nextNumber 45 = .ok (.aload_n 0, 1) := by decide +kernel
theorem dX3_nextNumber_46 : decode cX3_nextNumber 46 = .ok (.getfield 15, 3) := by decide +kernel
theorem dX3_nextNumber_49 : decode cX3_nextNumber 49 = .ok (.iconst 2, 1) := by decide +kernel
theorem dX3_nextNumber_50 : decode cX3_nextNumber 50 = .ok (.if_icmp .ne 26, 3) := by decide +kernel
theorem dX3_nextNumber_53 : decode cX3_nextNumber 53 = .ok (.aload_n 1, 1) := by decide +kernel
theorem dX3_nextNumber_54 : decode cX3_nextNumber 54 = .ok (.getfield 80, 3) := by decide +kernel
theorem dX3_nextNumber_57 : decode cX3_nextNumber 57 = .ok (.lconst 0, 1) := by decide +kernel
theorem dX3_nextNumber_58 : decode cX3_nextNumber 58 = .ok (.lcmp, 1) := by decide +kernel
theorem dX3_nextNumber_59 : decode cX3_nextNumber 59 = .ok (.ifCond .le 15, 3) := by decide +kernel
theorem dX3_nextNumber_62 : decode cX3_nextNumber 62 = .ok (.aload_n 1, 1) := by decide +kernel
theorem dX3_nextNumber_63 : decode cX3_nextNumber 63 = .ok (.getfield 84, 3) := by decide +kernel
theorem dX3_nextNumber_66 : decode cX3_nextNumber 66 = .ok (.aload_n 1, 1) := by decide +kernel
theorem dX3_nextNumber_67 : decode cX3_nextNumber 67 = .ok (.getfield 80, 3) := by decide +kernel
theorem dX3_nextNumber_70 : decode cX3_nextNumber 70 = .ok (.ldiv, 1) := by decide +kernel
theorem dX3_nextNumber_71 : decode cX3_nextNumber 71 = .ok (.goto 4, 3) := by decide +kernel
theorem dX3_nextNumber_74 : decode cX3_nextNumber 74 = .ok (.lconst 0, 1) := by decide +kernel
theorem dX3_nextNumber_75 : decode cX3_nextNumber 75 = .ok (.lreturn, 1) := by decide +kernel
theorem dX3_nextNumber_76 : decode cX3_nextNumber 76 = .ok (.aload_n 1, 1) := by decide +kernel
theorem dX3_nextNumber_77 : decode cX3_nextNumber 77 = .ok (.getfield 84, 3) := by decide +kernel
theorem dX3_nextNumber_80 : decode cX3_nextNumber 80 = .ok (.lconst 0, 1) := by decide +kernel
theorem dX3_nextNumber_81 : decode cX3_nextNumber 81 = .ok (.lcmp, 1) := by decide +kernel
theorem dX3_nextNumber_82 : decode cX3_nextNumber 82 = .ok (.ifCond .le 23, 3) := by decide +kernel
theorem dX3_nextNumber_85 : decode cX3_nextNumber 85 = .ok (.aload_n 1, 1) := by decide +kernel
theorem dX3_nextNumber_86 : decode cX3_nextNumber 86 = .ok (.getfield 80, 3) := by decide +kernel
theorem dX3_nextNumber_89 : decode cX3_nextNumber 89 = .ok (.aload_n 0, 1) := by decide +kernel
theorem dX3_nextNumber_90 : decode cX3_nextNumber 90 = .ok (.getfield 19, 3) := by decide +kernel
theorem dX3_nextNumber_93 : decode cX3_nextNumber 93 = .ok (.iconst 2, 1) := by decide +kernel
theorem dX3_nextNumber_94 : decode cX3_nextNumber 94 = .ok (.iadd, 1) := by decide +kernel
theorem dX3_nextNumber_95 : decode cX3_nextNumber 95 = .ok (.i2l, 1) := by decide +kernel
theorem dX3_nextNumber_96 : decode cX3_nextNumber 96 = .ok (.lmul, 1) := by decide +kernel
theorem dX3_nextNumber_97 : decode cX3_nextNumber 97 = .ok (.aload_n 1, 1) := by decide +kernel
theorem dX3_nextNumber_98 : decode cX3_nextNumber 98 = .ok (.getfield 84, 3) := by decide +kernel
theorem dX3_nextNumber_101 : decode cX3_nextNumber 101 = .ok (.ldiv, 1) := by decide +kernel
theorem dX3_nextNumber_102 : decode cX3_nextNumber 102 = .ok (.goto 4, 3) := by decide +kernel
theorem dX3_nextNumber_105 : decode cX3_nextNumber 105 = .ok (.lconst 0, 1) := by decide +kernel
theorem dX3_nextNumber_106 : decode cX3_nextNumber 106 = .ok (.lreturn, 1) := by decide +kernel
theorem dX3_takeOut_0 : decode cX3_takeOut 0 = .ok (.aload_n 0, 1) := by decide +kernel
theorem dX3_takeOut_1 : decode cX3_takeOut 1 = .ok (.getfield 15, 3) := by decide +kernel
theorem dX3_takeOut_4 : decode cX3_takeOut 4 = .ok (.ifCond .ne 27, 3) := by decide +kernel
theorem dX3_takeOut_7 : decode cX3_takeOut 7 = .ok (.aload_n 3, 1) := by decide +kernel
theorem dX3_takeOut_8 : decode cX3_takeOut 8 = .ok (.aload_n 3, 1) := by decide +kernel
theorem dX3_takeOut_9 : decode cX3_takeOut 9 = .ok (.getfield 80, 3) := by decide +kernel
theorem dX3_takeOut_12 : decode cX3_takeOut 12 = .ok (.lload_n 1, 1) := by decide +kernel
theorem dX3_takeOut_13 : decode cX3_takeOut 13 = .ok (.lmul, 1) := by decide +kernel
theorem dX3_takeOut_14 : decode cX3_takeOut 14 = .ok (.aload_n 3, 1) := by decide +kernel
theorem dX3_takeOut_15 : decode cX3_takeOut 15 = .ok (.getfield 84, 3) := by decide +kernel
theorem dX3_takeOut_18 : decode cX3_takeOut 18 = .ok (.lsub, 1) := by decide +kernel
theorem dX3_takeOut_19 : decode cX3_takeOut 19 = .ok (.aload_n 3, 1) := by decide +kernel
theorem dX3_takeOut_20 : decode cX3_takeOut 20 = .ok (.getfield 84, 3) := by decide +kernel
theorem dX3_takeOut_23 : decode cX3_takeOut 23 = .ok (.lload_n 1, 1) := by decide +kernel
theorem dX3_takeOut_24 : decode cX3_takeOut 24 = .ok (.lmul, 1) := by decide +kernel
theorem dX3_takeOut_25 : decode cX3_takeOut 25 = .ok (.invokevirtual 28, 3) := by decide +kernel
theorem dX3_takeOut_28 : decode cX3_takeOut 28 = .ok (.goto 90, 3) := by decide +kernel
theorem dX3_takeOut_31 : decode cX3_takeOut 31 = .ok (.aload_n 0, 1) := by decide +kernel
theorem dX3_takeOut_32 : decode cX3_takeOut 32 = .ok (.getfield 15, 3) := by decide +kernel
theorem dX3_takeOut_35 : decode cX3_takeOut 35 = .ok (.iconst 1, 1) := by decide +kernel
theorem dX3_takeOut_36 : decode cX3_takeOut 36 = .ok (.if_icmp .ne 25, 3) := by decide +kernel
theorem dX3_takeOut_39 : decode cX3_takeOut 39 = .ok (.aload_n 3, 1) := by decide +kernel
theorem dX3_takeOut_40 : decode cX3_takeOut 40 = .ok (.aload_n 3, 1) := by decide +kernel
theorem dX3_takeOut_41 : decode cX3_takeOut 41 = .ok (.getfield 80, 3) := by decide +kernel
theorem dX3_takeOut_44 : decode cX3_takeOut 44 = .ok (.lload_n 1, 1) := by decide +kernel
theorem dX3_takeOut_45 : decode cX3_takeOut 45 = .ok (.lmul, 1) := by decide +kernel
theorem dX3_takeOut_46 : decode cX3_takeOut 46 = .ok (.aload_n 3, 1) := by decide +kernel
theorem dX3_takeOut_47 : decode cX3_takeOut 47 = .ok (.getfield 84, 3) := by decide +kernel
theorem dX3_takeOut_50 : decode cX3_takeOut 50 = .ok (.lsub, 1) := by decide +kernel
theorem dX3_takeOut_51 : decode cX3_takeOut 51 = .ok (.aload_n 3, 1) := by decide +kernel
theorem dX3_takeOut_52 : decode cX3_takeOut 52 = .ok (.getfield 84, 3) := by decide +kernel
theorem dX3_takeOut_55 : decode cX3_takeOut 55 = .ok (.invokevirtual 28, 3) := by decide +kernel
theorem dX3_takeOut_58 : decode cX3_takeOut 58 = .ok (.goto 60, 3) := by decide +kernel
theorem dX3_takeOut_61 : decode cX3_takeOut 61 = .ok (.aload_n 0, 1) := by decide +kernel
theorem dX3_takeOut_62 : decode cX3_takeOut 62 = .ok (.getfield 15, 3) := by decide +kernel
theorem dX3_takeOut_65 : decode cX3_takeOut 65 = .ok (.iconst 2, 1) := by decide +kernel
theorem dX3_takeOut_66 : decode cX3_takeOut 66 = .ok (.if_icmp .ne 25, 3) := by decide +kernel
theorem dX3_takeOut_69 : decode cX3_takeOut 69 = .ok (.aload_n 3, 1) := by decide +kernel
theorem dX3_takeOut_70 : decode cX3_takeOut 70 = .ok (.aload_n 3, 1) := by decide +kernel
theorem dX3_takeOut_71 : decode cX3_takeOut 71 = .ok (.getfield 84, 3) := by decide +kernel
theorem dX3_takeOut_74 : decode cX3_takeOut 74 = .ok (.aload_n 3, 1) := by decide +kernel
theorem dX3_takeOut_75 : decode cX3_takeOut 75 = .ok (.getfield 80, 3) := by decide +kernel
theorem dX3_takeOut_78 : decode cX3_takeOut 78 = .ok (.lload_n 1, 1) := by decide +kernel
theorem dX3_takeOut_79 : decode cX3_takeOut 79 = .ok (.lmul, 1) := by decide +kernel
theorem dX3_takeOut_80 : decode cX3_takeOut 80 = .ok (.lsub, 1) := by decide +kernel
theorem dX3_takeOut_81 : decode cX3_takeOut 81 = .ok (.aload_n 3, 1) := by decide +kernel
theorem dX3_takeOut_82 : decode cX3_takeOut 82 = .ok (.getfield 84, 3) := by decide +kernel
theorem dX3_takeOut_85 : decode cX3_takeOut 85 = .ok (.invokevirtual 28, 3) := by decide +kernel
theorem dX3_takeOut_88 : decode cX3_takeOut 88 = .ok (.goto 30, 3) := by decide +kernel
theorem dX3_takeOut_91 : decode cX3_takeOut 91 = .ok (.aload_n 3, 1) := by decide +kernel
theorem dX3_takeOut_92 : decode cX3_takeOut 92 = .ok (.aload_n 3, 1) := by decide +kernel
theorem dX3_takeOut_93 : decode cX3_takeOut 93 = .ok (.getfield 80, 3) := by decide +kernel
theorem dX3_takeOut_96 : decode cX3_takeOut 96 = .ok (.aload_n 0, 1) := by decide +kernel
theorem dX3_takeOut_97 : decode cX3_takeOut 97 = .ok (.getfield 19, 3) := by decide +kernel
theorem dX3_takeOut_100 : decode cX3_takeOut 100 = .ok (.iconst 2, 1) := by decide +kernel
theorem dX3_takeOut_101 : decode cX3_takeOut 101 = .ok (.iadd, 1) := by decide +kernel
theorem dX3_takeOut_102 : decode cX3_takeOut 102 = .ok (.i2l, 1) := by decide +kernel
theorem dX3_takeOut_103 : decode cX3_takeOut 103 = .ok (.lmul, 1) := by decide +kernel
theorem dX3_takeOut_104 : decode cX3_takeOut 104 = .ok (.lload_n 1, 1) := by decide +kernel
theorem dX3_takeOut_105 : decode cX3_takeOut 105 = .ok (.aload_n 3, 1) := by decide +kernel
theorem dX3_takeOut_106 : decode cX3_takeOut 106 = .ok (.getfield 84, 3) := by decide +kernel
theorem dX3_takeOut_109 : decode cX3_takeOut 109 = .ok (.lmul, 1) := by decide +kernel
theorem dX3_takeOut_110 : decode cX3_takeOut 110 = .ok (.lsub, 1) := by decide +kernel
theorem dX3_takeOut_111 : decode cX3_takeOut 111 = .ok (.aload_n 3, 1) := by decide +kernel
theorem dX3_takeOut_112 : decode cX3_takeOut 112 = .ok (.getfield 84, 3) := by decide +kernel
theorem dX3_takeOut_115 : decode cX3_takeOut 115 = .ok (.invokevirtual 28, 3) := by decide +kernel
theorem dX3_takeOut_118 : decode cX3_takeOut 118 = .ok (.return_, 1) := by decide +kernel
theorem dX3_flaw_0 : decode cX3_flaw 0 = .ok (.aload_n 0, 1) := by decide +kernel
theorem dX3_flaw_1 : decode cX3_flaw 1 = .ok (.getfield 19, 3) := by decide +kernel
theorem dX3_flaw_4 : decode cX3_flaw 4 = .ok (.ifCond .ne 5, 3) := by decide +kernel
theorem dX3_flaw_7 : decode cX3_flaw 7 = .ok (.iconst 0, 1) := by decide +kernel
theorem dX3_flaw_8 : decode cX3_flaw 8 = .ok (.ireturn, 1) := by decide +kernel
theorem dX3_flaw_9 : decode cX3_flaw 9 = .ok (.iconst 0, 1) := by decide +kernel
theorem dX3_flaw_10 : decode cX3_flaw 10 = .ok (.istore_n 1, 1) := by decide +kernel
theorem dX3_flaw_11 : decode cX3_flaw 11 = .ok (.iload_n 1, 1) := by decide +kernel
theorem dX3_flaw_12 : decode cX3_flaw 12 = .ok (.aload_n 0, 1) := by decide +kernel
theorem dX3_flaw_13 : decode cX3_flaw 13 = .ok (.getfield 19, 3) := by decide +kernel
theorem dX3_flaw_16 : decode cX3_flaw 16 = .ok (.if_icmp .ge 33, 3) := by decide +kernel
theorem dX3_flaw_19 : decode cX3_flaw 19 = .ok (.iload_n 1, 1) := by decide +kernel
theorem dX3_flaw_20 : decode cX3_flaw 20 = .ok (.ifCond .ne 13, 3) := by decide +kernel
theorem dX3_flaw_23 : decode cX3_flaw 23 = .ok (.aload_n 0, 1) := by decide +kernel
theorem dX3_flaw_24 : decode cX3_flaw 24 = .ok (.invokevirtual 87, 3) := by decide +kernel
theorem dX3_flaw_27 : decode cX3_flaw 27 = .ok (.ifCond .eq 16, 3) := by decide +kernel
theorem dX3_flaw_30 : decode cX3_flaw 30 = .ok (.goto 11, 3) := by decide +kernel
theorem dX3_flaw_33 : decode cX3_flaw 33 = .ok (.aload_n 0, 1) := by decide +kernel
theorem dX3_flaw_34 : decode cX3_flaw 34 = .ok (.iload_n 1, 1) := by decide +kernel
theorem dX3_flaw_35 : decode cX3_flaw 35 = .ok (.invokevirtual 90, 3) := by decide +kernel
theorem dX3_flaw_38 : decode cX3_flaw 38 = .ok (.ifCond .eq 5, 3) := by decide +kernel
theorem dX3_flaw_41 : decode cX3_flaw 41 = .ok (.iload_n 1, 1) := by decide +kernel
theorem dX3_flaw_42 : decode cX3_flaw 42 = .ok (.ireturn, 1) := by decide +kernel
theorem dX3_flaw_43 : decode cX3_flaw 43 = .ok (.iinc 1 1, 3) := by decide +kernel
theorem dX3_flaw_46 : decode cX3_flaw 46 = .ok (.goto (-35), 3) := by decide +kernel
theorem dX3_flaw_49 : decode cX3_flaw 49 = .ok (.bipush (-5), 2) := by decide +kernel
theorem dX3_flaw_51 : decode cX3_flaw 51 = .ok (.ireturn, 1) := by decide +kernel
theorem dX3_isFirstAmiss_0 : decode cX3_isFirstAmiss 0 = .ok (.aload_n 0, 1) := by decide +kernel
theorem dX3_isFirstAmiss_1 : decode cX3_isFirstAmiss 1 = .ok (.getfield 9, 3) := by decide +kernel
theorem dX3_isFirstAmiss_4 : decode cX3_isFirstAmiss 4 = .ok (.iconst 0, 1) := by decide +kernel
theorem dX3_isFirstAmiss_5 : decode cX3_isFirstAmiss 5 = .ok (.iaload, 1) := by decide +kernel
theorem dX3_isFirstAmiss_6 : decode cX3_isFirstAmiss 6 = .ok (.istore_n 1, 1) := by decide +kernel
theorem dX3_isFirstAmiss_7 : decode cX3_isFirstAmiss 7 = .ok (.aload_n 0, 1) := by decide +kernel
theorem dX3_isFirstAmiss_8 : decode cX3_isFirstAmiss 8 = .ok (.getfield 15, 3) := by decide +kernel
theorem dX3_isFirstAmiss_11 : decode cX3_isFirstAmiss 11 = .ok (.ifCond .eq 11, 3) := by decide +kernel
theorem dX3_isFirstAmiss_14 : decode cX3_isFirstAmiss 14 = .ok (.aload_n 0, 1) := by decide +kernel
theorem dX3_isFirstAmiss_15 : decode cX3_isFirstAmiss 15 = .ok (.getfield 15, 3) := by decide +kernel
theorem dX3_isFirstAmiss_18 : decode cX3_isFirstAmiss 18 = .ok (.iconst 1, 1) := by decide +kernel
theorem dX3_isFirstAmiss_19 : decode cX3_isFirstAmiss 19 = .ok (.if_icmp .ne 14, 3) := by decide +kernel
theorem dX3_isFirstAmiss_22 : decode cX3_isFirstAmiss 22 = .ok (.iload_n 1, 1) := by decide +kernel
theorem dX3_isFirstAmiss_23 : decode cX3_isFirstAmiss 23 = .ok (.iconst 2, 1) := by decide +kernel
theorem dX3_isFirstAmiss_24 : decode cX3_isFirstAmiss 24 = .ok (.if_icmp .ge 7, 3) := by decide +kernel
theorem dX3_isFirstAmiss_27 : decode cX3_isFirstAmiss 27 = .ok (.iconst 1, 1) := by decide +kernel
theorem dX3_isFirstAmiss_28 : decode cX3_isFirstAmiss 28 = .ok (.goto 4, 3) := by decide +kernel
theorem dX3_isFirstAmiss_31 : decode cX3_isFirstAmiss 31 = .ok (.iconst 0, 1) := by decide +kernel
theorem dX3_isFirstAmiss_32 : decode cX3_isFirstAmiss 32 = .ok (.ireturn, 1) := by decide +kernel
theorem dX3_isFirstAmiss_33 : decode cX3_isFirstAmiss 33 = .ok (.aload_n 0, 1) := by decide +kernel
theorem dX3_isFirstAmiss_34 : decode cX3_isFirstAmiss 34 = .ok (.getfield 15, 3) := by decide +kernel
theorem dX3_isFirstAmiss_37 : decode cX3_isFirstAmiss 37 = .ok (.iconst 2, 1) := by decide +kernel
theorem dX3_isFirstAmiss_38 : decode cX3_isFirstAmiss 38 = .ok (.if_icmp .ne 27, 3) := by decide +kernel
theorem dX3_isFirstAmiss_41 : decode cX3_isFirstAmiss 41 = .ok (.iload_n 1, 1) := by decide +kernel
theorem dX3_isFirstAmiss_42 : decode cX3_isFirstAmiss 42 = .ok (.iconst 1, 1) := by decide +kernel
theorem dX3_isFirstAmiss_43 : decode cX3_isFirstAmiss 43 = .ok (.if_icmp .lt 16, 3) := by decide +kernel
theorem dX3_isFirstAmiss_46 : decode cX3_isFirstAmiss 46 = .ok (.aload_n 0, 1) := by decide +kernel
theorem dX3_isFirstAmiss_47 : decode cX3_isFirstAmiss 47 = .ok (.getfield 19, 3) := by decide +kernel
theorem dX3_isFirstAmiss_50 : decode cX3_isFirstAmiss 50 = .ok (.iconst 1, 1) := by decide +kernel
theorem dX3_isFirstAmiss_51 : decode cX3_isFirstAmiss 51 = .ok (.if_icmp .ne 12, 3) := by decide +kernel
theorem dX3_isFirstAmiss_54 : decode cX3_isFirstAmiss 54 = .ok (.iload_n 1, 1) := by decide +kernel
theorem dX3_isFirstAmiss_55 : decode cX3_isFirstAmiss 55 = .ok (.iconst 1, 1) := by decide +kernel
theorem dX3_isFirstAmiss_56 : decode cX3_isFirstAmiss 56 = .ok (.if_icmp .ne 7, 3) := by decide +kernel
theorem dX3_isFirstAmiss_59 : decode cX3_isFirstAmiss 59 = .ok (.iconst 1, 1) := by decide +kernel
theorem dX3_isFirstAmiss_60 : decode cX3_isFirstAmiss 60 = .ok (.goto 4, 3) := by decide +kernel
theorem dX3_isFirstAmiss_63 : decode cX3_isFirstAmiss 63 = .ok (.iconst 0, 1) := by decide +kernel
theorem dX3_isFirstAmiss_64 : decode cX3_isFirstAmiss 64 = .ok (.ireturn, 1) := by decide +kernel
theorem dX3_isFirstAmiss_65 : decode cX3_isFirstAmiss 65 = .ok (.iload_n 1, 1) := by decide +kernel
theorem dX3_isFirstAmiss_66 : decode cX3_isFirstAmiss 66 = .ok (.iconst 1, 1) := by decide +kernel
theorem dX3_isFirstAmiss_67 : decode cX3_isFirstAmiss 67 = .ok (.if_icmp .gt 15, 3) := by decide +kernel
theorem dX3_isFirstAmiss_70 : decode cX3_isFirstAmiss 70 = .ok (.aload_n 0, 1) := by decide +kernel
theorem dX3_isFirstAmiss_71 : decode cX3_isFirstAmiss 71 = .ok (.getfield 19, 3) := by decide +kernel
theorem dX3_isFirstAmiss_74 : decode cX3_isFirstAmiss 74 = .ok (.iconst 1, 1) := by decide +kernel
theorem dX3_isFirstAmiss_75 : decode cX3_isFirstAmiss 75 = .ok (.if_icmp .ne 11, 3) := by decide +kernel
theorem dX3_isFirstAmiss_78 : decode cX3_isFirstAmiss 78 = .ok (.iload_n 1, 1) := by decide +kernel
theorem dX3_isFirstAmiss_79 : decode cX3_isFirstAmiss 79 = .ok (.ifCond .ne 7, 3) := by decide +kernel
theorem dX3_isFirstAmiss_82 : decode cX3_isFirstAmiss 82 = .ok (.iconst 1, 1) := by decide +kernel
theorem dX3_isFirstAmiss_83 : decode cX3_isFirstAmiss 83 = .ok (.goto 4, 3) := by decide +kernel
theorem dX3_isFirstAmiss_86 : decode cX3_isFirstAmiss 86 = .ok (.iconst 0, 1) := by decide +kernel
theorem dX3_isFirstAmiss_87 : decode cX3_isFirstAmiss 87 = .ok (.ireturn, 1) := by decide +kernel
theorem dX3_isLaterAmiss_0 : decode cX3_isLaterAmiss 0 = .ok (.aload_n 0, 1) := by decide +kernel
theorem dX3_isLaterAmiss_1 : decode cX3_isLaterAmiss 1 = .ok (.getfield 9, 3) := by decide +kernel
theorem dX3_isLaterAmiss_4 : decode cX3_isLaterAmiss 4 = .ok (.iload_n 1, 1) := by decide +kernel
theorem dX3_isLaterAmiss_5 : decode cX3_isLaterAmiss 5 = .ok (.iaload, 1) := by decide +kernel
theorem dX3_isLaterAmiss_6 : decode cX3_isLaterAmiss 6 = .ok (.i2l, 1) := by decide +kernel
theorem dX3_isLaterAmiss_7 : decode cX3_isLaterAmiss 7 = .ok (.lstore_n 2, 1) := by decide +kernel
theorem dX3_isLaterAmiss_8 : decode cX3_isLaterAmiss 8 = .ok (.aload_n 0, 1) := by decide +kernel
theorem dX3_isLaterAmiss_9 : decode cX3_isLaterAmiss 9 = .ok (.getfield 9, 3) := by decide +kernel
theorem dX3_isLaterAmiss_12 : decode cX3_isLaterAmiss 12 = .ok (.iload_n 1, 1) := by decide +kernel
theorem dX3_isLaterAmiss_13 : decode cX3_isLaterAmiss 13 = .ok (.iconst 1, 1) := by decide +kernel
theorem dX3_isLaterAmiss_14 : decode cX3_isLaterAmiss 14 = .ok (.isub, 1) := by decide +kernel
theorem dX3_isLaterAmiss_15 : decode cX3_isLaterAmiss 15 = .ok (.iaload, 1) := by decide +kernel
theorem dX3_isLaterAmiss_16 : decode cX3_isLaterAmiss 16 = .ok (.i2l, 1) := by decide +kernel
theorem dX3_isLaterAmiss_17 : decode cX3_isLaterAmiss 17 = .ok (.lstore 4, 2) := by decide +kernel
theorem dX3_isLaterAmiss_19 : decode cX3_isLaterAmiss 19 = .ok (.iload_n 1, 1) := by decide +kernel
theorem dX3_isLaterAmiss_20 : decode cX3_isLaterAmiss 20 = .ok (.aload_n 0, 1) := by decide +kernel
theorem dX3_isLaterAmiss_21 : decode cX3_isLaterAmiss 21 = .ok (.getfield 19, 3) := by decide +kernel
theorem dX3_isLaterAmiss_24 : decode cX3_isLaterAmiss 24 = .ok (.iconst 1, 1) := by decide +kernel
theorem dX3_isLaterAmiss_25 : decode cX3_isLaterAmiss 25 = .ok (.isub, 1) := by decide +kernel
theorem dX3_isLaterAmiss_26 : decode cX3_isLaterAmiss 26 = .ok (.if_icmp .ne 7, 3) := by decide +kernel
theorem dX3_isLaterAmiss_29 : decode cX3_isLaterAmiss 29 = .ok (.iconst 1, 1) := by decide +kernel
theorem dX3_isLaterAmiss_30 : decode cX3_isLaterAmiss 30 = .ok (.goto 4, 3) := by decide +kernel
theorem dX3_isLaterAmiss_33 : decode cX3_isLaterAmiss 33 = .ok (.iconst 0, 1) := by decide +kernel
theorem dX3_isLaterAmiss_34 : decode cX3_isLaterAmiss 34 = .ok (.istore 6, 2) := by decide +kernel
theorem dX3_isLaterAmiss_36 : decode cX3_isLaterAmiss 36 = .ok (.aload_n 0, 1) := by decide +kernel
theorem dX3_isLaterAmiss_37 : decode cX3_isLaterAmiss 37 = .ok (.getfield 15, 3) := by decide +kernel
theorem dX3_isLaterAmiss_40 : decode cX3_isLaterAmiss 40 = .ok (.ifCond .ne 23, 3) := by decide +kernel
theorem dX3_isLaterAmiss_43 : decode cX3_isLaterAmiss 43 = .ok (.lload_n 2, 1) := by decide +kernel
theorem dX3_isLaterAmiss_44 : decode cX3_isLaterAmiss 44 = .ok (.lload 4, 2) := by decide +kernel
theorem dX3_isLaterAmiss_46 : decode cX3_isLaterAmiss 46 = .ok (.lload 4, 2) := by decide +kernel
theorem dX3_isLaterAmiss_48 : decode cX3_isLaterAmiss 48 = .ok (.lconst 1, 1) := by decide +kernel
theorem dX3_isLaterAmiss_49 : decode cX3_isLaterAmiss 49 = .ok (.lsub, 1) := by decide +kernel
theorem dX3_isLaterAmiss_50 : decode cX3_isLaterAmiss 50 = .ok (.lmul, 1) := by decide +kernel
theorem dX3_isLaterAmiss_51 : decode cX3_isLaterAmiss 51 = .ok (.lconst 1, 1) := by decide +kernel
theorem dX3_isLaterAmiss_52 : decode cX3_isLaterAmiss 52 = .ok (.ladd, 1) := by decide +kernel
theorem dX3_isLaterAmiss_53 : decode cX3_isLaterAmiss 53 = .ok (.lcmp, 1) := by decide +kernel
theorem dX3_isLaterAmiss_54 : decode cX3_isLaterAmiss 54 = .ok (.ifCond .ge 7, 3) := by decide +kernel
theorem dX3_isLaterAmiss_57 : decode cX3_isLaterAmiss 57 = .ok (.iconst 1, 1) := by decide +kernel
theorem dX3_isLaterAmiss_58 : decode cX3_isLaterAmiss 58 = .ok (.goto 4, 3) := by decide +kernel
theorem dX3_isLaterAmiss_61 : decode cX3_isLaterAmiss 61 = .ok (.iconst 0, 1) := by decide +kernel
theorem dX3_isLaterAmiss_62 : decode cX3_isLaterAmiss 62 = .ok (.ireturn, 1) := by decide +kernel
theorem dX3_isLaterAmiss_63 : decode cX3_isLaterAmiss 63 = .ok (.aload_n 0, 1) := by decide +kernel
theorem dX3_isLaterAmiss_64 : decode cX3_isLaterAmiss 64 = .ok (.getfield 15, 3) := by decide +kernel
theorem dX3_isLaterAmiss_67 : decode cX3_isLaterAmiss 67 = .ok (.iconst 1, 1) := by decide +kernel
theorem dX3_isLaterAmiss_68 : decode cX3_isLaterAmiss 68 = .ok (.if_icmp .ne 16, 3) := by decide +kernel
theorem dX3_isLaterAmiss_71 : decode cX3_isLaterAmiss 71 = .ok (.lload_n 2, 1) := by decide +kernel
theorem dX3_isLaterAmiss_72 : decode cX3_isLaterAmiss 72 = .ok (.lload 4, 2) := by decide +kernel
theorem dX3_isLaterAmiss_74 : decode cX3_isLaterAmiss 74 = .ok (.lcmp, 1) := by decide +kernel
theorem dX3_isLaterAmiss_75 : decode cX3_isLaterAmiss 75 = .ok (.ifCond .ge 7, 3) := by decide +kernel
theorem dX3_isLaterAmiss_78 : decode cX3_isLaterAmiss 78 = .ok (.iconst 1, 1) := by decide +kernel
theorem dX3_isLaterAmiss_79 : decode cX3_isLaterAmiss 79 = .ok (.goto 4, 3) := by decide +kernel
theorem dX3_isLaterAmiss_82 : decode cX3_isLaterAmiss 82 = .ok (.iconst 0, 1) := by decide +kernel
theorem dX3_isLaterAmiss_83 : decode cX3_isLaterAmiss 83 = .ok (.ireturn, 1) := by decide +kernel
theorem dX3_isLaterAmiss_84 : decode cX3_isLaterAmiss 84 = .ok (.aload_n 0, 1) := by decide +kernel
theorem dX3_isLaterAmiss_85 : decode cX3_isLaterAmiss 85 = .ok (.getfield 15, 3) := by decide +kernel
theorem dX3_isLaterAmiss_88 : decode cX3_isLaterAmiss 88 = .ok (.iconst 2, 1) := by decide +kernel
theorem dX3_isLaterAmiss_89 : decode cX3_isLaterAmiss 89 = .ok (.if_icmp .ne 30, 3) := by decide +kernel
theorem dX3_isLaterAmiss_92 : decode cX3_isLaterAmiss 92 = .ok (.lload_n 2, 1) := by decide +kernel
theorem dX3_isLaterAmiss_93 : decode cX3_isLaterAmiss 93 = .ok (.lload 4, 2) := by decide +kernel
theorem dX3_isLaterAmiss_95 : decode cX3_isLaterAmiss 95 = .ok (.lcmp, 1) := by decide +kernel
theorem dX3_isLaterAmiss_96 : decode cX3_isLaterAmiss 96 = .ok (.ifCond .le 17, 3) := by decide +kernel
theorem dX3_isLaterAmiss_99 : decode cX3_isLaterAmiss 99 = .ok (.iload 6, 2) := by decide +kernel
theorem dX3_isLaterAmiss_101 : decode cX3_isLaterAmiss 101 = .ok (.ifCond .eq 16, 3) := by decide +kernel
theorem dX3_isLaterAmiss_104 : decode cX3_isLaterAmiss 104 = .ok (.lload_n 2, 1) := by decide +kernel
theorem dX3_isLaterAmiss_105 : decode cX3_isLaterAmiss 105 = .ok (.lload 4, 2) := by decide +kernel
theorem dX3_isLaterAmiss_107 : decode cX3_isLaterAmiss 107 = .ok (.lconst 1, 1) := by decide +kernel
theorem dX3_isLaterAmiss_108 : decode cX3_isLaterAmiss 108 = .ok (.ladd, 1) := by decide +kernel
theorem dX3_isLaterAmiss_109 : decode cX3_isLaterAmiss 109 = .ok (.lcmp, 1) := by decide +kernel
theorem dX3_isLaterAmiss_110 : decode cX3_isLaterAmiss 110 = .ok (.ifCond .ne 7, 3) := by decide +kernel
theorem dX3_isLaterAmiss_113 : decode cX3_isLaterAmiss 113 = .ok (.iconst 1, 1) := by decide +kernel
theorem dX3_isLaterAmiss_114 : decode cX3_isLaterAmiss 114 = .ok (.goto 4, 3) := by decide +kernel
theorem dX3_isLaterAmiss_117 : decode cX3_isLaterAmiss 117 = .ok (.iconst 0, 1) := by decide +kernel
theorem dX3_isLaterAmiss_118 : decode cX3_isLaterAmiss 118 = .ok (.ireturn, 1) := by decide +kernel
theorem dX3_isLaterAmiss_119 : decode cX3_isLaterAmiss 119 = .ok (.lload_n 2, 1) := by decide +kernel
theorem dX3_isLaterAmiss_120 : decode cX3_isLaterAmiss 120 = .ok (.iload_n 1, 1) := by decide +kernel
theorem dX3_isLaterAmiss_121 : decode cX3_isLaterAmiss 121 = .ok (.iconst 1, 1) := by decide +kernel
theorem dX3_isLaterAmiss_122 : decode cX3_isLaterAmiss 122 = .ok (.iadd, 1) := by decide +kernel
theorem dX3_isLaterAmiss_123 : decode cX3_isLaterAmiss 123 = .ok (.i2l, 1) := by decide +kernel
theorem dX3_isLaterAmiss_124 : decode cX3_isLaterAmiss 124 = .ok (.lcmp, 1) := by decide +kernel
theorem dX3_isLaterAmiss_125 : decode cX3_isLaterAmiss 125 = .ok (.ifCond .gt 14, 3) := by decide +kernel
theorem dX3_isLaterAmiss_128 : decode cX3_isLaterAmiss 128 = .ok (.iload 6, 2) := by decide +kernel
theorem dX3_isLaterAmiss_130 : decode cX3_isLaterAmiss 130 = .ok (.ifCond .eq 13, 3) := by decide +kernel
theorem dX3_isLaterAmiss_133 : decode cX3_isLaterAmiss 133 = .ok (.lload_n 2, 1) := by decide +kernel
theorem dX3_isLaterAmiss_134 : decode cX3_isLaterAmiss 134 = .ok (.lconst 0, 1) := by decide +kernel
theorem dX3_isLaterAmiss_135 : decode cX3_isLaterAmiss 135 = .ok (.lcmp, 1) := by decide +kernel
theorem dX3_isLaterAmiss_136 : decode cX3_isLaterAmiss 136 = .ok (.ifCond .ne 7, 3) := by decide +kernel
theorem dX3_isLaterAmiss_139 : decode cX3_isLaterAmiss 139 = .ok (.iconst 1, 1) := by decide +kernel
theorem dX3_isLaterAmiss_140 : decode cX3_isLaterAmiss 140 = .ok (.goto 4, 3) := by decide +kernel
theorem dX3_isLaterAmiss_143 : decode cX3_isLaterAmiss 143 = .ok (.iconst 0, 1) := by decide +kernel
theorem dX3_isLaterAmiss_144 : decode cX3_isLaterAmiss 144 = .ok (.ireturn, 1) := by decide +kernel
theorem dX3_greaterByNumbers_0 : decode cX3_greaterByNumbers 0 = .ok (.aload_n 0, 1) := by decide +kernel
theorem dX3_greaterByNumbers_1 : decode cX3_greaterByNumbers 1 = .ok (.getfield 19, 3) := by decide +kernel
theorem dX3_greaterByNumbers_4 : decode cX3_greaterByNumbers 4 = .ok (.aload_n 1, 1) := by decide +kernel
theorem dX3_greaterByNumbers_5 : decode cX3_greaterByNumbers 5 = .ok (.getfield 19, 3) := by decide +kernel
theorem dX3_greaterByNumbers_8 : decode cX3_greaterByNumbers 8 = .ok (.invokestatic 34, 3) := by decide +kernel
theorem dX3_greaterByNumbers_11 : decode cX3_greaterByNumbers 11 = .ok (.istore_n 2, 1) := by decide +kernel
theorem dX3_greaterByNumbers_12 : decode cX3_greaterByNumbers 12 = .ok (.iconst 0, 1) := by decide +kernel
theorem dX3_greaterByNumbers_13 : decode cX3_greaterByNumbers 13 = .ok (.istore_n 3, 1) := by decide +kernel
theorem dX3_greaterByNumbers_14 : decode cX3_greaterByNumbers 14 = .ok (.iload_n 3, 1) := by decide +kernel
theorem dX3_greaterByNumbers_15 : decode cX3_greaterByNumbers 15 = .ok (.iload_n 2, 1) := by decide +kernel
theorem dX3_greaterByNumbers_16 : decode cX3_greaterByNumbers 16 = .ok (.if_icmp .ge 24, 3) := by decide +kernel
theorem dX3_greaterByNumbers_19 : decode cX3_greaterByNumbers 19 = .ok (.aload_n 0, 1) := by decide +kernel
theorem dX3_greaterByNumbers_20 : decode cX3_greaterByNumbers 20 = .ok (.getfield 9, 3) := by decide +kernel
theorem dX3_greaterByNumbers_23 : decode cX3_greaterByNumbers 23 = .ok (.iload_n 3, 1) := by decide +kernel
theorem dX3_greaterByNumbers_24 : decode cX3_greaterByNumbers 24 = .ok (.iaload, 1) := by decide +kernel
theorem dX3_greaterByNumbers_25 : decode cX3_greaterByNumbers 25 = .ok (.aload_n 1, 1) := by decide +kernel
theorem dX3_greaterByNumbers_26 : decode cX3_greaterByNumbers 26 = .ok (.getfield 9, 3) := by decide +kernel
theorem dX3_greaterByNumbers_29 : decode cX3_greaterByNumbers 29 = .ok (.iload_n 3, 1) := by decide +kernel
theorem dX3_greaterByNumbers_30 : decode cX3_greaterByNumbers 30 = .ok (.iaload, 1) := by decide +kernel
theorem dX3_greaterByNumbers_31 : decode cX3_greaterByNumbers 31 = .ok (.if_icmp .ne 9, 3) := by decide +kernel
theorem dX3_greaterByNumbers_34 : decode cX3_greaterByNumbers 34 = .ok (.iinc 3 1, 3) := by decide +kernel
theorem dX3_greaterByNumbers_37 : decode cX3_greaterByNumbers 37 = .ok (.goto (-23), 3) := by decide +kernel
theorem dX3_greaterByNumbers_40 : decode cX3_greaterByNumbers 40 = .ok (.iload_n 3, 1) := by decide +kernel
theorem dX3_greaterByNumbers_41 : decode cX3_greaterByNumbers 41 = .ok (.aload_n 0, 1) := by decide +kernel
theorem dX3_greaterByNumbers_42 : decode cX3_greaterByNumbers 42 = .ok (.getfield 19, 3) := by decide +kernel
theorem dX3_greaterByNumbers_45 : decode cX3_greaterByNumbers 45 = .ok (.if_icmp .ne 13, 3) := by decide +kernel
theorem dX3_greaterByNumbers_48 : decode cX3_greaterByNumbers 48 = .ok (.iload_n 3, 1) := by decide +kernel
theorem dX3_greaterByNumbers_49 : decode cX3_greaterByNumbers 49 = .ok (.aload_n 1, 1) := by decide +kernel
theorem dX3_greaterByNumbers_50 : decode cX3_greaterByNumbers 50 = .ok (.getfield 19, 3) := by decide +kernel
theorem dX3_greaterByNumbers_53 : decode cX3_greaterByNumbers 53 = .ok (.if_icmp .ne 5, 3) := by decide +kernel
theorem dX3_greaterByNumbers_56 : decode cX3_greaterByNumbers 56 = .ok (.iconst 0, 1) := by decide +kernel
theorem dX3_greaterByNumbers_57 : decode cX3_greaterByNumbers 57 = .ok (.ireturn, 1) := by decide +kernel
theorem dX3_greaterByNumbers_58 : decode cX3_greaterByNumbers 58 = .ok (.aload_n 0, 1) := by decide +kernel
theorem dX3_greaterByNumbers_59 : decode cX3_greaterByNumbers 59 = .ok (.getfield 15, 3) := by decide +kernel
theorem dX3_greaterByNumbers_62 : decode cX3_greaterByNumbers 62 = .ok (.iconst 2, 1) := by decide +kernel
theorem dX3_greaterByNumbers_63 : decode cX3_greaterByNumbers 63 = .ok (.if_icmp .ne 14, 3) := by decide +kernel
theorem dX3_greaterByNumbers_66 : decode cX3_greaterByNumbers 66 = .ok (.iload_n 3, 1) := by decide +kernel
theorem dX3_greaterByNumbers_67 : decode cX3_greaterByNumbers 67 = .ok (.iconst 2, 1) := by decide +kernel
theorem dX3_greaterByNumbers_68 : decode cX3_greaterByNumbers 68 = .ok (.irem, 1) := by decide +kernel
theorem dX3_greaterByNumbers_69 : decode cX3_greaterByNumbers 69 = .ok (.iconst 1, 1) := by decide +kernel
theorem dX3_greaterByNumbers_70 : decode cX3_greaterByNumbers 70 = .ok (.if_icmp .ne 7, 3) := by decide +kernel
theorem dX3_greaterByNumbers_73 : decode cX3_greaterByNumbers 73 = .ok (.iconst 1, 1) := by decide +kernel
theorem dX3_greaterByNumbers_74 : decode cX3_greaterByNumbers 74 = .ok (.goto 4, 3) := by decide +kernel
theorem dX3_greaterByNumbers_77 : decode cX3_greaterByNumbers 77 = .ok (.iconst 0, 1) := by decide +kernel
theorem dX3_greaterByNumbers_78 : decode cX3_greaterByNumbers 78 = .ok (.istore 4, 2) := by decide +kernel
theorem dX3_greaterByNumbers_80 : decode cX3_greaterByNumbers 80 = .ok (.iload_n 3, 1) := by decide +kernel
theorem dX3_greaterByNumbers_81 : decode cX3_greaterByNumbers 81 = .ok (.iload_n 2, 1) := by decide +kernel
theorem dX3_greaterByNumbers_82 : decode cX3_greaterByNumbers 82 = .ok (.if_icmp .ge 73, 3) := by decide +kernel
theorem dX3_greaterByNumbers_85 : decode cX3_greaterByNumbers 85 = .ok (.aload_n 0, 1) := by decide +kernel
theorem dX3_greaterByNumbers_86 : decode cX3_greaterByNumbers 86 = .ok (.getfield 15, 3) := by decide +kernel
theorem dX3_greaterByNumbers_89 : decode cX3_greaterByNumbers 89 = .ok (.ifCond .eq 24, 3) := by decide +kernel
theorem dX3_greaterByNumbers_92 : decode cX3_greaterByNumbers 92 = .ok (.aload_n 0, 1) := by decide +kernel
theorem dX3_greaterByNumbers_93 : decode cX3_greaterByNumbers 93 = .ok (.getfield 15, 3) := by decide +kernel
theorem dX3_greaterByNumbers_96 : decode cX3_greaterByNumbers 96 = .ok (.iconst 1, 1) := by decide +kernel
theorem dX3_greaterByNumbers_97 : decode cX3_greaterByNumbers 97 = .ok (.if_icmp .eq 16, 3) := by decide +kernel
theorem dX3_greaterByNumbers_100 : decode cX3_greaterByNumbers 100 = .ok (.aload_n 0, 1) := by decide +kernel
theorem dX3_greaterByNumbers_101 : decode cX3_greaterByNumbers 101 = .ok (.getfield 15, 3) := by decide +kernel
theorem dX3_greaterByNumbers_104 : decode cX3_greaterByNumbers 104 = .ok (.iconst 2, 1) := by decide +kernel
theorem dX3_greaterByNumbers_105 : decode cX3_greaterByNumbers 105 = .ok (.if_icmp .ne 12, 3) := by decide +kernel
theorem dX3_greaterByNumbers_108 : decode cX3_greaterByNumbers 108 = .ok (.iload 4, 2) := by decide +kernel
theorem dX3_greaterByNumbers_110 : decode cX3_greaterByNumbers 110 = .ok (.ifCond .ne 7, 3) := by decide +kernel
theorem dX3_greaterByNumbers_113 : decode cX3_greaterByNumbers 113 = .ok (.iconst 1, 1) := by decide +kernel
theorem dX3_greaterByNumbers_114 : decode cX3_greaterByNumbers 114 = .ok (.goto 4, 3) := by decide +kernel
theorem dX3_greaterByNumbers_117 : decode cX3_greaterByNumbers 117 = .ok (.iconst 0, 1) := by decide +kernel
theorem dX3_greaterByNumbers_118 : decode cX3_greaterByNumbers 118 = .ok (.istore 6, 2) := by decide +kernel
theorem dX3_greaterByNumbers_120 : decode cX3_greaterByNumbers 120 = .ok (.aload_n 0, 1) := by decide +kernel
theorem dX3_greaterByNumbers_121 : decode cX3_greaterByNumbers 121 = .ok (.getfield 9, 3) := by decide +kernel
theorem dX3_greaterByNumbers_124 : decode cX3_greaterByNumbers 124 = .ok (.iload_n 3, 1) := by decide +kernel
theorem dX3_greaterByNumbers_125 : decode cX3_greaterByNumbers 125 = .ok (.iaload, 1) := by decide +kernel
theorem dX3_greaterByNumbers_126 : decode cX3_greaterByNumbers 126 = .ok (.aload_n 1, 1) := by decide +kernel
theorem dX3_greaterByNumbers_127 : decode cX3_greaterByNumbers 127 = .ok (.getfield 9, 3) := by decide +kernel
theorem dX3_greaterByNumbers_130 : decode cX3_greaterByNumbers 130 = .ok (.iload_n 3, 1) := by decide +kernel
theorem dX3_greaterByNumbers_131 : decode cX3_greaterByNumbers 131 = .ok (.iaload, 1) := by decide +kernel
theorem dX3_greaterByNumbers_132 : decode cX3_greaterByNumbers 132 = .ok (.if_icmp .ge 7, 3) := by decide +kernel
theorem dX3_greaterByNumbers_135 : decode cX3_greaterByNumbers 135 = .ok (.iconst 1, 1) := by decide +kernel
theorem dX3_greaterByNumbers_136 : decode cX3_greaterByNumbers 136 = .ok (.goto 4, 3) := by decide +kernel
theorem dX3_greaterByNumbers_139 : decode cX3_greaterByNumbers 139 = .ok (.iconst 0, 1) := by decide +kernel
theorem dX3_greaterByNumbers_140 : decode cX3_greaterByNumbers 140 = .ok (.iload 6, 2) := by decide +kernel
theorem dX3_greaterByNumbers_142 : decode cX3_greaterByNumbers 142 = .ok (.if_icmp .ne 7, 3) := by decide +kernel
theorem dX3_greaterByNumbers_145 : decode cX3_greaterByNumbers 145 = .ok (.iconst 1, 1) := by decide +kernel
theorem dX3_greaterByNumbers_146 : decode cX3_greaterByNumbers 146 = .ok (.goto 4, 3) := by decide +kernel
theorem dX3_greaterByNumbers_149 : decode cX3_greaterByNumbers 149 = .ok (.iconst 0, 1) := by decide +kernel
theorem dX3_greaterByNumbers_150 : decode cX3_greaterByNumbers 150 = .ok (.istore 5, 2) := by decide +kernel
theorem dX3_greaterByNumbers_152 : decode cX3_greaterByNumbers 152 = .ok (.goto 28, 3) := by decide +kernel
theorem dX3_greaterByNumbers_155 : decode cX3_greaterByNumbers 155 = .ok (.iload_n 3, 1) := by decide +kernel
theorem dX3_greaterByNumbers_156 : decode cX3_greaterByNumbers 156 = .ok (.aload_n 0, 1) := by decide +kernel
theorem dX3_greaterByNumbers_157 : decode cX3_greaterByNumbers 157 = .ok (.getfield 19, 3) := by decide +kernel
theorem dX3_greaterByNumbers_160 : decode cX3_greaterByNumbers 160 = .ok (.if_icmp .ge 7, 3) := by decide +kernel
theorem dX3_greaterByNumbers_163 : decode cX3_greaterByNumbers 163 = .ok (.iconst 1, 1) := by decide +kernel
theorem dX3_greaterByNumbers_164 : decode cX3_greaterByNumbers 164 = .ok (.goto 4, 3) := by decide +kernel
theorem dX3_greaterByNumbers_167 : decode cX3_greaterByNumbers 167 = .ok (.iconst 0, 1) := by decide +kernel
theorem dX3_greaterByNumbers_168 : decode cX3_greaterByNumbers 168 = .ok (.iload 4, 2) := by decide +kernel
theorem dX3_greaterByNumbers_170 : decode cX3_greaterByNumbers 170 = .ok (.if_icmp .eq 7, 3) := by decide +kernel
theorem dX3_greaterByNumbers_173 : decode cX3_greaterByNumbers 173 = .ok (.iconst 1, 1) := by decide +kernel
theorem dX3_greaterByNumbers_174 : decode cX3_greaterByNumbers 174 = .ok (.goto 4, 3) := by decide +kernel
theorem dX3_greaterByNumbers_177 : decode cX3_greaterByNumbers 177 = .ok (.iconst 0, 1) := by decide +kernel
theorem dX3_greaterByNumbers_178 : decode cX3_greaterByNumbers 178 = .ok (.istore 5, 2) := by decide +kernel
theorem dX3_greaterByNumbers_180 : decode cX3_greaterByNumbers 180 = .ok (.iload 5, 2) := by decide +kernel
theorem dX3_greaterByNumbers_182 : decode cX3_greaterByNumbers 182 = .ok (.ifCond .eq 7, 3) := by decide +kernel
theorem dX3_greaterByNumbers_185 : decode cX3_greaterByNumbers 185 = .ok (.iconst 1, 1) := by decide +kernel
theorem dX3_greaterByNumbers_186 : decode cX3_greaterByNumbers 186 = .ok (.goto 4, 3) := by decide +kernel
theorem dX3_greaterByNumbers_189 : decode cX3_greaterByNumbers 189 = .ok (.iconst 2, 1) := by decide +kernel
theorem dX3_greaterByNumbers_190 : decode cX3_greaterByNumbers 190 = .ok (.ireturn, 1) := by decide +kernel
theorem dX3_undergo_0 : decode cX3_undergo 0 = .ok (.iload_n 1, 1) := by decide +kernel
theorem dX3_undergo_1 : decode cX3_undergo 1 = .ok (.ifCond .ne 20, 3) := by decide +kernel
theorem dX3_undergo_4 : decode cX3_undergo 4 = .ok (.aload_n 0, 1) := by decide +kernel
theorem dX3_undergo_5 : decode cX3_undergo 5 = .ok (.iconst 0, 1) := by decide +kernel
theorem dX3_undergo_6 : decode cX3_undergo 6 = .ok (.aload_n 0, 1) := by decide +kernel
theorem dX3_undergo_7 : decode cX3_undergo 7 = .ok (.getfield 19, 3) := by decide +kernel
theorem dX3_undergo_10 : decode cX3_undergo 10 = .ok (.iconst 1, 1) := by decide +kernel
theorem dX3_undergo_11 : decode cX3_undergo 11 = .ok (.isub, 1) := by decide +kernel
theorem dX3_undergo_12 : decode cX3_undergo 12 = .ok (.invokestatic 93, 3) := by decide +kernel
theorem dX3_undergo_15 : decode cX3_undergo 15 = .ok (.putfield 19, 3) := by decide +kernel
theorem dX3_undergo_18 : decode cX3_undergo 18 = .ok (.goto 58, 3) := by decide +kernel
theorem dX3_undergo_21 : decode cX3_undergo 21 = .ok (.iload_n 1, 1) := by decide +kernel
theorem dX3_undergo_22 : decode cX3_undergo 22 = .ok (.iconst 1, 1) := by decide +kernel
theorem dX3_undergo_23 : decode cX3_undergo 23 = .ok (.if_icmp .ne 41, 3) := by decide +kernel
theorem dX3_undergo_26 : decode cX3_undergo 26 = .ok (.iconst 0, 1) := by decide +kernel
theorem dX3_undergo_27 : decode cX3_undergo 27 = .ok (.istore_n 2, 1) := by decide +kernel
theorem dX3_undergo_28 : decode cX3_undergo 28 = .ok (.iload_n 2, 1) := by decide +kernel
theorem dX3_undergo_29 : decode cX3_undergo 29 = .ok (.aload_n 0, 1) := by decide +kernel
theorem dX3_undergo_30 : decode cX3_undergo 30 = .ok (.getfield 19, 3) := by decide +kernel
theorem dX3_undergo_33 : decode cX3_undergo 33 = .ok (.if_icmp .ge 28, 3) := by decide +kernel
theorem dX3_undergo_36 : decode cX3_undergo 36 = .ok (.aload_n 0, 1) := by decide +kernel
theorem dX3_undergo_37 : decode cX3_undergo 37 = .ok (.getfield 9, 3) := by decide +kernel
theorem dX3_undergo_40 : decode cX3_undergo 40 = .ok (.iload_n 2, 1) := by decide +kernel
theorem dX3_undergo_41 : decode cX3_undergo 41 = .ok (.aload_n 0, 1) := by decide +kernel
theorem dX3_undergo_42 : decode cX3_undergo 42 = .ok (.getfield 9, 3) := by decide +kernel
theorem dX3_undergo_45 : decode cX3_undergo 45 = .ok (.iload_n 2, 1) := by decide +kernel
theorem dX3_undergo_46 : decode cX3_undergo 46 = .ok (.iaload, 1) := by decide +kernel
theorem dX3_undergo_47 : decode cX3_undergo 47 = .ok (.iconst 1, 1) := by decide +kernel
theorem dX3_undergo_48 : decode cX3_undergo 48 = .ok (.iadd, 1) := by decide +kernel
theorem dX3_undergo_49 : decode cX3_undergo 49 = .ok (.ldc 96, 2) := by decide +kernel
theorem dX3_undergo_51 : decode cX3_undergo 51 = .ok (.invokestatic 34, 3) := by decide +kernel
theorem dX3_undergo_54 : decode cX3_undergo 54 = .ok (.iastore, 1) := by decide +kernel
theorem dX3_undergo_55 : decode cX3_undergo 55 = .ok (.iinc 2 1, 3) := by decide +kernel
theorem dX3_undergo_58 : decode cX3_undergo 58 = .ok (.goto (-30), 3) := by decide +kernel
theorem dX3_undergo_61 : decode cX3_undergo 61 = .ok (.goto 15, 3) := by decide +kernel
theorem dX3_undergo_64 : decode cX3_undergo 64 = .ok (.aload_n 0, 1) := by decide +kernel
theorem dX3_undergo_65 : decode cX3_undergo 65 = .ok (.aload_n 0, 1) := by decide +kernel
theorem dX3_undergo_66 : decode cX3_undergo 66 = .ok (.getfield 15, 3) := by decide +kernel
theorem dX3_undergo_69 : decode cX3_undergo 69 = .ok (.iconst 1, 1) := by decide +kernel
theorem dX3_undergo_70 : decode cX3_undergo 70 = .ok (.iadd, 1) := by decide +kernel
theorem dX3_undergo_71 : decode cX3_undergo 71 = .ok (.iconst 4, 1) := by decide +kernel
theorem dX3_undergo_72 : decode cX3_undergo 72 = .ok (.irem, 1) := by decide +kernel
theorem dX3_undergo_73 : decode cX3_undergo 73 = .ok (.putfield 15, 3) := by decide +kernel
theorem dX3_undergo_76 : decode cX3_undergo 76 = .ok (.return_, 1) := by decide +kernel
theorem dX3_signAt_0 : decode cX3_signAt 0 = .ok (.iload_n 1, 1) := by decide +kernel
theorem dX3_signAt_1 : decode cX3_signAt 1 = .ok (.ifCond .ne 13, 3) := by decide +kernel
theorem dX3_signAt_4 : decode cX3_signAt 4 = .ok (.ldc 97, 2) := by decide +kernel
theorem dX3_signAt_6 : decode cX3_signAt 6 = .ok (.aload_n 0, 1) := by decide +kernel
theorem dX3_signAt_7 : decode cX3_signAt 7 = .ok (.getfield 15, 3) := by decide +kernel
theorem dX3_signAt_10 : decode cX3_signAt 10 = .ok (.invokevirtual 99, 3) := by decide +kernel
theorem dX3_signAt_13 : decode cX3_signAt 13 = .ok (.ireturn, 1) := by decide +kernel
theorem dX3_signAt_14 : decode cX3_signAt 14 = .ok (.iload_n 1, 1) := by decide +kernel
theorem dX3_signAt_15 : decode cX3_signAt 15 = .ok (.iconst 1, 1) := by decide +kernel
theorem dX3_signAt_16 : decode cX3_signAt 16 = .ok (.if_icmp .ne 6, 3) := by decide +kernel
theorem dX3_signAt_19 : decode cX3_signAt 19 = .ok (.bipush 58, 2) := by decide +kernel
theorem dX3_signAt_21 : decode cX3_signAt 21 = .ok (.ireturn, 1) := by decide +kernel
theorem dX3_signAt_22 : decode cX3_signAt 22 = .ok (.iload_n 1, 1) := by decide +kernel
theorem dX3_signAt_23 : decode cX3_signAt 23 = .ok (.iconst 2, 1) := by decide +kernel
theorem dX3_signAt_24 : decode cX3_signAt 24 = .ok (.isub, 1) := by decide +kernel
theorem dX3_signAt_25 : decode cX3_signAt 25 = .ok (.istore_n 2, 1) := by decide +kernel
theorem dX3_signAt_26 : decode cX3_signAt 26 = .ok (.iconst 0, 1) := by decide +kernel
theorem dX3_signAt_27 : decode cX3_signAt 27 = .ok (.istore_n 3, 1) := by decide +kernel
theorem dX3_signAt_28 : decode cX3_signAt 28 = .ok (.iload_n 3, 1) := by decide +kernel
theorem dX3_signAt_29 : decode cX3_signAt 29 = .ok (.aload_n 0, 1) := by decide +kernel
theorem dX3_signAt_30 : decode cX3_signAt 30 = .ok (.getfield 19, 3) := by decide +kernel
theorem dX3_signAt_33 : decode cX3_signAt 33 = .ok (.if_icmp .ge 73, 3) := by decide +kernel
theorem dX3_signAt_36 : decode cX3_signAt 36 = .ok (.aload_n 0, 1) := by decide +kernel
theorem dX3_signAt_37 : decode cX3_signAt 37 = .ok (.getfield 9, 3) := by decide +kernel
theorem dX3_signAt_40 : decode cX3_signAt 40 = .ok (.iload_n 3, 1) := by decide +kernel
theorem dX3_signAt_41 : decode cX3_signAt 41 = .ok (.iaload, 1) := by decide +kernel
theorem dX3_signAt_42 : decode cX3_signAt 42 = .ok (.invokestatic 105, 3) := by decide +kernel
theorem dX3_signAt_45 : decode cX3_signAt 45 = .ok (.istore 4, 2) := by decide +kernel
theorem dX3_signAt_47 : decode cX3_signAt 47 = .ok (.iload_n 2, 1) := by decide +kernel
theorem dX3_signAt_48 : decode cX3_signAt 48 = .ok (.iload 4, 2) := by decide +kernel
theorem dX3_signAt_50 : decode cX3_signAt 50 = .ok (.if_icmp .ge 19, 3) := by decide +kernel
theorem dX3_signAt_53 : decode cX3_signAt 53 = .ok (.aload_n 0, 1) := by decide +kernel
theorem dX3_signAt_54 : decode cX3_signAt 54 = .ok (.getfield 9, 3) := by decide +kernel
theorem dX3_signAt_57 : decode cX3_signAt 57 = .ok (.iload_n 3, 1) := by decide +kernel
theorem dX3_signAt_58 : decode cX3_signAt 58 = .ok (.iaload, 1) := by decide +kernel
theorem dX3_signAt_59 : decode cX3_signAt 59 = .ok (.iload 4, 2) := by decide +kernel
theorem dX3_signAt_61 : decode cX3_signAt 61 = .ok (.iconst 1, 1) := by decide +kernel
theorem dX3_signAt_62 : decode cX3_signAt 62 = .ok (.isub, 1) := by decide +kernel
theorem dX3_signAt_63 : decode cX3_signAt 63 = .ok (.iload_n 2, 1) := by decide +kernel
theorem dX3_signAt_64 : decode cX3_signAt 64 = .ok (.isub, 1) := by decide +kernel
theorem dX3_signAt_65 : decode cX3_signAt 65 = .ok (.invokestatic 109, 3) := by decide +kernel
theorem dX3_signAt_68 : decode cX3_signAt 68 = .ok (.ireturn, 1) := by decide +kernel
theorem dX3_signAt_69 : decode cX3_signAt 69 = .ok (.iload_n 2, 1) := by decide +kernel
theorem dX3_signAt_70 : decode cX3_signAt 70 = .ok (.iload 4, 2) := by decide +kernel
theorem dX3_signAt_72 : decode cX3_signAt 72 = .ok (.if_icmp .ne 21, 3) := by decide +kernel
theorem dX3_signAt_75 : decode cX3_signAt 75 = .ok (.iload_n 3, 1) := by decide +kernel
theorem dX3_signAt_76 : decode cX3_signAt 76 = .ok (.aload_n 0, 1) := by decide +kernel
theorem dX3_signAt_77 : decode cX3_signAt 77 = .ok (.getfield 19, 3) := by decide +kernel
theorem dX3_signAt_80 : decode cX3_signAt 80 = .ok (.iconst 1, 1) := by decide +kernel
theorem dX3_signAt_81 : decode cX3_signAt 81 = .ok (.isub, 1) := by decide +kernel
theorem dX3_signAt_82 : decode cX3_signAt 82 = .ok (.if_icmp .ge 8, 3) := by decide +kernel
theorem dX3_signAt_85 : decode cX3_signAt 85 = .ok (.bipush 44, 2) := by decide +kernel
theorem dX3_signAt_87 : decode cX3_signAt 87 = .ok (.goto 5, 3) := by decide +kernel
theorem dX3_signAt_90 : decode cX3_signAt 90 = .ok (.bipush (-5), 2) := by decide +kernel
theorem dX3_signAt_92 : decode cX3_signAt 92 = .ok (.ireturn, 1) := by decide +kernel
theorem dX3_signAt_93 : decode cX3_signAt 93 = .ok (.iload_n 2, 1) := by decide +kernel
theorem dX3_signAt_94 : decode cX3_signAt 94 = .ok (.iload 4, 2) := by decide +kernel
theorem dX3_signAt_96 : decode cX3_signAt 96 = .ok (.iconst 1, 1) := by decide +kernel
theorem dX3_signAt_97 : decode cX3_signAt 97 = .ok (.iadd, 1) := by decide +kernel
theorem dX3_signAt_98 : decode cX3_signAt 98 = .ok (.isub, 1) := by decide +kernel
theorem dX3_signAt_99 : decode cX3_signAt 99 = .ok (.istore_n 2, 1) := by decide +kernel
theorem dX3_signAt_100 : decode cX3_signAt 100 = .ok (.iinc 3 1, 3) := by decide +kernel
theorem dX3_signAt_103 : decode cX3_signAt 103 = .ok (.goto (-75), 3) := by decide +kernel
theorem dX3_signAt_106 : decode cX3_signAt 106 = .ok (.bipush (-5), 2) := by decide +kernel
theorem dX3_signAt_108 : decode cX3_signAt 108 = .ok (.ireturn, 1) := by decide +kernel
theorem dX3_digitsIn_0 : decode cX3_digitsIn 0 = .ok (.iconst 1, 1) := by decide +kernel
theorem dX3_digitsIn_1 : decode cX3_digitsIn 1 = .ok (.istore_n 1, 1) := by decide +kernel
theorem dX3_digitsIn_2 : decode cX3_digitsIn 2 = .ok (.iload_n 0, 1) := by decide +kernel
theorem dX3_digitsIn_3 : decode cX3_digitsIn 3 = .ok (.bipush 10, 2) := by decide +kernel
theorem dX3_digitsIn_5 : decode cX3_digitsIn 5 = .ok (.idiv, 1) := by decide +kernel
theorem dX3_digitsIn_6 : decode cX3_digitsIn 6 = .ok (.istore_n 2, 1) := by decide +kernel
theorem dX3_digitsIn_7 : decode cX3_digitsIn 7 = .ok (.iload_n 1, 1) := by decide +kernel
theorem dX3_digitsIn_8 : decode cX3_digitsIn 8 = .ok (.bipush 10, 2) := by decide +kernel
theorem dX3_digitsIn_10 : decode cX3_digitsIn 10 = .ok (.if_icmp .ge 18, 3) := by decide +kernel
theorem dX3_digitsIn_13 : decode cX3_digitsIn 13 = .ok (.iload_n 2, 1) := by decide +kernel
theorem dX3_digitsIn_14 : decode cX3_digitsIn 14 = .ok (.ifCond .le 14, 3) := by decide +kernel
theorem dX3_digitsIn_17 : decode cX3_digitsIn 17 = .ok (.iinc 1 1, 3) := by decide +kernel
theorem dX3_digitsIn_20 : decode cX3_digitsIn 20 = .ok (.iload_n 2, 1) := by decide +kernel
theorem dX3_digitsIn_21 : decode cX3_digitsIn 21 = .ok (.bipush 10, 2) := by decide +kernel
theorem dX3_digitsIn_23 : decode cX3_digitsIn 23 = .ok (.idiv, 1) := by decide +kernel
theorem dX3_digitsIn_24 : decode cX3_digitsIn 24 = .ok (.istore_n 2, 1) := by decide +kernel
theorem dX3_digitsIn_25 : decode cX3_digitsIn 25 = .ok (.goto (-18), 3) := by decide +kernel
theorem dX3_digitsIn_28 : decode cX3_digitsIn 28 = .ok (.iload_n 1, 1) := by decide +kernel
theorem dX3_digitsIn_29 : decode cX3_digitsIn 29 = .ok (.ireturn, 1) := by decide +kernel
theorem dX3_digitAt_0 : decode cX3_digitAt 0 = .ok (.iload_n 0, 1) := by decide +kernel
theorem dX3_digitAt_1 : decode cX3_digitAt 1 = .ok (.istore_n 2, 1) := by decide +kernel
theorem dX3_digitAt_2 : decode cX3_digitAt 2 = .ok (.iconst 0, 1) := by decide +kernel
theorem dX3_digitAt_3 : decode cX3_digitAt 3 = .ok (.istore_n 3, 1) := by decide +kernel
theorem dX3_digitAt_4 : decode cX3_digitAt 4 = .ok (.iload_n 3, 1) := by decide +kernel
theorem dX3_digitAt_5 : decode cX3_digitAt 5 = .ok (.iload_n 1, 1) := by decide +kernel
theorem dX3_digitAt_6 : decode cX3_digitAt 6 = .ok (.if_icmp .ge 14, 3) := by decide +kernel
theorem dX3_digitAt_9 : decode cX3_digitAt 9 = .ok (.iload_n 2, 1) := by decide +kernel
theorem dX3_digitAt_10 : decode cX3_digitAt 10 = .ok (.bipush 10, 2) := by decide +kernel
theorem dX3_digitAt_12 : decode cX3_digitAt 12 = .ok (.idiv, 1) := by decide +kernel
theorem dX3_digitAt_13 : decode cX3_digitAt 13 = .ok (.istore_n 2, 1) := by decide +kernel
theorem dX3_digitAt_14 : decode cX3_digitAt 14 = .ok (.iinc 3 1, 3) := by decide +kernel
theorem dX3_digitAt_17 : decode cX3_digitAt 17 = .ok (.goto (-13), 3) := by decide +kernel
theorem dX3_digitAt_20 : decode cX3_digitAt 20 = .ok (.bipush 48, 2) := by decide +kernel
theorem dX3_digitAt_22 : decode cX3_digitAt 22 = .ok (.iload_n 2, 1) := by decide +kernel
theorem dX3_digitAt_23 : decode cX3_digitAt 23 = .ok (.bipush 10, 2) := by decide +kernel
theorem dX3_digitAt_25 : decode cX3_digitAt 25 = .ok (.irem, 1) := by decide +kernel
theorem dX3_digitAt_26 : decode cX3_digitAt 26 = .ok (.iadd, 1) := by decide +kernel
theorem dX3_digitAt_27 : decode cX3_digitAt 27 = .ok (.ireturn, 1) := by decide +kernel
theorem dX4_init_0 : decode cX4_init 0 = .ok (.aload_n 0, 1) := by decide +kernel
theorem dX4_init_1 : decode cX4_init 1 = .ok (.invokespecial 3, 3) := by decide +kernel
theorem dX4_init_4 : decode cX4_init 4 = .ok (.aload_n 0, 1) := by decide +kernel
theorem dX4_init_5 : decode cX4_init 5 = .ok (.bipush 100, 2) := by decide +kernel
theorem dX4_init_7 : decode cX4_init 7 = .ok (.newarray .byte, 2) := by decide +kernel
theorem dX4_init_9 : decode cX4_init 9 = .ok (.putfield 9, 3) := by decide +kernel
theorem dX4_init_12 : decode cX4_init 12 = .ok (.aload_n 0, 1) := by decide +kernel
theorem dX4_init_13 : decode cX4_init 13 = .ok (.bipush 12, 2) := by decide +kernel
theorem dX4_init_15 : decode cX4_init 15 = .ok (.newarray .int, 2) := by decide +kernel
theorem dX4_init_17 : decode cX4_init 17 = .ok (.putfield 15, 3) := by decide +kernel
theorem dX4_init_20 : decode cX4_init 20 = .ok (.aload_n 0, 1) := by decide +kernel
theorem dX4_init_21 : decode cX4_init 21 = .ok (.bipush 48, 2) := by decide +kernel
theorem dX4_init_23 : decode cX4_init 23 = .ok (.newarray .int, 2) := by decide +kernel
theorem dX4_init_25 : decode cX4_init 25 = .ok (.putfield 19, 3) := by decide +kernel
theorem dX4_init_28 : decode cX4_init 28 = .ok (.return_, 1) := by decide +kernel
theorem dX4_take_0 : decode cX4_take 0 = .ok (.aload_n 0, 1) := by decide +kernel
theorem dX4_take_1 : decode cX4_take 1 = .ok (.getfield 22, 3) := by decide +kernel
theorem dX4_take_4 : decode cX4_take 4 = .ok (.bipush 100, 2) := by decide +kernel
theorem dX4_take_6 : decode cX4_take 6 = .ok (.if_icmp .lt 5, 3) := by decide +kernel
theorem dX4_take_9 : decode cX4_take 9 = .ok (.iconst 0, 1) := by decide +kernel
theorem dX4_take_10 : decode cX4_take 10 = .ok (.ireturn, 1) := by decide +kernel
theorem dX4_take_11 : decode cX4_take 11 = .ok (.aload_n 0, 1) := by decide +kernel
theorem dX4_take_12 : decode cX4_take 12 = .ok (.getfield 9, 3) := by decide +kernel
theorem dX4_take_15 : decode cX4_take 15 = .ok (.aload_n 0, 1) := by decide +kernel
theorem dX4_take_16 : decode cX4_take 16 = .ok (.getfield 22, 3) := by decide +kernel
theorem dX4_take_19 : decode cX4_take 19 = .ok (.iload_n 1, 1) := by decide +kernel
theorem dX4_take_20 : decode cX4_take 20 = .ok (.i2b, 1) := by decide +kernel
theorem dX4_take_21 : decode cX4_take 21 = .ok (.bastore, 1) := by decide +kernel
theorem dX4_take_22 : decode cX4_take 22 = .ok (.aload_n 0, 1) := by decide +kernel
theorem dX4_take_23 : decode cX4_take 23 = .ok (.dup, 1) := by decide +kernel
theorem dX4_take_24 : decode cX4_take 24 = .ok (.getfield 22, 3) := by decide +kernel
theorem dX4_take_27 : decode cX4_take 27 = .ok (.iconst 1, 1) := by decide +kernel
theorem dX4_take_28 : decode cX4_take 28 = .ok (.iadd, 1) := by decide +kernel
theorem dX4_take_29 : decode cX4_take 29 = .ok (.putfield 22, 3) := by decide +kernel
theorem dX4_take_32 : decode cX4_take 32 = .ok (.iconst 1, 1) := by decide +kernel
theorem dX4_take_33 : decode cX4_take 33 = .ok (.ireturn, 1) := by decide +kernel
theorem dX4_wordOf_0 : decode cX4_wordOf 0 = .ok (.iload_n 1, 1) := by decide +kernel
theorem dX4_wordOf_1 : decode cX4_wordOf 1 = .ok (.ifCond .lt 20, 3) := by decide +kernel
theorem dX4_wordOf_4 : decode cX4_wordOf 4 = .ok (.iload_n 1, 1) := by decide +kernel
theorem dX4_wordOf_5 : decode cX4_wordOf 5 = .ok (.aload_n 0, 1) := by decide +kernel
theorem dX4_wordOf_6 : decode cX4_wordOf 6 = .ok (.getfield 26, 3) := by decide +kernel
theorem dX4_wordOf_9 : decode cX4_wordOf 9 = .ok (.if_icmp .ge 12, 3) := by decide +kernel
theorem dX4_wordOf_12 : decode cX4_wordOf 12 = .ok (.aload_n 0, 1) := by decide +kernel
theorem dX4_wordOf_13 : decode cX4_wordOf 13 = .ok (.getfield 15, 3) := by decide +kernel
theorem dX4_wordOf_16 : decode cX4_wordOf 16 = .ok (.iload_n 1, 1) := by decide +kernel
theorem dX4_wordOf_17 : decode cX4_wordOf 17 = .ok (.iaload, 1) := by decide +kernel
theorem dX4_wordOf_18 : decode cX4_wordOf 18 = .ok (.goto 4, 3) := by decide +kernel
theorem dX4_wordOf_21 : decode cX4_wordOf 21 = .ok (.iconst (-1), 1) := by decide +kernel
theorem dX4_wordOf_22 : decode cX4_wordOf 22 = .ok (.ireturn, 1) := by decide +kernel
theorem dX4_valueOf_0 : decode cX4_valueOf 0 = .ok (.iload_n 1, 1) := by decide +kernel
theorem dX4_valueOf_1 : decode cX4_valueOf 1 = .ok (.ifCond .lt 24, 3) := by decide +kernel
theorem dX4_valueOf_4 : decode cX4_valueOf 4 = .ok (.iload_n 1, 1) := by decide +kernel
theorem dX4_valueOf_5 : decode cX4_valueOf 5 = .ok (.aload_n 0, 1) := by decide +kernel
theorem dX4_valueOf_6 : decode cX4_valueOf 6 = .ok (.getfield 26, 3) := by decide +kernel
theorem dX4_valueOf_9 : decode cX4_valueOf 9 = .ok (.if_icmp .ge 16, 3) := by decide +kernel
theorem dX4_valueOf_12 : decode cX4_valueOf 12 = .ok (.iload_n 2, 1) := by decide +kernel
theorem dX4_valueOf_13 : decode cX4_valueOf 13 = .ok (.ifCond .lt 12, 3) := by decide +kernel
theorem dX4_valueOf_16 : decode cX4_valueOf 16 = .ok (.iload_n 2, 1) := by decide +kernel
theorem dX4_valueOf_17 : decode cX4_valueOf 17 = .ok (.iconst 4, 1) := by decide +kernel
theorem dX4_valueOf_18 : decode cX4_valueOf 18 = .ok (.if_icmp .ge 7, 3) := by decide +kernel
theorem dX4_valueOf_21 : decode cX4_valueOf 21 = .ok (.iconst 1, 1) := by decide +kernel
theorem dX4_valueOf_22 : decode cX4_valueOf 22 = .ok (.goto 4, 3) := by decide +kernel
theorem dX4_valueOf_25 : decode cX4_valueOf 25 = .ok (.iconst 0, 1) := by decide +kernel
theorem dX4_valueOf_26 : decode cX4_valueOf 26 = .ok (.istore_n 3, 1) := by decide +kernel
theorem dX4_valueOf_27 : decode cX4_valueOf 27 = .ok (.iload_n 3, 1) := by decide +kernel
theorem dX4_valueOf_28 : decode cX4_valueOf 28 = .ok (.ifCond .eq 16, 3) := by decide +kernel
theorem dX4_valueOf_31 : decode cX4_valueOf 31 = .ok (.aload_n 0, 1) := by decide +kernel
theorem dX4_valueOf_32 : decode cX4_valueOf 32 = .ok (.getfield 19, 3) := by decide +kernel
theorem dX4_valueOf_35 : decode cX4_valueOf 35 = .ok (.iload_n 1, 1) := by decide +kernel
theorem dX4_valueOf_36 : decode cX4_valueOf 36 = .ok (.iconst 4, 1) := by decide +kernel
theorem dX4_valueOf_37 : decode cX4_valueOf 37 = .ok (.imul, 1) := by decide +kernel
theorem dX4_valueOf_38 : decode cX4_valueOf 38 = .ok (.iload_n 2, 1) := by decide +kernel
theorem dX4_valueOf_39 : decode cX4_valueOf 39 = .ok (.iadd, 1) := by decide +kernel
theorem dX4_valueOf_40 : decode cX4_valueOf 40 = .ok (.iaload, 1) := by decide +kernel
theorem dX4_valueOf_41 : decode cX4_valueOf 41 = .ok (.goto 4, 3) := by decide +kernel
theorem dX4_valueOf_44 : decode cX4_valueOf 44 = .ok (.iconst (-1), 1) := by decide +kernel
theorem dX4_valueOf_45 : decode cX4_valueOf 45 = .ok (.ireturn, 1) := by decide +kernel
theorem dX4_parse_0 : decode cX4_parse 0 = .ok (.aload_n 0, 1) := by decide +kernel
theorem dX4_parse_1 : decode cX4_parse 1 = .ok (.iconst 0, 1) := by decide +kernel
theorem dX4_parse_2 : decode cX4_parse 2 = .ok (.putfield 26, 3) := by decide +kernel
theorem dX4_parse_5 : decode cX4_parse 5 = .ok (.aload_n 0, 1) := by decide +kernel
theorem dX4_parse_6 : decode cX4_parse 6 = .ok (.iconst 0, 1) := by decide +kernel
theorem dX4_parse_7 : decode cX4_parse 7 = .ok (.putfield 29, 3) := by decide +kernel
theorem dX4_parse_10 : decode cX4_parse 10 = .ok (.aload_n 0, 1) := by decide +kernel
theorem dX4_parse_11 : decode cX4_parse 11 = .ok (.getfield 26, 3) := by decide +kernel
theorem dX4_parse_14 : decode cX4_parse 14 = .ok (.bipush 12, 2) := by decide +kernel
theorem dX4_parse_16 : decode cX4_parse 16 = .ok (.if_icmp .ge 83, 3) := by decide +kernel
theorem dX4_parse_19 : decode cX4_parse 19 = .ok (.aload_n 0, 1) := by decide +kernel
theorem dX4_parse_20 : decode cX4_parse 20 = .ok (.aload_n 0, 1) := by decide +kernel
theorem dX4_parse_21 : decode cX4_parse 21 = .ok (.getfield 26, 3) := by decide +kernel
theorem dX4_parse_24 : decode cX4_parse 24 = .ok (.invokevirtual 32, 3) := by decide +kernel
theorem dX4_parse_27 : decode cX4_parse 27 = .ok (.ifCond .ne 8, 3) := by decide +kernel
theorem dX4_parse_30 : decode cX4_parse 30 = .ok (.aload_n 0, 1) := by decide +kernel
theorem dX4_parse_31 : decode cX4_parse 31 = .ok (.getfield 29, 3) := by decide +kernel
theorem dX4_parse_34 : decode cX4_parse 34 = .ok (.ireturn, 1) := by decide +kernel
theorem dX4_parse_35 : decode cX4_parse 35 = .ok (.aload_n 0, 1) := by decide +kernel
theorem dX4_parse_36 : decode cX4_parse 36 = .ok (.dup, 1) := by decide +kernel
theorem dX4_parse_37 : decode cX4_parse 37 = .ok (.getfield 26, 3) := by decide +kernel
theorem dX4_parse_40 : decode cX4_parse 40 = .ok (.iconst 1, 1) := by decide +kernel
theorem dX4_parse_41 : decode cX4_parse 41 = .ok (.iadd, 1) := by decide +kernel
theorem dX4_parse_42 : decode cX4_parse 42 = .ok (.putfield 26, 3) := by decide +kernel
theorem dX4_parse_45 : decode cX4_parse 45 = .ok (.aload_n 0, 1) := by decide +kernel
theorem dX4_parse_46 : decode cX4_parse 46 = .ok (.getfield 29, 3) := by decide +kernel
theorem dX4_parse_49 : decode cX4_parse 49 = .ok (.aload_n 0, 1) := by decide +kernel
theorem dX4_parse_50 : decode cX4_parse 50 = .ok (.getfield 22, 3) := by decide +kernel
theorem dX4_parse_53 : decode cX4_parse 53 = .ok (.if_icmp .lt 5, 3) := by decide +kernel
theorem dX4_parse_56 : decode cX4_parse 56 = .ok (.iconst (-1), 1) := by decide +kernel
theorem dX4_parse_57 : decode cX4_parse 57 = .ok (.ireturn, 1) := by decide +kernel
theorem dX4_parse_58 : decode cX4_parse 58 = .ok (.aload_n 0, 1) := by decide +kernel
theorem dX4_parse_59 : decode cX4_parse 59 = .ok (.getfield 9, 3) := by decide +kernel
theorem dX4_parse_62 : decode cX4_parse 62 = .ok (.aload_n 0, 1) := by decide +kernel
theorem dX4_parse_63 : decode cX4_parse 63 = .ok (.getfield 29, 3) := by decide +kernel
theorem dX4_parse_66 : decode cX4_parse 66 = .ok (.baload, 1) := by decide +kernel
theorem dX4_parse_67 : decode cX4_parse 67 = .ok (.bipush 59, 2) := by decide +kernel
theorem dX4_parse_69 : decode cX4_parse 69 = .ok (.if_icmp .ne 12, 3) := by decide +kernel
theorem dX4_parse_72 : decode cX4_parse 72 = .ok (.aload_n 0, 1) := by decide +kernel
theorem dX4_parse_73 : decode cX4_parse 73 = .ok (.getfield 26, 3) := by decide +kernel
theorem dX4_parse_76 : decode cX4_parse 76 = .ok (.bipush 12, 2) := by decide +kernel
theorem dX4_parse_78 : decode cX4_parse 78 = .ok (.if_icmp .ne 8, 3) := by decide +kernel
theorem dX4_parse_81 : decode cX4_parse 81 = .ok (.aload_n 0, 1) := by decide +kernel
theorem dX4_parse_82 : decode cX4_parse 82 = .ok (.getfield 29, 3) := by decide +kernel
theorem dX4_parse_85 : decode cX4_parse 85 = .ok (.ireturn, 1) := by decide +kernel
theorem dX4_parse_86 : decode cX4_parse 86 = .ok (.aload_n 0, 1) := by decide +kernel
theorem dX4_parse_87 : decode cX4_parse 87 = .ok (.dup, 1) := by decide +kernel
theorem dX4_parse_88 : decode cX4_parse 88 = .ok (.getfield 29, 3) := by decide +kernel
theorem dX4_parse_91 : decode cX4_parse 91 = .ok (.iconst 1, 1) := by decide +kernel
theorem dX4_parse_92 : decode cX4_parse 92 = .ok (.iadd, 1) := by decide +kernel
theorem dX4_parse_93 : decode cX4_parse 93 = .ok (.putfield 29, 3) := by decide +kernel
theorem dX4_parse_96 : decode cX4_parse 96 = .ok (.goto (-86), 3) := by decide +kernel
theorem dX4_parse_99 : decode cX4_parse 99 = .ok (.aload_n 0, 1) := by decide +kernel
theorem dX4_parse_100 : decode cX4_parse 100 = .ok (.getfield 29, 3) := by decide +kernel
theorem dX4_parse_103 : decode cX4_parse 103 = .ok (.ireturn, 1) := by decide +kernel
theorem dX4_parseClause_0 : decode cX4_parseClause 0 = .ok (.aload_n 0, 1) := by decide +kernel
theorem dX4_parseClause_1 : decode cX4_parseClause 1 = .ok (.invokevirtual 36, 3) := by decide +kernel
theorem dX4_parseClause_4 : decode cX4_parseClause 4 = .ok (.istore_n 2, 1) := by decide +kernel
theorem dX4_parseClause_5 : decode cX4_parseClause 5 = .ok (.iload_n 2, 1) := by decide +kernel
theorem dX4_parseClause_6 : decode cX4_parseClause 6 = .ok (.iconst (-1), 1) := by decide +kernel
theorem dX4_parseClause_7 : decode cX4_parseClause 7 = .ok (.if_icmp .ne 5, 3) := by decide +kernel
theorem dX4_parseClause_10 : decode cX4_parseClause 10 = .ok (.iconst 0, 1) := by decide +kernel
theorem dX4_parseClause_11 : decode cX4_parseClause 11 = .ok (.ireturn, 1) := by decide +kernel
theorem dX4_parseClause_12 : decode cX4_parseClause 12 = .ok (.aload_n 0, 1) := by decide +kernel
theorem dX4_parseClause_13 : decode cX4_parseClause 13 = .ok (.getfield 15, 3) := by decide +kernel
theorem dX4_parseClause_16 : decode cX4_parseClause 16 = .ok (.iload_n 1, 1) := by decide +kernel
theorem dX4_parseClause_17 : decode cX4_parseClause 17 = .ok (.iload_n 2, 1) := by decide +kernel
theorem dX4_parseClause_18 : decode cX4_parseClause 18 = .ok (.iastore, 1) := by decide +kernel
theorem dX4_parseClause_19 : decode cX4_parseClause 19 = .ok (.iconst 0, 1) := by decide +kernel
theorem dX4_parseClause_20 : decode cX4_parseClause 20 = .ok (.istore_n 3, 1) := by decide +kernel
theorem dX4_parseClause_21 : decode cX4_parseClause 21 = .ok (.iload_n 3, 1) := by decide +kernel
theorem dX4_parseClause_22 : decode cX4_parseClause 22 = .ok (.iload_n 2, 1) := by decide +kernel
theorem dX4_parseClause_23 : decode cX4_parseClause 23 = .ok (.invokestatic 40, 3) := by decide +kernel
theorem dX4_parseClause_26 : decode cX4_parseClause 26 = .ok (.if_icmp .ge 35, 3) := by decide +kernel
theorem dX4_parseClause_29 : decode cX4_parseClause 29 = .ok (.aload_n 0, 1) := by decide +kernel
theorem dX4_parseClause_30 : decode cX4_parseClause 30 = .ok (.invokevirtual 44, 3) := by decide +kernel
theorem dX4_parseClause_33 : decode cX4_parseClause 33 = .ok (.istore 4, 2) := by decide +kernel
theorem dX4_parseClause_35 : decode cX4_parseClause 35 = .ok (.iload 4, 2) := by decide +kernel
theorem dX4_parseClause_37 : decode cX4_parseClause 37 = .ok (.iconst (-1), 1) := by decide +kernel
theorem dX4_parseClause_38 : decode cX4_parseClause 38 = .ok (.if_icmp .ne 5, 3) := by decide +kernel
theorem dX4_parseClause_41 : decode cX4_parseClause 41 = .ok (.iconst 0, 1) := by decide +kernel
theorem dX4_parseClause_42 : decode cX4_parseClause 42 = .ok (.ireturn, 1) := by decide +kernel
theorem dX4_parseClause_43 : decode cX4_parseClause 43 = .ok (.aload_n 0, 1) := by decide +kernel
theorem dX4_parseClause_44 : decode cX4_parseClause 44 = .ok (.getfield 19, 3) := by decide +kernel
theorem dX4_parseClause_47 : decode cX4_parseClause 47 = .ok (.iload_n 1, 1) := by decide +kernel
theorem dX4_parseClause_48 : decode cX4_parseClause 48 = .ok (.iconst 4, 1) := by decide +kernel
theorem dX4_parseClause_49 : decode cX4_parseClause 49 = .ok (.imul, 1) := by decide +kernel
theorem dX4_parseClause_50 : decode cX4_parseClause 50 = .ok (.iload_n 3, 1) := by decide +kernel
theorem dX4_parseClause_51 : decode cX4_parseClause 51 = .ok (.iadd, 1) := by decide +kernel
theorem dX4_parseClause_52 : decode cX4_parseClause 52 = .ok (.iload 4, 2) := by decide +kernel
theorem dX4_parseClause_54 : decode cX4_parseClause 54 = .ok (.iastore, 1) := by decide +kernel
theorem dX4_parseClause_55 : decode cX4_parseClause 55 = .ok (.iinc 3 1, 3) := by decide +kernel
theorem dX4_parseClause_58 : decode cX4_parseClause 58 = .ok (.goto (-37), 3) := by decide +kernel
theorem dX4_parseClause_61 : decode cX4_parseClause 61 = .ok (.iconst 1, 1) := by decide +kernel
