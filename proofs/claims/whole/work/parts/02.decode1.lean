theorem dX0_coversMeant_62 : decode cX0_coversMeant 62 = .ok (.invokestatic 90, 3) := by decide +kernel
theorem dX0_coversMeant_65 : decode cX0_coversMeant 65 = .ok (.land, 1) := by decide +kernel
theorem dX0_coversMeant_66 : decode cX0_coversMeant 66 = .ok (.lconst 0, 1) := by decide +kernel
theorem dX0_coversMeant_67 : decode cX0_coversMeant 67 = .ok (.lcmp, 1) := by decide +kernel
theorem dX0_coversMeant_68 : decode cX0_coversMeant 68 = .ok (.ifCond .ne 7, 3) := by decide +kernel
theorem dX0_coversMeant_71 : decode cX0_coversMeant 71 = .ok (.iconst 1, 1) := by decide +kernel
theorem dX0_coversMeant_72 : decode cX0_coversMeant 72 = .ok (.goto 4, 3) := by decide +kernel
theorem dX0_coversMeant_75 : decode cX0_coversMeant 75 = .ok (.iconst 0, 1) := by decide +kernel
theorem dX0_coversMeant_76 : decode cX0_coversMeant 76 = .ok (.ireturn, 1) := by decide +kernel
theorem dX0_countAhead_0 : decode cX0_countAhead 0 = .ok (.iconst 0, 1) := by decide +kernel
theorem dX0_countAhead_1 : decode cX0_countAhead 1 = .ok (.istore_n 2, 1) := by decide +kernel
theorem dX0_countAhead_2 : decode cX0_countAhead 2 = .ok (.iload_n 2, 1) := by decide +kernel
theorem dX0_countAhead_3 : decode cX0_countAhead 3 = .ok (.aload_n 0, 1) := by decide +kernel
theorem dX0_countAhead_4 : decode cX0_countAhead 4 = .ok (.getfield 26, 3) := by decide +kernel
theorem dX0_countAhead_7 : decode cX0_countAhead 7 = .ok (.if_icmp .ge 20, 3) := by decide +kernel
theorem dX0_countAhead_10 : decode cX0_countAhead 10 = .ok (.aload_n 0, 1) := by decide +kernel
theorem dX0_countAhead_11 : decode cX0_countAhead 11 = .ok (.iload_n 2, 1) := by decide +kernel
theorem dX0_countAhead_12 : decode cX0_countAhead 12 = .ok (.iload_n 1, 1) := by decide +kernel
theorem dX0_countAhead_13 : decode cX0_countAhead 13 = .ok (.invokevirtual 96, 3) := by decide +kernel
theorem dX0_countAhead_16 : decode cX0_countAhead 16 = .ok (.ifCond .ne 5, 3) := by decide +kernel
theorem dX0_countAhead_19 : decode cX0_countAhead 19 = .ok (.iload_n 2, 1) := by decide +kernel
theorem dX0_countAhead_20 : decode cX0_countAhead 20 = .ok (.ireturn, 1) := by decide +kernel
theorem dX0_countAhead_21 : decode cX0_countAhead 21 = .ok (.iinc 2 1, 3) := by decide +kernel
theorem dX0_countAhead_24 : decode cX0_countAhead 24 = .ok (.goto (-22), 3) := by decide +kernel
theorem dX0_countAhead_27 : decode cX0_countAhead 27 = .ok (.aload_n 0, 1) := by decide +kernel
theorem dX0_countAhead_28 : decode cX0_countAhead 28 = .ok (.getfield 26, 3) := by decide +kernel
theorem dX0_countAhead_31 : decode cX0_countAhead 31 = .ok (.ireturn, 1) := by decide +kernel
theorem dX0_standsAhead_0 : decode cX0_standsAhead 0 = .ok (.aload_n 0, 1) := by decide +kernel
theorem dX0_standsAhead_1 : decode cX0_standsAhead 1 = .ok (.getfield 9, 3) := by decide +kernel
theorem dX0_standsAhead_4 : decode cX0_standsAhead 4 = .ok (.iload_n 1, 1) := by decide +kernel
theorem dX0_standsAhead_5 : decode cX0_standsAhead 5 = .ok (.iaload, 1) := by decide +kernel
theorem dX0_standsAhead_6 : decode cX0_standsAhead 6 = .ok (.aload_n 0, 1) := by decide +kernel
theorem dX0_standsAhead_7 : decode cX0_standsAhead 7 = .ok (.getfield 30, 3) := by decide +kernel
theorem dX0_standsAhead_10 : decode cX0_standsAhead 10 = .ok (.if_icmp .eq 22, 3) := by decide +kernel
theorem dX0_standsAhead_13 : decode cX0_standsAhead 13 = .ok (.aload_n 0, 1) := by decide +kernel
theorem dX0_standsAhead_14 : decode cX0_standsAhead 14 = .ok (.getfield 9, 3) := by decide +kernel
theorem dX0_standsAhead_17 : decode cX0_standsAhead 17 = .ok (.iload_n 1, 1) := by decide +kernel
theorem dX0_standsAhead_18 : decode cX0_standsAhead 18 = .ok (.iaload, 1) := by decide +kernel
theorem dX0_standsAhead_19 : decode cX0_standsAhead 19 = .ok (.aload_n 0, 1) := by decide +kernel
theorem dX0_standsAhead_20 : decode cX0_standsAhead 20 = .ok (.getfield 30, 3) := by decide +kernel
theorem dX0_standsAhead_23 : decode cX0_standsAhead 23 = .ok (.if_icmp .ge 7, 3) := by decide +kernel
theorem dX0_standsAhead_26 : decode cX0_standsAhead 26 = .ok (.iconst 1, 1) := by decide +kernel
theorem dX0_standsAhead_27 : decode cX0_standsAhead 27 = .ok (.goto 4, 3) := by decide +kernel
theorem dX0_standsAhead_30 : decode cX0_standsAhead 30 = .ok (.iconst 0, 1) := by decide +kernel
theorem dX0_standsAhead_31 : decode cX0_standsAhead 31 = .ok (.ireturn, 1) := by decide +kernel
theorem dX0_standsAhead_32 : decode cX0_standsAhead 32 = .ok (.aload_n 0, 1) := by decide +kernel
theorem dX0_standsAhead_33 : decode cX0_standsAhead 33 = .ok (.getfield 13, 3) := by decide +kernel
theorem dX0_standsAhead_36 : decode cX0_standsAhead 36 = .ok (.iload_n 1, 1) := by decide +kernel
theorem dX0_standsAhead_37 : decode cX0_standsAhead 37 = .ok (.laload, 1) := by decide +kernel
theorem dX0_standsAhead_38 : decode cX0_standsAhead 38 = .ok (.aload_n 0, 1) := by decide +kernel
theorem dX0_standsAhead_39 : decode cX0_standsAhead 39 = .ok (.getfield 33, 3) := by decide +kernel
theorem dX0_standsAhead_42 : decode cX0_standsAhead 42 = .ok (.lcmp, 1) := by decide +kernel
theorem dX0_standsAhead_43 : decode cX0_standsAhead 43 = .ok (.ifCond .eq 17, 3) := by decide +kernel
theorem dX0_standsAhead_46 : decode cX0_standsAhead 46 = .ok (.aload_n 0, 1) := by decide +kernel
theorem dX0_standsAhead_47 : decode cX0_standsAhead 47 = .ok (.getfield 13, 3) := by decide +kernel
theorem dX0_standsAhead_50 : decode cX0_standsAhead 50 = .ok (.iload_n 1, 1) := by decide +kernel
theorem dX0_standsAhead_51 : decode cX0_standsAhead 51 = .ok (.laload, 1) := by decide +kernel
theorem dX0_standsAhead_52 : decode cX0_standsAhead 52 = .ok (.aload_n 0, 1) := by decide +kernel
theorem dX0_standsAhead_53 : decode cX0_standsAhead 53 = .ok (.getfield 33, 3) := by decide +kernel
theorem dX0_standsAhead_56 : decode cX0_standsAhead 56 = .ok (.invokestatic 99, 3) := by decide +kernel
theorem dX0_standsAhead_59 : decode cX0_standsAhead 59 = .ok (.ireturn, 1) := by decide +kernel
theorem dX0_standsAhead_60 : decode cX0_standsAhead 60 = .ok (.aload_n 0, 1) := by decide +kernel
theorem dX0_standsAhead_61 : decode cX0_standsAhead 61 = .ok (.getfield 17, 3) := by decide +kernel
theorem dX0_standsAhead_64 : decode cX0_standsAhead 64 = .ok (.iload_n 1, 1) := by decide +kernel
theorem dX0_standsAhead_65 : decode cX0_standsAhead 65 = .ok (.laload, 1) := by decide +kernel
theorem dX0_standsAhead_66 : decode cX0_standsAhead 66 = .ok (.aload_n 0, 1) := by decide +kernel
theorem dX0_standsAhead_67 : decode cX0_standsAhead 67 = .ok (.getfield 37, 3) := by decide +kernel
theorem dX0_standsAhead_70 : decode cX0_standsAhead 70 = .ok (.lcmp, 1) := by decide +kernel
theorem dX0_standsAhead_71 : decode cX0_standsAhead 71 = .ok (.ifCond .eq 17, 3) := by decide +kernel
theorem dX0_standsAhead_74 : decode cX0_standsAhead 74 = .ok (.aload_n 0, 1) := by decide +kernel
theorem dX0_standsAhead_75 : decode cX0_standsAhead 75 = .ok (.getfield 17, 3) := by decide +kernel
theorem dX0_standsAhead_78 : decode cX0_standsAhead 78 = .ok (.iload_n 1, 1) := by decide +kernel
theorem dX0_standsAhead_79 : decode cX0_standsAhead 79 = .ok (.laload, 1) := by decide +kernel
theorem dX0_standsAhead_80 : decode cX0_standsAhead 80 = .ok (.aload_n 0, 1) := by decide +kernel
theorem dX0_standsAhead_81 : decode cX0_standsAhead 81 = .ok (.getfield 37, 3) := by decide +kernel
theorem dX0_standsAhead_84 : decode cX0_standsAhead 84 = .ok (.invokestatic 99, 3) := by decide +kernel
theorem dX0_standsAhead_87 : decode cX0_standsAhead 87 = .ok (.ireturn, 1) := by decide +kernel
theorem dX0_standsAhead_88 : decode cX0_standsAhead 88 = .ok (.aload_n 0, 1) := by decide +kernel
theorem dX0_standsAhead_89 : decode cX0_standsAhead 89 = .ok (.getfield 20, 3) := by decide +kernel
theorem dX0_standsAhead_92 : decode cX0_standsAhead 92 = .ok (.iload_n 1, 1) := by decide +kernel
theorem dX0_standsAhead_93 : decode cX0_standsAhead 93 = .ok (.iaload, 1) := by decide +kernel
theorem dX0_standsAhead_94 : decode cX0_standsAhead 94 = .ok (.iload_n 2, 1) := by decide +kernel
theorem dX0_standsAhead_95 : decode cX0_standsAhead 95 = .ok (.if_icmp .ge 7, 3) := by decide +kernel
theorem dX0_standsAhead_98 : decode cX0_standsAhead 98 = .ok (.iconst 1, 1) := by decide +kernel
theorem dX0_standsAhead_99 : decode cX0_standsAhead 99 = .ok (.goto 4, 3) := by decide +kernel
theorem dX0_standsAhead_102 : decode cX0_standsAhead 102 = .ok (.iconst 0, 1) := by decide +kernel
theorem dX0_standsAhead_103 : decode cX0_standsAhead 103 = .ok (.ireturn, 1) := by decide +kernel
theorem dX0_isBelow_0 : decode cX0_isBelow 0 = .ok (.lload_n 0, 1) := by decide +kernel
theorem dX0_isBelow_1 : decode cX0_isBelow 1 = .ok (.ldc2_w 103, 3) := by decide +kernel
theorem dX0_isBelow_4 : decode cX0_isBelow 4 = .ok (.lxor, 1) := by decide +kernel
theorem dX0_isBelow_5 : decode cX0_isBelow 5 = .ok (.lload_n 2, 1) := by decide +kernel
theorem dX0_isBelow_6 : decode cX0_isBelow 6 = .ok (.ldc2_w 103, 3) := by decide +kernel
theorem dX0_isBelow_9 : decode cX0_isBelow 9 = .ok (.lxor, 1) := by decide +kernel
theorem dX0_isBelow_10 : decode cX0_isBelow 10 = .ok (.lcmp, 1) := by decide +kernel
theorem dX0_isBelow_11 : decode cX0_isBelow 11 = .ok (.ifCond .ge 7, 3) := by decide +kernel
theorem dX0_isBelow_14 : decode cX0_isBelow 14 = .ok (.iconst 1, 1) := by decide +kernel
theorem dX0_isBelow_15 : decode cX0_isBelow 15 = .ok (.goto 4, 3) := by decide +kernel
theorem dX0_isBelow_18 : decode cX0_isBelow 18 = .ok (.iconst 0, 1) := by decide +kernel
theorem dX0_isBelow_19 : decode cX0_isBelow 19 = .ok (.ireturn, 1) := by decide +kernel
theorem dX0_standsAt_0 : decode cX0_standsAt 0 = .ok (.iload_n 1, 1) := by decide +kernel
theorem dX0_standsAt_1 : decode cX0_standsAt 1 = .ok (.ifCond .lt 66, 3) := by decide +kernel
theorem dX0_standsAt_4 : decode cX0_standsAt 4 = .ok (.iload_n 1, 1) := by decide +kernel
theorem dX0_standsAt_5 : decode cX0_standsAt 5 = .ok (.aload_n 0, 1) := by decide +kernel
theorem dX0_standsAt_6 : decode cX0_standsAt 6 = .ok (.getfield 26, 3) := by decide +kernel
theorem dX0_standsAt_9 : decode cX0_standsAt 9 = .ok (.if_icmp .ge 58, 3) := by decide +kernel
theorem dX0_standsAt_12 : decode cX0_standsAt 12 = .ok (.aload_n 0, 1) := by decide +kernel
theorem dX0_standsAt_13 : decode cX0_standsAt 13 = .ok (.getfield 9, 3) := by decide +kernel
theorem dX0_standsAt_16 : decode cX0_standsAt 16 = .ok (.iload_n 1, 1) := by decide +kernel
theorem dX0_standsAt_17 : decode cX0_standsAt 17 = .ok (.iaload, 1) := by decide +kernel
theorem dX0_standsAt_18 : decode cX0_standsAt 18 = .ok (.aload_n 0, 1) := by decide +kernel
theorem dX0_standsAt_19 : decode cX0_standsAt 19 = .ok (.getfield 30, 3) := by decide +kernel
theorem dX0_standsAt_22 : decode cX0_standsAt 22 = .ok (.if_icmp .ne 45, 3) := by decide +kernel
theorem dX0_standsAt_25 : decode cX0_standsAt 25 = .ok (.aload_n 0, 1) := by decide +kernel
theorem dX0_standsAt_26 : decode cX0_standsAt 26 = .ok (.getfield 13, 3) := by decide +kernel
theorem dX0_standsAt_29 : decode cX0_standsAt 29 = .ok (.iload_n 1, 1) := by decide +kernel
theorem dX0_standsAt_30 : decode cX0_standsAt 30 = .ok (.laload, 1) := by decide +kernel
theorem dX0_standsAt_31 : decode cX0_standsAt 31 = .ok (.aload_n 0, 1) := by decide +kernel
theorem dX0_standsAt_32 : decode cX0_standsAt 32 = .ok (.getfield 33, 3) := by decide +kernel
theorem dX0_standsAt_35 : decode cX0_standsAt 35 = .ok (.lcmp, 1) := by decide +kernel
theorem dX0_standsAt_36 : decode cX0_standsAt 36 = .ok (.ifCond .ne 31, 3) := by decide +kernel
theorem dX0_standsAt_39 : decode cX0_standsAt 39 = .ok (.aload_n 0, 1) := by decide +kernel
theorem dX0_standsAt_40 : decode cX0_standsAt 40 = .ok (.getfield 17, 3) := by decide +kernel
theorem dX0_standsAt_43 : decode cX0_standsAt 43 = .ok (.iload_n 1, 1) := by decide +kernel
theorem dX0_standsAt_44 : decode cX0_standsAt 44 = .ok (.laload, 1) := by decide +kernel
theorem dX0_standsAt_45 : decode cX0_standsAt 45 = .ok (.aload_n 0, 1) := by decide +kernel
theorem dX0_standsAt_46 : decode cX0_standsAt 46 = .ok (.getfield 37, 3) := by decide +kernel
theorem dX0_standsAt_49 : decode cX0_standsAt 49 = .ok (.lcmp, 1) := by decide +kernel
theorem dX0_standsAt_50 : decode cX0_standsAt 50 = .ok (.ifCond .ne 17, 3) := by decide +kernel
theorem dX0_standsAt_53 : decode cX0_standsAt 53 = .ok (.aload_n 0, 1) := by decide +kernel
theorem dX0_standsAt_54 : decode cX0_standsAt 54 = .ok (.getfield 20, 3) := by decide +kernel
theorem dX0_standsAt_57 : decode cX0_standsAt 57 = .ok (.iload_n 1, 1) := by decide +kernel
theorem dX0_standsAt_58 : decode cX0_standsAt 58 = .ok (.iaload, 1) := by decide +kernel
theorem dX0_standsAt_59 : decode cX0_standsAt 59 = .ok (.iload_n 2, 1) := by decide +kernel
theorem dX0_standsAt_60 : decode cX0_standsAt 60 = .ok (.if_icmp .ne 7, 3) := by decide +kernel
theorem dX0_standsAt_63 : decode cX0_standsAt 63 = .ok (.iconst 1, 1) := by decide +kernel
theorem dX0_standsAt_64 : decode cX0_standsAt 64 = .ok (.goto 4, 3) := by decide +kernel
theorem dX0_standsAt_67 : decode cX0_standsAt 67 = .ok (.iconst 0, 1) := by decide +kernel
theorem dX0_standsAt_68 : decode cX0_standsAt 68 = .ok (.ireturn, 1) := by decide +kernel
theorem dX0_openPlace_0 : decode cX0_openPlace 0 = .ok (.aload_n 0, 1) := by decide +kernel
theorem dX0_openPlace_1 : decode cX0_openPlace 1 = .ok (.getfield 26, 3) := by decide +kernel
theorem dX0_openPlace_4 : decode cX0_openPlace 4 = .ok (.istore_n 2, 1) := by decide +kernel
theorem dX0_openPlace_5 : decode cX0_openPlace 5 = .ok (.iload_n 2, 1) := by decide +kernel
theorem dX0_openPlace_6 : decode cX0_openPlace 6 = .ok (.iload_n 1, 1) := by decide +kernel
theorem dX0_openPlace_7 : decode cX0_openPlace 7 = .ok (.if_icmp .le 17, 3) := by decide +kernel
theorem dX0_openPlace_10 : decode cX0_openPlace 10 = .ok (.aload_n 0, 1) := by decide +kernel
theorem dX0_openPlace_11 : decode cX0_openPlace 11 = .ok (.iload_n 2, 1) := by decide +kernel
theorem dX0_openPlace_12 : decode cX0_openPlace 12 = .ok (.iconst 1, 1) := by decide +kernel
theorem dX0_openPlace_13 : decode cX0_openPlace 13 = .ok (.isub, 1) := by decide +kernel
theorem dX0_openPlace_14 : decode cX0_openPlace 14 = .ok (.iload_n 2, 1) := by decide +kernel
theorem dX0_openPlace_15 : decode cX0_openPlace 15 = .ok (.invokevirtual 105, 3) := by decide +kernel
theorem dX0_openPlace_18 : decode cX0_openPlace 18 = .ok (.iinc 2 (-1), 3) := by decide +kernel
theorem dX0_openPlace_21 : decode cX0_openPlace 21 = .ok (.goto (-16), 3) := by decide +kernel
theorem dX0_openPlace_24 : decode cX0_openPlace 24 = .ok (.aload_n 0, 1) := by decide +kernel
theorem dX0_openPlace_25 : decode cX0_openPlace 25 = .ok (.dup, 1) := by decide +kernel
theorem dX0_openPlace_26 : decode cX0_openPlace 26 = .ok (.getfield 26, 3) := by decide +kernel
theorem dX0_openPlace_29 : decode cX0_openPlace 29 = .ok (.iconst 1, 1) := by decide +kernel
theorem dX0_openPlace_30 : decode cX0_openPlace 30 = .ok (.iadd, 1) := by decide +kernel
theorem dX0_openPlace_31 : decode cX0_openPlace 31 = .ok (.putfield 26, 3) := by decide +kernel
theorem dX0_openPlace_34 : decode cX0_openPlace 34 = .ok (.return_, 1) := by decide +kernel
theorem dX0_closePlace_0 : decode cX0_closePlace 0 = .ok (.aload_n 0, 1) := by decide +kernel
theorem dX0_closePlace_1 : decode cX0_closePlace 1 = .ok (.dup, 1) := by decide +kernel
theorem dX0_closePlace_2 : decode cX0_closePlace 2 = .ok (.getfield 26, 3) := by decide +kernel
theorem dX0_closePlace_5 : decode cX0_closePlace 5 = .ok (.iconst 1, 1) := by decide +kernel
theorem dX0_closePlace_6 : decode cX0_closePlace 6 = .ok (.isub, 1) := by decide +kernel
theorem dX0_closePlace_7 : decode cX0_closePlace 7 = .ok (.putfield 26, 3) := by decide +kernel
theorem dX0_closePlace_10 : decode cX0_closePlace 10 = .ok (.iload_n 1, 1) := by decide +kernel
theorem dX0_closePlace_11 : decode cX0_closePlace 11 = .ok (.istore_n 2, 1) := by decide +kernel
theorem dX0_closePlace_12 : decode cX0_closePlace 12 = .ok (.iload_n 2, 1) := by decide +kernel
theorem dX0_closePlace_13 : decode cX0_closePlace 13 = .ok (.aload_n 0, 1) := by decide +kernel
theorem dX0_closePlace_14 : decode cX0_closePlace 14 = .ok (.getfield 26, 3) := by decide +kernel
theorem dX0_closePlace_17 : decode cX0_closePlace 17 = .ok (.if_icmp .ge 17, 3) := by decide +kernel
theorem dX0_closePlace_20 : decode cX0_closePlace 20 = .ok (.aload_n 0, 1) := by decide +kernel
theorem dX0_closePlace_21 : decode cX0_closePlace 21 = .ok (.iload_n 2, 1) := by decide +kernel
theorem dX0_closePlace_22 : decode cX0_closePlace 22 = .ok (.iconst 1, 1) := by decide +kernel
theorem dX0_closePlace_23 : decode cX0_closePlace 23 = .ok (.iadd, 1) := by decide +kernel
theorem dX0_closePlace_24 : decode cX0_closePlace 24 = .ok (.iload_n 2, 1) := by decide +kernel
theorem dX0_closePlace_25 : decode cX0_closePlace 25 = .ok (.invokevirtual 105, 3) := by decide +kernel
theorem dX0_closePlace_28 : decode cX0_closePlace 28 = .ok (.iinc 2 1, 3) := by decide +kernel
theorem dX0_closePlace_31 : decode cX0_closePlace 31 = .ok (.goto (-19), 3) := by decide +kernel
theorem dX0_closePlace_34 : decode cX0_closePlace 34 = .ok (.return_, 1) := by decide +kernel
theorem dX0_copyPlace_0 : decode cX0_copyPlace 0 = .ok (.aload_n 0, 1) := by decide +kernel
theorem dX0_copyPlace_1 : decode cX0_copyPlace 1 = .ok (.getfield 9, 3) := by decide +kernel
theorem dX0_copyPlace_4 : decode cX0_copyPlace 4 = .ok (.iload_n 2, 1) := by decide +kernel
theorem dX0_copyPlace_5 : decode cX0_copyPlace 5 = .ok (.aload_n 0, 1) := by decide +kernel
theorem dX0_copyPlace_6 : decode cX0_copyPlace 6 = .ok (.getfield 9, 3) := by decide +kernel
theorem dX0_copyPlace_9 : decode cX0_copyPlace 9 = .ok (.iload_n 1, 1) := by decide +kernel
theorem dX0_copyPlace_10 : decode cX0_copyPlace 10 = .ok (.iaload, 1) := by decide +kernel
theorem dX0_copyPlace_11 : decode cX0_copyPlace 11 = .ok (.iastore, 1) := by decide +kernel
theorem dX0_copyPlace_12 : decode cX0_copyPlace 12 = .ok (.aload_n 0, 1) := by decide +kernel
theorem dX0_copyPlace_13 : decode cX0_copyPlace 13 = .ok (.getfield 13, 3) := by decide +kernel
theorem dX0_copyPlace_16 : decode cX0_copyPlace 16 = .ok (.iload_n 2, 1) := by decide +kernel
theorem dX0_copyPlace_17 : decode cX0_copyPlace 17 = .ok (.aload_n 0, 1) := by decide +kernel
theorem dX0_copyPlace_18 : decode cX0_copyPlace 18 = .ok (.getfield 13, 3) := by decide +kernel
theorem dX0_copyPlace_21 : decode cX0_copyPlace 21 = .ok (.iload_n 1, 1) := by decide +kernel
theorem dX0_copyPlace_22 : decode cX0_copyPlace 22 = .ok (.laload, 1) := by decide +kernel
theorem dX0_copyPlace_23 : decode cX0_copyPlace 23 = .ok (.lastore, 1) := by decide +kernel
theorem dX0_copyPlace_24 : decode cX0_copyPlace 24 = .ok (.aload_n 0, 1) := by decide +kernel
theorem dX0_copyPlace_25 : decode cX0_copyPlace 25 = .ok (.getfield 17, 3) := by decide +kernel
theorem dX0_copyPlace_28 : decode cX0_copyPlace 28 = .ok (.iload_n 2, 1) := by decide +kernel
theorem dX0_copyPlace_29 : decode cX0_copyPlace 29 = .ok (.aload_n 0, 1) := by decide +kernel
theorem dX0_copyPlace_30 : decode cX0_copyPlace 30 = .ok (.getfield 17, 3) := by decide +kernel
theorem dX0_copyPlace_33 : decode cX0_copyPlace 33 = .ok (.iload_n 1, 1) := by decide +kernel
theorem dX0_copyPlace_34 : decode cX0_copyPlace 34 = .ok (.laload, 1) := by decide +kernel
theorem dX0_copyPlace_35 : decode cX0_copyPlace 35 = .ok (.lastore, 1) := by decide +kernel
theorem dX0_copyPlace_36 : decode cX0_copyPlace 36 = .ok (.aload_n 0, 1) := by decide +kernel
theorem dX0_copyPlace_37 : decode cX0_copyPlace 37 = .ok (.getfield 20, 3) := by decide +kernel
theorem dX0_copyPlace_40 : decode cX0_copyPlace 40 = .ok (.iload_n 2, 1) := by decide +kernel
theorem dX0_copyPlace_41 : decode cX0_copyPlace 41 = .ok (.aload_n 0, 1) := by decide +kernel
theorem dX0_copyPlace_42 : decode cX0_copyPlace 42 = .ok (.getfield 20, 3) := by decide +kernel
theorem dX0_copyPlace_45 : decode cX0_copyPlace 45 = .ok (.iload_n 1, 1) := by decide +kernel
theorem dX0_copyPlace_46 : decode cX0_copyPlace 46 = .ok (.iaload, 1) := by decide +kernel
theorem dX0_copyPlace_47 : decode cX0_copyPlace 47 = .ok (.iastore, 1) := by decide +kernel
theorem dX0_copyPlace_48 : decode cX0_copyPlace 48 = .ok (.aload_n 0, 1) := by decide +kernel
theorem dX0_copyPlace_49 : decode cX0_copyPlace 49 = .ok (.getfield 23, 3) := by decide +kernel
theorem dX0_copyPlace_52 : decode cX0_copyPlace 52 = .ok (.iload_n 2, 1) := by decide +kernel
theorem dX0_copyPlace_53 : decode cX0_copyPlace 53 = .ok (.aload_n 0, 1) := by decide +kernel
theorem dX0_copyPlace_54 : decode cX0_copyPlace 54 = .ok (.getfield 23, 3) := by decide +kernel
theorem dX0_copyPlace_57 : decode cX0_copyPlace 57 = .ok (.iload_n 1, 1) := by decide +kernel
theorem dX0_copyPlace_58 : decode cX0_copyPlace 58 = .ok (.iaload, 1) := by decide +kernel
theorem dX0_copyPlace_59 : decode cX0_copyPlace 59 = .ok (.iastore, 1) := by decide +kernel
theorem dX0_copyPlace_60 : decode cX0_copyPlace 60 = .ok (.return_, 1) := by decide +kernel
theorem dX0_write_0 : decode cX0_write 0 = .ok (.aload_n 0, 1) := by decide +kernel
theorem dX0_write_1 : decode cX0_write 1 = .ok (.getfield 9, 3) := by decide +kernel
theorem dX0_write_4 : decode cX0_write 4 = .ok (.iload_n 1, 1) := by decide +kernel
theorem dX0_write_5 : decode cX0_write 5 = .ok (.aload_n 0, 1) := by decide +kernel
theorem dX0_write_6 : decode cX0_write 6 = .ok (.getfield 30, 3) := by decide +kernel
theorem dX0_write_9 : decode cX0_write 9 = .ok (.iastore, 1) := by decide +kernel
theorem dX0_write_10 : decode cX0_write 10 = .ok (.aload_n 0, 1) := by decide +kernel
theorem dX0_write_11 : decode cX0_write 11 = .ok (.getfield 13, 3) := by decide +kernel
theorem dX0_write_14 : decode cX0_write 14 = .ok (.iload_n 1, 1) := by decide +kernel
theorem dX0_write_15 : decode cX0_write 15 = .ok (.aload_n 0, 1) := by decide +kernel
theorem dX0_write_16 : decode cX0_write 16 = .ok (.getfield 33, 3) := by decide +kernel
theorem dX0_write_19 : decode cX0_write 19 = .ok (.lastore, 1) := by decide +kernel
theorem dX0_write_20 : decode cX0_write 20 = .ok (.aload_n 0, 1) := by decide +kernel
theorem dX0_write_21 : decode cX0_write 21 = .ok (.getfield 17, 3) := by decide +kernel
theorem dX0_write_24 : decode cX0_write 24 = .ok (.iload_n 1, 1) := by decide +kernel
theorem dX0_write_25 : decode cX0_write 25 = .ok (.aload_n 0, 1) := by decide +kernel
theorem dX0_write_26 : decode cX0_write 26 = .ok (.getfield 37, 3) := by decide +kernel
theorem dX0_write_29 : decode cX0_write 29 = .ok (.lastore, 1) := by decide +kernel
theorem dX0_write_30 : decode cX0_write 30 = .ok (.aload_n 0, 1) := by decide +kernel
theorem dX0_write_31 : decode cX0_write 31 = .ok (.getfield 20, 3) := by decide +kernel
theorem dX0_write_34 : decode cX0_write 34 = .ok (.iload_n 1, 1) := by decide +kernel
theorem dX0_write_35 : decode cX0_write 35 = .ok (.iload_n 2, 1) := by decide +kernel
theorem dX0_write_36 : decode cX0_write 36 = .ok (.iastore, 1) := by decide +kernel
theorem dX0_write_37 : decode cX0_write 37 = .ok (.aload_n 0, 1) := by decide +kernel
theorem dX0_write_38 : decode cX0_write 38 = .ok (.getfield 23, 3) := by decide +kernel
theorem dX0_write_41 : decode cX0_write 41 = .ok (.iload_n 1, 1) := by decide +kernel
theorem dX0_write_42 : decode cX0_write 42 = .ok (.iload_n 3, 1) := by decide +kernel
theorem dX0_write_43 : decode cX0_write 43 = .ok (.iastore, 1) := by decide +kernel
theorem dX0_write_44 : decode cX0_write 44 = .ok (.return_, 1) := by decide +kernel
theorem dX1_init_0 : decode cX1_init 0 = .ok (.aload_n 0, 1) := by decide +kernel
theorem dX1_init_1 : decode cX1_init 1 = .ok (.invokespecial 1, 3) := by decide +kernel
theorem dX1_init_4 : decode cX1_init 4 = .ok (.aload_n 0, 1) := by decide +kernel
theorem dX1_init_5 : decode cX1_init 5 = .ok (.sipush 1000, 3) := by decide +kernel
theorem dX1_init_8 : decode cX1_init 8 = .ok (.newarray .int, 2) := by decide +kernel
theorem dX1_init_10 : decode cX1_init 10 = .ok (.putfield 7, 3) := by decide +kernel
theorem dX1_init_13 : decode cX1_init 13 = .ok (.aload_n 0, 1) := by decide +kernel
theorem dX1_init_14 : decode cX1_init 14 = .ok (.sipush 1000, 3) := by decide +kernel
theorem dX1_init_17 : decode cX1_init 17 = .ok (.newarray .int, 2) := by decide +kernel
theorem dX1_init_19 : decode cX1_init 19 = .ok (.putfield 13, 3) := by decide +kernel
theorem dX1_init_22 : decode cX1_init 22 = .ok (.aload_n 0, 1) := by decide +kernel
theorem dX1_init_23 : decode cX1_init 23 = .ok (.sipush 1000, 3) := by decide +kernel
theorem dX1_init_26 : decode cX1_init 26 = .ok (.newarray .int, 2) := by decide +kernel
theorem dX1_init_28 : decode cX1_init 28 = .ok (.putfield 16, 3) := by decide +kernel
theorem dX1_init_31 : decode cX1_init 31 = .ok (.aload_n 0, 1) := by decide +kernel
theorem dX1_init_32 : decode cX1_init 32 = .ok (.sipush 1000, 3) := by decide +kernel
theorem dX1_init_35 : decode cX1_init 35 = .ok (.newarray .long, 2) := by decide +kernel
theorem dX1_init_37 : decode cX1_init 37 = .ok (.putfield 19, 3) := by decide +kernel
theorem dX1_init_40 : decode cX1_init 40 = .ok (.aload_n 0, 1) := by decide +kernel
theorem dX1_init_41 : decode cX1_init 41 = .ok (.sipush 1000, 3) := by decide +kernel
theorem dX1_init_44 : decode cX1_init 44 = .ok (.newarray .long, 2) := by decide +kernel
theorem dX1_init_46 : decode cX1_init 46 = .ok (.putfield 23, 3) := by decide +kernel
theorem dX1_init_49 : decode cX1_init 49 = .ok (.aload_n 0, 1) := by decide +kernel
theorem dX1_init_50 : decode cX1_init 50 = .ok (.iconst 4, 1) := by decide +kernel
theorem dX1_init_51 : decode cX1_init 51 = .ok (.putfield 26, 3) := by decide +kernel
theorem dX1_init_54 : decode cX1_init 54 = .ok (.return_, 1) := by decide +kernel
theorem dX1_address_0 : decode cX1_address 0 = .ok (.iload_n 1, 1) := by decide +kernel
theorem dX1_address_1 : decode cX1_address 1 = .ok (.bipush 6, 2) := by decide +kernel
theorem dX1_address_3 : decode cX1_address 3 = .ok (.if_icmp .eq 30, 3) := by decide +kernel
theorem dX1_address_6 : decode cX1_address 6 = .ok (.iload_n 1, 1) := by decide +kernel
theorem dX1_address_7 : decode cX1_address 7 = .ok (.iconst 4, 1) := by decide +kernel
theorem dX1_address_8 : decode cX1_address 8 = .ok (.if_icmp .ne 29, 3) := by decide +kernel
theorem dX1_address_11 : decode cX1_address 11 = .ok (.lload_n 2, 1) := by decide +kernel
theorem dX1_address_12 : decode cX1_address 12 = .ok (.lconst 0, 1) := by decide +kernel
theorem dX1_address_13 : decode cX1_address 13 = .ok (.lcmp, 1) := by decide +kernel
theorem dX1_address_14 : decode cX1_address 14 = .ok (.ifCond .ne 23, 3) := by decide +kernel
theorem dX1_address_17 : decode cX1_address 17 = .ok (.lload 4, 2) := by decide +kernel
theorem dX1_address_19 : decode cX1_address 19 = .ok (.lconst 0, 1) := by decide +kernel
theorem dX1_address_20 : decode cX1_address 20 = .ok (.lcmp, 1) := by decide +kernel
theorem dX1_address_21 : decode cX1_address 21 = .ok (.ifCond .lt 16, 3) := by decide +kernel
theorem dX1_address_24 : decode cX1_address 24 = .ok (.lload 4, 2) := by decide +kernel
theorem dX1_address_26 : decode cX1_address 26 = .ok (.ldc2_w 30, 3) := by decide +kernel
theorem dX1_address_29 : decode cX1_address 29 = .ok (.lcmp, 1) := by decide +kernel
theorem dX1_address_30 : decode cX1_address 30 = .ok (.ifCond .ge 7, 3) := by decide +kernel
theorem dX1_address_33 : decode cX1_address 33 = .ok (.iconst 1, 1) := by decide +kernel
theorem dX1_address_34 : decode cX1_address 34 = .ok (.goto 4, 3) := by decide +kernel
theorem dX1_address_37 : decode cX1_address 37 = .ok (.iconst 0, 1) := by decide +kernel
theorem dX1_address_38 : decode cX1_address 38 = .ok (.istore 6, 2) := by decide +kernel
theorem dX1_address_40 : decode cX1_address 40 = .ok (.iload 6, 2) := by decide +kernel
theorem dX1_address_42 : decode cX1_address 42 = .ok (.ifCond .eq 19, 3) := by decide +kernel
theorem dX1_address_45 : decode cX1_address 45 = .ok (.aload_n 0, 1) := by decide +kernel
theorem dX1_address_46 : decode cX1_address 46 = .ok (.iload_n 1, 1) := by decide +kernel
theorem dX1_address_47 : decode cX1_address 47 = .ok (.putfield 26, 3) := by decide +kernel
theorem dX1_address_50 : decode cX1_address 50 = .ok (.aload_n 0, 1) := by decide +kernel
theorem dX1_address_51 : decode cX1_address 51 = .ok (.lload_n 2, 1) := by decide +kernel
theorem dX1_address_52 : decode cX1_address 52 = .ok (.putfield 32, 3) := by decide +kernel
theorem dX1_address_55 : decode cX1_address 55 = .ok (.aload_n 0, 1) := by decide +kernel
theorem dX1_address_56 : decode cX1_address 56 = .ok (.lload 4, 2) := by decide +kernel
theorem dX1_address_58 : decode cX1_address 58 = .ok (.putfield 36, 3) := by decide +kernel
theorem dX1_address_61 : decode cX1_address 61 = .ok (.iload 6, 2) := by decide +kernel
theorem dX1_address_63 : decode cX1_address 63 = .ok (.ireturn, 1) := by decide +kernel
theorem dX1_isLength_0 : decode cX1_isLength 0 = .ok (.iload_n 1, 1) := by decide +kernel
theorem dX1_isLength_1 : decode cX1_isLength 1 = .ok (.ifCond .lt 27, 3) := by decide +kernel
theorem dX1_isLength_4 : decode cX1_isLength 4 = .ok (.iload_n 1, 1) := by decide +kernel
theorem dX1_isLength_5 : decode cX1_isLength 5 = .ok (.aload_n 0, 1) := by decide +kernel
theorem dX1_isLength_6 : decode cX1_isLength 6 = .ok (.getfield 26, 3) := by decide +kernel
theorem dX1_isLength_9 : decode cX1_isLength 9 = .ok (.iconst 4, 1) := by decide +kernel
theorem dX1_isLength_10 : decode cX1_isLength 10 = .ok (.if_icmp .ne 8, 3) := by decide +kernel
theorem dX1_isLength_13 : decode cX1_isLength 13 = .ok (.bipush 32, 2) := by decide +kernel
theorem dX1_isLength_15 : decode cX1_isLength 15 = .ok (.goto 6, 3) := by decide +kernel
theorem dX1_isLength_18 : decode cX1_isLength 18 = .ok (.sipush 128, 3) := by decide +kernel
theorem dX1_isLength_21 : decode cX1_isLength 21 = .ok (.if_icmp .gt 7, 3) := by decide +kernel
theorem dX1_isLength_24 : decode cX1_isLength 24 = .ok (.iconst 1, 1) := by decide +kernel
theorem dX1_isLength_25 : decode cX1_isLength 25 = .ok (.goto 4, 3) := by decide +kernel
theorem dX1_isLength_28 : decode cX1_isLength 28 = .ok (.iconst 0, 1) := by decide +kernel
theorem dX1_isLength_29 : decode cX1_isLength 29 = .ok (.ireturn, 1) := by decide +kernel
theorem dX1_bit_0 : decode cX1_bit 0 = .ok (.iload_n 0, 1) := by decide +kernel
theorem dX1_bit_1 : decode cX1_bit 1 = .ok (.iconst 4, 1) := by decide +kernel
theorem dX1_bit_2 : decode cX1_bit 2 = .ok (.if_icmp .ne 14, 3) := by decide +kernel
theorem dX1_bit_5 : decode cX1_bit 5 = .ok (.lload_n 3, 1) := by decide +kernel
theorem dX1_bit_6 : decode cX1_bit 6 = .ok (.bipush 31, 2) := by decide +kernel
theorem dX1_bit_8 : decode cX1_bit 8 = .ok (.iload 5, 2) := by decide +kernel
theorem dX1_bit_10 : decode cX1_bit 10 = .ok (.isub, 1) := by decide +kernel
theorem dX1_bit_11 : decode cX1_bit 11 = .ok (.lshr, 1) := by decide +kernel
theorem dX1_bit_12 : decode cX1_bit 12 = .ok (.lconst 1, 1) := by decide +kernel
theorem dX1_bit_13 : decode cX1_bit 13 = .ok (.land, 1) := by decide +kernel
theorem dX1_bit_14 : decode cX1_bit 14 = .ok (.l2i, 1) := by decide +kernel
theorem dX1_bit_15 : decode cX1_bit 15 = .ok (.ireturn, 1) := by decide +kernel
theorem dX1_bit_16 : decode cX1_bit 16 = .ok (.iload 5, 2) := by decide +kernel
theorem dX1_bit_18 : decode cX1_bit 18 = .ok (.bipush 64, 2) := by decide +kernel
theorem dX1_bit_20 : decode cX1_bit 20 = .ok (.if_icmp .ge 15, 3) := by decide +kernel
theorem dX1_bit_23 : decode cX1_bit 23 = .ok (.lload_n 1, 1) := by decide +kernel
theorem dX1_bit_24 : decode cX1_bit 24 = .ok (.bipush 63, 2) := by decide +kernel
theorem dX1_bit_26 : decode cX1_bit 26 = .ok (.iload 5, 2) := by decide +kernel
theorem dX1_bit_28 : decode cX1_bit 28 = .ok (.isub, 1) := by decide +kernel
theorem dX1_bit_29 : decode cX1_bit 29 = .ok (.lshr, 1) := by decide +kernel
theorem dX1_bit_30 : decode cX1_bit 30 = .ok (.lconst 1, 1) := by decide +kernel
theorem dX1_bit_31 : decode cX1_bit 31 = .ok (.land, 1) := by decide +kernel
theorem dX1_bit_32 : decode cX1_bit 32 = .ok (.goto 12, 3) := by decide +kernel
theorem dX1_bit_35 : decode cX1_bit 35 = .ok (.lload_n 3, 1) := by decide +kernel
theorem dX1_bit_36 : decode cX1_bit 36 = .ok (.bipush 127, 2) := by decide +kernel
theorem dX1_bit_38 : decode cX1_bit 38 = .ok (.iload 5, 2) := by decide +kernel
theorem dX1_bit_40 : decode cX1_bit 40 = .ok (.isub, 1) := by decide +kernel
theorem dX1_bit_41 : decode cX1_bit 41 = .ok (.lshr, 1) := by decide +kernel
theorem dX1_bit_42 : decode cX1_bit 42 = .ok (.lconst 1, 1) := by decide +kernel
theorem dX1_bit_43 : decode cX1_bit 43 = .ok (.land, 1) := by decide +kernel
theorem dX1_bit_44 : decode cX1_bit 44 = .ok (.l2i, 1) := by decide +kernel
theorem dX1_bit_45 : decode cX1_bit 45 = .ok (.ireturn, 1) := by decide +kernel
theorem dX1_isPrefix_0 : decode cX1_isPrefix 0 = .ok (.aload_n 0, 1) := by decide +kernel
theorem dX1_isPrefix_1 : decode cX1_isPrefix 1 = .ok (.iload_n 1, 1) := by decide +kernel
theorem dX1_isPrefix_2 : decode cX1_isPrefix 2 = .ok (.invokevirtual 39, 3) := by decide +kernel
theorem dX1_isPrefix_5 : decode cX1_isPrefix 5 = .ok (.istore_n 2, 1) := by decide +kernel
theorem dX1_isPrefix_6 : decode cX1_isPrefix 6 = .ok (.aload_n 0, 1) := by decide +kernel
theorem dX1_isPrefix_7 : decode cX1_isPrefix 7 = .ok (.getfield 26, 3) := by decide +kernel
theorem dX1_isPrefix_10 : decode cX1_isPrefix 10 = .ok (.iconst 4, 1) := by decide +kernel
theorem dX1_isPrefix_11 : decode cX1_isPrefix 11 = .ok (.if_icmp .ne 8, 3) := by decide +kernel
theorem dX1_isPrefix_14 : decode cX1_isPrefix 14 = .ok (.bipush 32, 2) := by decide +kernel
theorem dX1_isPrefix_16 : decode cX1_isPrefix 16 = .ok (.goto 6, 3) := by decide +kernel
theorem dX1_isPrefix_19 : decode cX1_isPrefix 19 = .ok (.sipush 128, 3) := by decide +kernel
theorem dX1_isPrefix_22 : decode cX1_isPrefix 22 = .ok (.istore_n 3, 1) := by decide +kernel
theorem dX1_isPrefix_23 : decode cX1_isPrefix 23 = .ok (.iload_n 1, 1) := by decide +kernel
theorem dX1_isPrefix_24 : decode cX1_isPrefix 24 = .ok (.istore 4, 2) := by decide +kernel
theorem dX1_isPrefix_26 : decode cX1_isPrefix 26 = .ok (.iload 4, 2) := by decide +kernel
theorem dX1_isPrefix_28 : decode cX1_isPrefix 28 = .ok (.iload_n 3, 1) := by decide +kernel
theorem dX1_isPrefix_29 : decode cX1_isPrefix 29 = .ok (.if_icmp .ge 39, 3) := by decide +kernel
theorem dX1_isPrefix_32 : decode cX1_isPrefix 32 = .ok (.iload_n 2, 1) := by decide +kernel
theorem dX1_isPrefix_33 : decode cX1_isPrefix 33 = .ok (.ifCond .eq 35, 3) := by decide +kernel
theorem dX1_isPrefix_36 : decode cX1_isPrefix 36 = .ok (.aload_n 0, 1) := by decide +kernel
theorem dX1_isPrefix_37 : decode cX1_isPrefix 37 = .ok (.getfield 26, 3) := by decide +kernel
theorem dX1_isPrefix_40 : decode cX1_isPrefix 40 = .ok (.aload_n 0, 1) := by decide +kernel
theorem dX1_isPrefix_41 : decode cX1_isPrefix 41 = .ok (.getfield 32, 3) := by decide +kernel
