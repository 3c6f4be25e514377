theorem dX1_isPrefix_44 : decode cX1_isPrefix 44 = .ok (.aload_n 0, 1) := by decide +kernel
theorem dX1_isPrefix_45 : decode cX1_isPrefix 45 = .ok (.getfield 36, 3) := by decide +kernel
theorem dX1_isPrefix_48 : decode cX1_isPrefix 48 = .ok (.iload 4, 2) := by decide +kernel
theorem dX1_isPrefix_50 : decode cX1_isPrefix 50 = .ok (.invokestatic 43, 3) := by decide +kernel
theorem dX1_isPrefix_53 : decode cX1_isPrefix 53 = .ok (.ifCond .ne 7, 3) := by decide +kernel
theorem dX1_isPrefix_56 : decode cX1_isPrefix 56 = .ok (.iconst 1, 1) := by decide +kernel
theorem dX1_isPrefix_57 : decode cX1_isPrefix 57 = .ok (.goto 4, 3) := by decide +kernel
theorem dX1_isPrefix_60 : decode cX1_isPrefix 60 = .ok (.iconst 0, 1) := by decide +kernel
theorem dX1_isPrefix_61 : decode cX1_isPrefix 61 = .ok (.istore_n 2, 1) := by decide +kernel
theorem dX1_isPrefix_62 : decode cX1_isPrefix 62 = .ok (.iinc 4 1, 3) := by decide +kernel
theorem dX1_isPrefix_65 : decode cX1_isPrefix 65 = .ok (.goto (-39), 3) := by decide +kernel
theorem dX1_isPrefix_68 : decode cX1_isPrefix 68 = .ok (.iload_n 2, 1) := by decide +kernel
theorem dX1_isPrefix_69 : decode cX1_isPrefix 69 = .ok (.ireturn, 1) := by decide +kernel
theorem dX1_find_0 : decode cX1_find 0 = .ok (.iconst 0, 1) := by decide +kernel
theorem dX1_find_1 : decode cX1_find 1 = .ok (.istore_n 2, 1) := by decide +kernel
theorem dX1_find_2 : decode cX1_find 2 = .ok (.iload_n 2, 1) := by decide +kernel
theorem dX1_find_3 : decode cX1_find 3 = .ok (.aload_n 0, 1) := by decide +kernel
theorem dX1_find_4 : decode cX1_find 4 = .ok (.getfield 47, 3) := by decide +kernel
theorem dX1_find_7 : decode cX1_find 7 = .ok (.if_icmp .ge 62, 3) := by decide +kernel
theorem dX1_find_10 : decode cX1_find 10 = .ok (.aload_n 0, 1) := by decide +kernel
theorem dX1_find_11 : decode cX1_find 11 = .ok (.getfield 7, 3) := by decide +kernel
theorem dX1_find_14 : decode cX1_find 14 = .ok (.iload_n 2, 1) := by decide +kernel
theorem dX1_find_15 : decode cX1_find 15 = .ok (.iaload, 1) := by decide +kernel
theorem dX1_find_16 : decode cX1_find 16 = .ok (.aload_n 0, 1) := by decide +kernel
theorem dX1_find_17 : decode cX1_find 17 = .ok (.getfield 26, 3) := by decide +kernel
theorem dX1_find_20 : decode cX1_find 20 = .ok (.if_icmp .ne 43, 3) := by decide +kernel
theorem dX1_find_23 : decode cX1_find 23 = .ok (.aload_n 0, 1) := by decide +kernel
theorem dX1_find_24 : decode cX1_find 24 = .ok (.getfield 19, 3) := by decide +kernel
theorem dX1_find_27 : decode cX1_find 27 = .ok (.iload_n 2, 1) := by decide +kernel
theorem dX1_find_28 : decode cX1_find 28 = .ok (.laload, 1) := by decide +kernel
theorem dX1_find_29 : decode cX1_find 29 = .ok (.aload_n 0, 1) := by decide +kernel
theorem dX1_find_30 : decode cX1_find 30 = .ok (.getfield 32, 3) := by decide +kernel
theorem dX1_find_33 : decode cX1_find 33 = .ok (.lcmp, 1) := by decide +kernel
theorem dX1_find_34 : decode cX1_find 34 = .ok (.ifCond .ne 29, 3) := by decide +kernel
theorem dX1_find_37 : decode cX1_find 37 = .ok (.aload_n 0, 1) := by decide +kernel
theorem dX1_find_38 : decode cX1_find 38 = .ok (.getfield 23, 3) := by decide +kernel
theorem dX1_find_41 : decode cX1_find 41 = .ok (.iload_n 2, 1) := by decide +kernel
theorem dX1_find_42 : decode cX1_find 42 = .ok (.laload, 1) := by decide +kernel
theorem dX1_find_43 : decode cX1_find 43 = .ok (.aload_n 0, 1) := by decide +kernel
theorem dX1_find_44 : decode cX1_find 44 = .ok (.getfield 36, 3) := by decide +kernel
theorem dX1_find_47 : decode cX1_find 47 = .ok (.lcmp, 1) := by decide +kernel
theorem dX1_find_48 : decode cX1_find 48 = .ok (.ifCond .ne 15, 3) := by decide +kernel
theorem dX1_find_51 : decode cX1_find 51 = .ok (.aload_n 0, 1) := by decide +kernel
theorem dX1_find_52 : decode cX1_find 52 = .ok (.getfield 13, 3) := by decide +kernel
theorem dX1_find_55 : decode cX1_find 55 = .ok (.iload_n 2, 1) := by decide +kernel
theorem dX1_find_56 : decode cX1_find 56 = .ok (.iaload, 1) := by decide +kernel
theorem dX1_find_57 : decode cX1_find 57 = .ok (.iload_n 1, 1) := by decide +kernel
theorem dX1_find_58 : decode cX1_find 58 = .ok (.if_icmp .ne 5, 3) := by decide +kernel
theorem dX1_find_61 : decode cX1_find 61 = .ok (.iload_n 2, 1) := by decide +kernel
theorem dX1_find_62 : decode cX1_find 62 = .ok (.ireturn, 1) := by decide +kernel
theorem dX1_find_63 : decode cX1_find 63 = .ok (.iinc 2 1, 3) := by decide +kernel
theorem dX1_find_66 : decode cX1_find 66 = .ok (.goto (-64), 3) := by decide +kernel
theorem dX1_find_69 : decode cX1_find 69 = .ok (.iconst (-1), 1) := by decide +kernel
theorem dX1_find_70 : decode cX1_find 70 = .ok (.ireturn, 1) := by decide +kernel
theorem dX1_put_0 : decode cX1_put 0 = .ok (.aload_n 0, 1) := by decide +kernel
theorem dX1_put_1 : decode cX1_put 1 = .ok (.iload_n 1, 1) := by decide +kernel
theorem dX1_put_2 : decode cX1_put 2 = .ok (.invokevirtual 50, 3) := by decide +kernel
theorem dX1_put_5 : decode cX1_put 5 = .ok (.ifCond .ne 5, 3) := by decide +kernel
theorem dX1_put_8 : decode cX1_put 8 = .ok (.iconst (-1), 1) := by decide +kernel
theorem dX1_put_9 : decode cX1_put 9 = .ok (.ireturn, 1) := by decide +kernel
theorem dX1_put_10 : decode cX1_put 10 = .ok (.aload_n 0, 1) := by decide +kernel
theorem dX1_put_11 : decode cX1_put 11 = .ok (.iload_n 1, 1) := by decide +kernel
theorem dX1_put_12 : decode cX1_put 12 = .ok (.invokevirtual 53, 3) := by decide +kernel
theorem dX1_put_15 : decode cX1_put 15 = .ok (.istore_n 3, 1) := by decide +kernel
theorem dX1_put_16 : decode cX1_put 16 = .ok (.iload_n 3, 1) := by decide +kernel
theorem dX1_put_17 : decode cX1_put 17 = .ok (.iconst (-1), 1) := by decide +kernel
theorem dX1_put_18 : decode cX1_put 18 = .ok (.if_icmp .eq 12, 3) := by decide +kernel
theorem dX1_put_21 : decode cX1_put 21 = .ok (.aload_n 0, 1) := by decide +kernel
theorem dX1_put_22 : decode cX1_put 22 = .ok (.getfield 16, 3) := by decide +kernel
theorem dX1_put_25 : decode cX1_put 25 = .ok (.iload_n 3, 1) := by decide +kernel
theorem dX1_put_26 : decode cX1_put 26 = .ok (.iload_n 2, 1) := by decide +kernel
theorem dX1_put_27 : decode cX1_put 27 = .ok (.iastore, 1) := by decide +kernel
theorem dX1_put_28 : decode cX1_put 28 = .ok (.iconst 0, 1) := by decide +kernel
theorem dX1_put_29 : decode cX1_put 29 = .ok (.ireturn, 1) := by decide +kernel
theorem dX1_put_30 : decode cX1_put 30 = .ok (.aload_n 0, 1) := by decide +kernel
theorem dX1_put_31 : decode cX1_put 31 = .ok (.getfield 47, 3) := by decide +kernel
theorem dX1_put_34 : decode cX1_put 34 = .ok (.sipush 1000, 3) := by decide +kernel
theorem dX1_put_37 : decode cX1_put 37 = .ok (.if_icmp .ne 5, 3) := by decide +kernel
theorem dX1_put_40 : decode cX1_put 40 = .ok (.iconst (-1), 1) := by decide +kernel
theorem dX1_put_41 : decode cX1_put 41 = .ok (.ireturn, 1) := by decide +kernel
theorem dX1_put_42 : decode cX1_put 42 = .ok (.aload_n 0, 1) := by decide +kernel
theorem dX1_put_43 : decode cX1_put 43 = .ok (.getfield 7, 3) := by decide +kernel
theorem dX1_put_46 : decode cX1_put 46 = .ok (.aload_n 0, 1) := by decide +kernel
theorem dX1_put_47 : decode cX1_put 47 = .ok (.getfield 47, 3) := by decide +kernel
theorem dX1_put_50 : decode cX1_put 50 = .ok (.aload_n 0, 1) := by decide +kernel
theorem dX1_put_51 : decode cX1_put 51 = .ok (.getfield 26, 3) := by decide +kernel
theorem dX1_put_54 : decode cX1_put 54 = .ok (.iastore, 1) := by decide +kernel
theorem dX1_put_55 : decode cX1_put 55 = .ok (.aload_n 0, 1) := by decide +kernel
theorem dX1_put_56 : decode cX1_put 56 = .ok (.getfield 19, 3) := by decide +kernel
theorem dX1_put_59 : decode cX1_put 59 = .ok (.aload_n 0, 1) := by decide +kernel
theorem dX1_put_60 : decode cX1_put 60 = .ok (.getfield 47, 3) := by decide +kernel
theorem dX1_put_63 : decode cX1_put 63 = .ok (.aload_n 0, 1) := by decide +kernel
theorem dX1_put_64 : decode cX1_put 64 = .ok (.getfield 32, 3) := by decide +kernel
theorem dX1_put_67 : decode cX1_put 67 = .ok (.lastore, 1) := by decide +kernel
theorem dX1_put_68 : decode cX1_put 68 = .ok (.aload_n 0, 1) := by decide +kernel
theorem dX1_put_69 : decode cX1_put 69 = .ok (.getfield 23, 3) := by decide +kernel
theorem dX1_put_72 : decode cX1_put 72 = .ok (.aload_n 0, 1) := by decide +kernel
theorem dX1_put_73 : decode cX1_put 73 = .ok (.getfield 47, 3) := by decide +kernel
theorem dX1_put_76 : decode cX1_put 76 = .ok (.aload_n 0, 1) := by decide +kernel
theorem dX1_put_77 : decode cX1_put 77 = .ok (.getfield 36, 3) := by decide +kernel
theorem dX1_put_80 : decode cX1_put 80 = .ok (.lastore, 1) := by decide +kernel
theorem dX1_put_81 : decode cX1_put 81 = .ok (.aload_n 0, 1) := by decide +kernel
theorem dX1_put_82 : decode cX1_put 82 = .ok (.getfield 13, 3) := by decide +kernel
theorem dX1_put_85 : decode cX1_put 85 = .ok (.aload_n 0, 1) := by decide +kernel
theorem dX1_put_86 : decode cX1_put 86 = .ok (.getfield 47, 3) := by decide +kernel
theorem dX1_put_89 : decode cX1_put 89 = .ok (.iload_n 1, 1) := by decide +kernel
theorem dX1_put_90 : decode cX1_put 90 = .ok (.iastore, 1) := by decide +kernel
theorem dX1_put_91 : decode cX1_put 91 = .ok (.aload_n 0, 1) := by decide +kernel
theorem dX1_put_92 : decode cX1_put 92 = .ok (.getfield 16, 3) := by decide +kernel
theorem dX1_put_95 : decode cX1_put 95 = .ok (.aload_n 0, 1) := by decide +kernel
theorem dX1_put_96 : decode cX1_put 96 = .ok (.getfield 47, 3) := by decide +kernel
theorem dX1_put_99 : decode cX1_put 99 = .ok (.iload_n 2, 1) := by decide +kernel
theorem dX1_put_100 : decode cX1_put 100 = .ok (.iastore, 1) := by decide +kernel
theorem dX1_put_101 : decode cX1_put 101 = .ok (.aload_n 0, 1) := by decide +kernel
theorem dX1_put_102 : decode cX1_put 102 = .ok (.dup, 1) := by decide +kernel
theorem dX1_put_103 : decode cX1_put 103 = .ok (.getfield 47, 3) := by decide +kernel
theorem dX1_put_106 : decode cX1_put 106 = .ok (.iconst 1, 1) := by decide +kernel
theorem dX1_put_107 : decode cX1_put 107 = .ok (.iadd, 1) := by decide +kernel
theorem dX1_put_108 : decode cX1_put 108 = .ok (.putfield 47, 3) := by decide +kernel
theorem dX1_put_111 : decode cX1_put 111 = .ok (.iconst 1, 1) := by decide +kernel
theorem dX1_put_112 : decode cX1_put 112 = .ok (.ireturn, 1) := by decide +kernel
theorem dX1_remove_0 : decode cX1_remove 0 = .ok (.aload_n 0, 1) := by decide +kernel
theorem dX1_remove_1 : decode cX1_remove 1 = .ok (.iload_n 1, 1) := by decide +kernel
theorem dX1_remove_2 : decode cX1_remove 2 = .ok (.invokevirtual 50, 3) := by decide +kernel
theorem dX1_remove_5 : decode cX1_remove 5 = .ok (.ifCond .ne 5, 3) := by decide +kernel
theorem dX1_remove_8 : decode cX1_remove 8 = .ok (.iconst (-1), 1) := by decide +kernel
theorem dX1_remove_9 : decode cX1_remove 9 = .ok (.ireturn, 1) := by decide +kernel
theorem dX1_remove_10 : decode cX1_remove 10 = .ok (.aload_n 0, 1) := by decide +kernel
theorem dX1_remove_11 : decode cX1_remove 11 = .ok (.iload_n 1, 1) := by decide +kernel
theorem dX1_remove_12 : decode cX1_remove 12 = .ok (.invokevirtual 53, 3) := by decide +kernel
theorem dX1_remove_15 : decode cX1_remove 15 = .ok (.istore_n 2, 1) := by decide +kernel
theorem dX1_remove_16 : decode cX1_remove 16 = .ok (.iload_n 2, 1) := by decide +kernel
theorem dX1_remove_17 : decode cX1_remove 17 = .ok (.iconst (-1), 1) := by decide +kernel
theorem dX1_remove_18 : decode cX1_remove 18 = .ok (.if_icmp .ne 5, 3) := by decide +kernel
theorem dX1_remove_21 : decode cX1_remove 21 = .ok (.iconst 0, 1) := by decide +kernel
theorem dX1_remove_22 : decode cX1_remove 22 = .ok (.ireturn, 1) := by decide +kernel
theorem dX1_remove_23 : decode cX1_remove 23 = .ok (.aload_n 0, 1) := by decide +kernel
theorem dX1_remove_24 : decode cX1_remove 24 = .ok (.dup, 1) := by decide +kernel
theorem dX1_remove_25 : decode cX1_remove 25 = .ok (.getfield 47, 3) := by decide +kernel
theorem dX1_remove_28 : decode cX1_remove 28 = .ok (.iconst 1, 1) := by decide +kernel
theorem dX1_remove_29 : decode cX1_remove 29 = .ok (.isub, 1) := by decide +kernel
theorem dX1_remove_30 : decode cX1_remove 30 = .ok (.putfield 47, 3) := by decide +kernel
theorem dX1_remove_33 : decode cX1_remove 33 = .ok (.iload_n 2, 1) := by decide +kernel
theorem dX1_remove_34 : decode cX1_remove 34 = .ok (.istore_n 3, 1) := by decide +kernel
theorem dX1_remove_35 : decode cX1_remove 35 = .ok (.iload_n 3, 1) := by decide +kernel
theorem dX1_remove_36 : decode cX1_remove 36 = .ok (.aload_n 0, 1) := by decide +kernel
theorem dX1_remove_37 : decode cX1_remove 37 = .ok (.getfield 47, 3) := by decide +kernel
theorem dX1_remove_40 : decode cX1_remove 40 = .ok (.if_icmp .ge 79, 3) := by decide +kernel
theorem dX1_remove_43 : decode cX1_remove 43 = .ok (.aload_n 0, 1) := by decide +kernel
theorem dX1_remove_44 : decode cX1_remove 44 = .ok (.getfield 7, 3) := by decide +kernel
theorem dX1_remove_47 : decode cX1_remove 47 = .ok (.iload_n 3, 1) := by decide +kernel
theorem dX1_remove_48 : decode cX1_remove 48 = .ok (.aload_n 0, 1) := by decide +kernel
theorem dX1_remove_49 : decode cX1_remove 49 = .ok (.getfield 7, 3) := by decide +kernel
theorem dX1_remove_52 : decode cX1_remove 52 = .ok (.iload_n 3, 1) := by decide +kernel
theorem dX1_remove_53 : decode cX1_remove 53 = .ok (.iconst 1, 1) := by decide +kernel
theorem dX1_remove_54 : decode cX1_remove 54 = .ok (.iadd, 1) := by decide +kernel
theorem dX1_remove_55 : decode cX1_remove 55 = .ok (.iaload, 1) := by decide +kernel
theorem dX1_remove_56 : decode cX1_remove 56 = .ok (.iastore, 1) := by decide +kernel
theorem dX1_remove_57 : decode cX1_remove 57 = .ok (.aload_n 0, 1) := by decide +kernel
theorem dX1_remove_58 : decode cX1_remove 58 = .ok (.getfield 19, 3) := by decide +kernel
theorem dX1_remove_61 : decode cX1_remove 61 = .ok (.iload_n 3, 1) := by decide +kernel
theorem dX1_remove_62 : decode cX1_remove 62 = .ok (.aload_n 0, 1) := by decide +kernel
theorem dX1_remove_63 : decode cX1_remove 63 = .ok (.getfield 19, 3) := by decide +kernel
theorem dX1_remove_66 : decode cX1_remove 66 = .ok (.iload_n 3, 1) := by decide +kernel
theorem dX1_remove_67 : decode cX1_remove 67 = .ok (.iconst 1, 1) := by decide +kernel
theorem dX1_remove_68 : decode cX1_remove 68 = .ok (.iadd, 1) := by decide +kernel
theorem dX1_remove_69 : decode cX1_remove 69 = .ok (.laload, 1) := by decide +kernel
theorem dX1_remove_70 : decode cX1_remove 70 = .ok (.lastore, 1) := by decide +kernel
theorem dX1_remove_71 : decode cX1_remove 71 = .ok (.aload_n 0, 1) := by decide +kernel
theorem dX1_remove_72 : decode cX1_remove 72 = .ok (.getfield 23, 3) := by decide +kernel
theorem dX1_remove_75 : decode cX1_remove 75 = .ok (.iload_n 3, 1) := by decide +kernel
theorem dX1_remove_76 : decode cX1_remove 76 = .ok (.aload_n 0, 1) := by decide +kernel
theorem dX1_remove_77 : decode cX1_remove 77 = .ok (.getfield 23, 3) := by decide +kernel
theorem dX1_remove_80 : decode cX1_remove 80 = .ok (.iload_n 3, 1) := by decide +kernel
theorem dX1_remove_81 : decode cX1_remove 81 = .ok (.iconst 1, 1) := by decide +kernel
theorem dX1_remove_82 : decode cX1_remove 82 = .ok (.iadd, 1) := by decide +kernel
theorem dX1_remove_83 : decode cX1_remove 83 = .ok (.laload, 1) := by decide +kernel
theorem dX1_remove_84 : decode cX1_remove 84 = .ok (.lastore, 1) := by decide +kernel
theorem dX1_remove_85 : decode cX1_remove 85 = .ok (.aload_n 0, 1) := by decide +kernel
theorem dX1_remove_86 : decode cX1_remove 86 = .ok (.getfield 13, 3) := by decide +kernel
theorem dX1_remove_89 : decode cX1_remove 89 = .ok (.iload_n 3, 1) := by decide +kernel
theorem dX1_remove_90 : decode cX1_remove 90 = .ok (.aload_n 0, 1) := by decide +kernel
theorem dX1_remove_91 : decode cX1_remove 91 = .ok (.getfield 13, 3) := by decide +kernel
theorem dX1_remove_94 : decode cX1_remove 94 = .ok (.iload_n 3, 1) := by decide +kernel
theorem dX1_remove_95 : decode cX1_remove 95 = .ok (.iconst 1, 1) := by decide +kernel
theorem dX1_remove_96 : decode cX1_remove 96 = .ok (.iadd, 1) := by decide +kernel
theorem dX1_remove_97 : decode cX1_remove 97 = .ok (.iaload, 1) := by decide +kernel
theorem dX1_remove_98 : decode cX1_remove 98 = .ok (.iastore, 1) := by decide +kernel
theorem dX1_remove_99 : decode cX1_remove 99 = .ok (.aload_n 0, 1) := by decide +kernel
theorem dX1_remove_100 : decode cX1_remove 100 = .ok (.getfield 16, 3) := by decide +kernel
theorem dX1_remove_103 : decode cX1_remove 103 = .ok (.iload_n 3, 1) := by decide +kernel
theorem dX1_remove_104 : decode cX1_remove 104 = .ok (.aload_n 0, 1) := by decide +kernel
theorem dX1_remove_105 : decode cX1_remove 105 = .ok (.getfield 16, 3) := by decide +kernel
theorem dX1_remove_108 : decode cX1_remove 108 = .ok (.iload_n 3, 1) := by decide +kernel
theorem dX1_remove_109 : decode cX1_remove 109 = .ok (.iconst 1, 1) := by decide +kernel
theorem dX1_remove_110 : decode cX1_remove 110 = .ok (.iadd, 1) := by decide +kernel
theorem dX1_remove_111 : decode cX1_remove 111 = .ok (.iaload, 1) := by decide +kernel
theorem dX1_remove_112 : decode cX1_remove 112 = .ok (.iastore, 1) := by decide +kernel
theorem dX1_remove_113 : decode cX1_remove 113 = .ok (.iinc 3 1, 3) := by decide +kernel
theorem dX1_remove_116 : decode cX1_remove 116 = .ok (.goto (-81), 3) := by decide +kernel
theorem dX1_remove_119 : decode cX1_remove 119 = .ok (.iconst 1, 1) := by decide +kernel
theorem dX1_remove_120 : decode cX1_remove 120 = .ok (.ireturn, 1) := by decide +kernel
theorem dX1_number_0 : decode cX1_number 0 = .ok (.aload_n 0, 1) := by decide +kernel
theorem dX1_number_1 : decode cX1_number 1 = .ok (.iload_n 1, 1) := by decide +kernel
theorem dX1_number_2 : decode cX1_number 2 = .ok (.invokevirtual 50, 3) := by decide +kernel
theorem dX1_number_5 : decode cX1_number 5 = .ok (.ifCond .eq 11, 3) := by decide +kernel
theorem dX1_number_8 : decode cX1_number 8 = .ok (.aload_n 0, 1) := by decide +kernel
theorem dX1_number_9 : decode cX1_number 9 = .ok (.iload_n 1, 1) := by decide +kernel
theorem dX1_number_10 : decode cX1_number 10 = .ok (.invokevirtual 53, 3) := by decide +kernel
theorem dX1_number_13 : decode cX1_number 13 = .ok (.goto 4, 3) := by decide +kernel
theorem dX1_number_16 : decode cX1_number 16 = .ok (.iconst (-1), 1) := by decide +kernel
theorem dX1_number_17 : decode cX1_number 17 = .ok (.istore_n 2, 1) := by decide +kernel
theorem dX1_number_18 : decode cX1_number 18 = .ok (.iload_n 2, 1) := by decide +kernel
theorem dX1_number_19 : decode cX1_number 19 = .ok (.iconst (-1), 1) := by decide +kernel
theorem dX1_number_20 : decode cX1_number 20 = .ok (.if_icmp .ne 8, 3) := by decide +kernel
theorem dX1_number_23 : decode cX1_number 23 = .ok (.ldc 57, 2) := by decide +kernel
theorem dX1_number_25 : decode cX1_number 25 = .ok (.goto 9, 3) := by decide +kernel
theorem dX1_number_28 : decode cX1_number 28 = .ok (.aload_n 0, 1) := by decide +kernel
theorem dX1_number_29 : decode cX1_number 29 = .ok (.getfield 16, 3) := by decide +kernel
theorem dX1_number_32 : decode cX1_number 32 = .ok (.iload_n 2, 1) := by decide +kernel
theorem dX1_number_33 : decode cX1_number 33 = .ok (.iaload, 1) := by decide +kernel
theorem dX1_number_34 : decode cX1_number 34 = .ok (.ireturn, 1) := by decide +kernel
theorem dX1_covers_0 : decode cX1_covers 0 = .ok (.aload_n 0, 1) := by decide +kernel
theorem dX1_covers_1 : decode cX1_covers 1 = .ok (.getfield 7, 3) := by decide +kernel
theorem dX1_covers_4 : decode cX1_covers 4 = .ok (.iload_n 1, 1) := by decide +kernel
theorem dX1_covers_5 : decode cX1_covers 5 = .ok (.iaload, 1) := by decide +kernel
theorem dX1_covers_6 : decode cX1_covers 6 = .ok (.aload_n 0, 1) := by decide +kernel
theorem dX1_covers_7 : decode cX1_covers 7 = .ok (.getfield 26, 3) := by decide +kernel
theorem dX1_covers_10 : decode cX1_covers 10 = .ok (.if_icmp .ne 7, 3) := by decide +kernel
theorem dX1_covers_13 : decode cX1_covers 13 = .ok (.iconst 1, 1) := by decide +kernel
theorem dX1_covers_14 : decode cX1_covers 14 = .ok (.goto 4, 3) := by decide +kernel
theorem dX1_covers_17 : decode cX1_covers 17 = .ok (.iconst 0, 1) := by decide +kernel
theorem dX1_covers_18 : decode cX1_covers 18 = .ok (.istore_n 2, 1) := by decide +kernel
theorem dX1_covers_19 : decode cX1_covers 19 = .ok (.iconst 0, 1) := by decide +kernel
theorem dX1_covers_20 : decode cX1_covers 20 = .ok (.istore_n 3, 1) := by decide +kernel
theorem dX1_covers_21 : decode cX1_covers 21 = .ok (.iload_n 3, 1) := by decide +kernel
theorem dX1_covers_22 : decode cX1_covers 22 = .ok (.aload_n 0, 1) := by decide +kernel
theorem dX1_covers_23 : decode cX1_covers 23 = .ok (.getfield 13, 3) := by decide +kernel
theorem dX1_covers_26 : decode cX1_covers 26 = .ok (.iload_n 1, 1) := by decide +kernel
theorem dX1_covers_27 : decode cX1_covers 27 = .ok (.iaload, 1) := by decide +kernel
theorem dX1_covers_28 : decode cX1_covers 28 = .ok (.if_icmp .ge 58, 3) := by decide +kernel
theorem dX1_covers_31 : decode cX1_covers 31 = .ok (.iload_n 2, 1) := by decide +kernel
theorem dX1_covers_32 : decode cX1_covers 32 = .ok (.ifCond .eq 54, 3) := by decide +kernel
theorem dX1_covers_35 : decode cX1_covers 35 = .ok (.aload_n 0, 1) := by decide +kernel
theorem dX1_covers_36 : decode cX1_covers 36 = .ok (.getfield 26, 3) := by decide +kernel
theorem dX1_covers_39 : decode cX1_covers 39 = .ok (.aload_n 0, 1) := by decide +kernel
theorem dX1_covers_40 : decode cX1_covers 40 = .ok (.getfield 19, 3) := by decide +kernel
theorem dX1_covers_43 : decode cX1_covers 43 = .ok (.iload_n 1, 1) := by decide +kernel
theorem dX1_covers_44 : decode cX1_covers 44 = .ok (.laload, 1) := by decide +kernel
theorem dX1_covers_45 : decode cX1_covers 45 = .ok (.aload_n 0, 1) := by decide +kernel
theorem dX1_covers_46 : decode cX1_covers 46 = .ok (.getfield 23, 3) := by decide +kernel
theorem dX1_covers_49 : decode cX1_covers 49 = .ok (.iload_n 1, 1) := by decide +kernel
theorem dX1_covers_50 : decode cX1_covers 50 = .ok (.laload, 1) := by decide +kernel
theorem dX1_covers_51 : decode cX1_covers 51 = .ok (.iload_n 3, 1) := by decide +kernel
theorem dX1_covers_52 : decode cX1_covers 52 = .ok (.invokestatic 43, 3) := by decide +kernel
theorem dX1_covers_55 : decode cX1_covers 55 = .ok (.aload_n 0, 1) := by decide +kernel
theorem dX1_covers_56 : decode cX1_covers 56 = .ok (.getfield 26, 3) := by decide +kernel
theorem dX1_covers_59 : decode cX1_covers 59 = .ok (.aload_n 0, 1) := by decide +kernel
theorem dX1_covers_60 : decode cX1_covers 60 = .ok (.getfield 32, 3) := by decide +kernel
theorem dX1_covers_63 : decode cX1_covers 63 = .ok (.aload_n 0, 1) := by decide +kernel
theorem dX1_covers_64 : decode cX1_covers 64 = .ok (.getfield 36, 3) := by decide +kernel
theorem dX1_covers_67 : decode cX1_covers 67 = .ok (.iload_n 3, 1) := by decide +kernel
theorem dX1_covers_68 : decode cX1_covers 68 = .ok (.invokestatic 43, 3) := by decide +kernel
theorem dX1_covers_71 : decode cX1_covers 71 = .ok (.if_icmp .ne 7, 3) := by decide +kernel
theorem dX1_covers_74 : decode cX1_covers 74 = .ok (.iconst 1, 1) := by decide +kernel
theorem dX1_covers_75 : decode cX1_covers 75 = .ok (.goto 4, 3) := by decide +kernel
theorem dX1_covers_78 : decode cX1_covers 78 = .ok (.iconst 0, 1) := by decide +kernel
theorem dX1_covers_79 : decode cX1_covers 79 = .ok (.istore_n 2, 1) := by decide +kernel
theorem dX1_covers_80 : decode cX1_covers 80 = .ok (.iinc 3 1, 3) := by decide +kernel
theorem dX1_covers_83 : decode cX1_covers 83 = .ok (.goto (-62), 3) := by decide +kernel
theorem dX1_covers_86 : decode cX1_covers 86 = .ok (.iload_n 2, 1) := by decide +kernel
theorem dX1_covers_87 : decode cX1_covers 87 = .ok (.ireturn, 1) := by decide +kernel
theorem dX1_longest_0 : decode cX1_longest 0 = .ok (.iconst (-1), 1) := by decide +kernel
theorem dX1_longest_1 : decode cX1_longest 1 = .ok (.istore_n 1, 1) := by decide +kernel
theorem dX1_longest_2 : decode cX1_longest 2 = .ok (.iconst 0, 1) := by decide +kernel
theorem dX1_longest_3 : decode cX1_longest 3 = .ok (.istore_n 2, 1) := by decide +kernel
theorem dX1_longest_4 : decode cX1_longest 4 = .ok (.iload_n 2, 1) := by decide +kernel
theorem dX1_longest_5 : decode cX1_longest 5 = .ok (.aload_n 0, 1) := by decide +kernel
theorem dX1_longest_6 : decode cX1_longest 6 = .ok (.getfield 47, 3) := by decide +kernel
theorem dX1_longest_9 : decode cX1_longest 9 = .ok (.if_icmp .ge 38, 3) := by decide +kernel
theorem dX1_longest_12 : decode cX1_longest 12 = .ok (.aload_n 0, 1) := by decide +kernel
theorem dX1_longest_13 : decode cX1_longest 13 = .ok (.iload_n 2, 1) := by decide +kernel
theorem dX1_longest_14 : decode cX1_longest 14 = .ok (.invokevirtual 58, 3) := by decide +kernel
theorem dX1_longest_17 : decode cX1_longest 17 = .ok (.ifCond .eq 22, 3) := by decide +kernel
theorem dX1_longest_20 : decode cX1_longest 20 = .ok (.aload_n 0, 1) := by decide +kernel
theorem dX1_longest_21 : decode cX1_longest 21 = .ok (.getfield 13, 3) := by decide +kernel
theorem dX1_longest_24 : decode cX1_longest 24 = .ok (.iload_n 2, 1) := by decide +kernel
theorem dX1_longest_25 : decode cX1_longest 25 = .ok (.iaload, 1) := by decide +kernel
theorem dX1_longest_26 : decode cX1_longest 26 = .ok (.iload_n 1, 1) := by decide +kernel
theorem dX1_longest_27 : decode cX1_longest 27 = .ok (.if_icmp .le 12, 3) := by decide +kernel
theorem dX1_longest_30 : decode cX1_longest 30 = .ok (.aload_n 0, 1) := by decide +kernel
theorem dX1_longest_31 : decode cX1_longest 31 = .ok (.getfield 13, 3) := by decide +kernel
theorem dX1_longest_34 : decode cX1_longest 34 = .ok (.iload_n 2, 1) := by decide +kernel
theorem dX1_longest_35 : decode cX1_longest 35 = .ok (.iaload, 1) := by decide +kernel
theorem dX1_longest_36 : decode cX1_longest 36 = .ok (.goto 4, 3) := by decide +kernel
theorem dX1_longest_39 : decode cX1_longest 39 = .ok (.iload_n 1, 1) := by decide +kernel
theorem dX1_longest_40 : decode cX1_longest 40 = .ok (.istore_n 1, 1) := by decide +kernel
theorem dX1_longest_41 : decode cX1_longest 41 = .ok (.iinc 2 1, 3) := by decide +kernel
theorem dX1_longest_44 : decode cX1_longest 44 = .ok (.goto (-40), 3) := by decide +kernel
theorem dX1_longest_47 : decode cX1_longest 47 = .ok (.iload_n 1, 1) := by decide +kernel
theorem dX1_longest_48 : decode cX1_longest 48 = .ok (.ireturn, 1) := by decide +kernel
theorem dX1_covering_0 : decode cX1_covering 0 = .ok (.iconst 0, 1) := by decide +kernel
theorem dX1_covering_1 : decode cX1_covering 1 = .ok (.istore_n 1, 1) := by decide +kernel
theorem dX1_covering_2 : decode cX1_covering 2 = .ok (.iconst 0, 1) := by decide +kernel
theorem dX1_covering_3 : decode cX1_covering 3 = .ok (.istore_n 2, 1) := by decide +kernel
theorem dX1_covering_4 : decode cX1_covering 4 = .ok (.iload_n 2, 1) := by decide +kernel
theorem dX1_covering_5 : decode cX1_covering 5 = .ok (.aload_n 0, 1) := by decide +kernel
theorem dX1_covering_6 : decode cX1_covering 6 = .ok (.getfield 47, 3) := by decide +kernel
theorem dX1_covering_9 : decode cX1_covering 9 = .ok (.if_icmp .ge 25, 3) := by decide +kernel
theorem dX1_covering_12 : decode cX1_covering 12 = .ok (.iload_n 1, 1) := by decide +kernel
theorem dX1_covering_13 : decode cX1_covering 13 = .ok (.aload_n 0, 1) := by decide +kernel
theorem dX1_covering_14 : decode cX1_covering 14 = .ok (.iload_n 2, 1) := by decide +kernel
theorem dX1_covering_15 : decode cX1_covering 15 = .ok (.invokevirtual 58, 3) := by decide +kernel
theorem dX1_covering_18 : decode cX1_covering 18 = .ok (.ifCond .eq 7, 3) := by decide +kernel
theorem dX1_covering_21 : decode cX1_covering 21 = .ok (.iconst 1, 1) := by decide +kernel
theorem dX1_covering_22 : decode cX1_covering 22 = .ok (.goto 4, 3) := by decide +kernel
theorem dX1_covering_25 : decode cX1_covering 25 = .ok (.iconst 0, 1) := by decide +kernel
theorem dX1_covering_26 : decode cX1_covering 26 = .ok (.iadd, 1) := by decide +kernel
theorem dX1_covering_27 : decode cX1_covering 27 = .ok (.istore_n 1, 1) := by decide +kernel
theorem dX1_covering_28 : decode cX1_covering 28 = .ok (.iinc 2 1, 3) := by decide +kernel
theorem dX1_covering_31 : decode cX1_covering 31 = .ok (.goto (-27), 3) := by decide +kernel
theorem dX1_covering_34 : decode cX1_covering 34 = .ok (.iload_n 1, 1) := by decide +kernel
theorem dX1_covering_35 : decode cX1_covering 35 = .ok (.ireturn, 1) := by decide +kernel
theorem dX1_compare_0 : decode cX1_compare 0 = .ok (.lload_n 0, 1) := by decide +kernel
theorem dX1_compare_1 : decode cX1_compare 1 = .ok (.ldc2_w 61, 3) := by decide +kernel
theorem dX1_compare_4 : decode cX1_compare 4 = .ok (.lxor, 1) := by decide +kernel
theorem dX1_compare_5 : decode cX1_compare 5 = .ok (.lstore 4, 2) := by decide +kernel
theorem dX1_compare_7 : decode cX1_compare 7 = .ok (.lload_n 2, 1) := by decide +kernel
theorem dX1_compare_8 : decode cX1_compare 8 = .ok (.ldc2_w 61, 3) := by decide +kernel
theorem dX1_compare_11 : decode cX1_compare 11 = .ok (.lxor, 1) := by decide +kernel
theorem dX1_compare_12 : decode cX1_compare 12 = .ok (.lstore 6, 2) := by decide +kernel
theorem dX1_compare_14 : decode cX1_compare 14 = .ok (.lload 4, 2) := by decide +kernel
theorem dX1_compare_16 : decode cX1_compare 16 = .ok (.lload 6, 2) := by decide +kernel
theorem dX1_compare_18 : decode cX1_compare 18 = .ok (.lcmp, 1) := by decide +kernel
theorem dX1_compare_19 : decode cX1_compare 19 = .ok (.ifCond .ge 7, 3) := by decide +kernel
theorem dX1_compare_22 : decode cX1_compare 22 = .ok (.iconst (-1), 1) := by decide +kernel
theorem dX1_compare_23 : decode cX1_compare 23 = .ok (.goto 16, 3) := by decide +kernel
theorem dX1_compare_26 : decode cX1_compare 26 = .ok (.lload 4, 2) := by decide +kernel
theorem dX1_compare_28 : decode cX1_compare 28 = .ok (.lload 6, 2) := by decide +kernel
theorem dX1_compare_30 : decode cX1_compare 30 = .ok (.lcmp, 1) := by decide +kernel
theorem dX1_compare_31 : decode cX1_compare 31 = .ok (.ifCond .le 7, 3) := by decide +kernel
theorem dX1_compare_34 : decode cX1_compare 34 = .ok (.iconst 1, 1) := by decide +kernel
theorem dX1_compare_35 : decode cX1_compare 35 = .ok (.goto 4, 3) := by decide +kernel
theorem dX1_compare_38 : decode cX1_compare 38 = .ok (.iconst 0, 1) := by decide +kernel
theorem dX1_compare_39 : decode cX1_compare 39 = .ok (.ireturn, 1) := by decide +kernel
theorem dX1_isAhead_0 : decode cX1_isAhead 0 = .ok (.aload_n 0, 1) := by decide +kernel
theorem dX1_isAhead_1 : decode cX1_isAhead 1 = .ok (.getfield 7, 3) := by decide +kernel
theorem dX1_isAhead_4 : decode cX1_isAhead 4 = .ok (.iload_n 1, 1) := by decide +kernel
theorem dX1_isAhead_5 : decode cX1_isAhead 5 = .ok (.iaload, 1) := by decide +kernel
theorem dX1_isAhead_6 : decode cX1_isAhead 6 = .ok (.iload_n 2, 1) := by decide +kernel
theorem dX1_isAhead_7 : decode cX1_isAhead 7 = .ok (.if_icmp .eq 19, 3) := by decide +kernel
theorem dX1_isAhead_10 : decode cX1_isAhead 10 = .ok (.aload_n 0, 1) := by decide +kernel
theorem dX1_isAhead_11 : decode cX1_isAhead 11 = .ok (.getfield 7, 3) := by decide +kernel
theorem dX1_isAhead_14 : decode cX1_isAhead 14 = .ok (.iload_n 1, 1) := by decide +kernel
theorem dX1_isAhead_15 : decode cX1_isAhead 15 = .ok (.iaload, 1) := by decide +kernel
theorem dX1_isAhead_16 : decode cX1_isAhead 16 = .ok (.iload_n 2, 1) := by decide +kernel
theorem dX1_isAhead_17 : decode cX1_isAhead 17 = .ok (.if_icmp .ge 7, 3) := by decide +kernel
theorem dX1_isAhead_20 : decode cX1_isAhead 20 = .ok (.iconst 1, 1) := by decide +kernel
theorem dX1_isAhead_21 : decode cX1_isAhead 21 = .ok (.goto 4, 3) := by decide +kernel
theorem dX1_isAhead_24 : decode cX1_isAhead 24 = .ok (.iconst 0, 1) := by decide +kernel
theorem dX1_isAhead_25 : decode cX1_isAhead 25 = .ok (.ireturn, 1) := by decide +kernel
theorem dX1_isAhead_26 : decode cX1_isAhead 26 = .ok (.aload_n 0, 1) := by decide +kernel
theorem dX1_isAhead_27 : decode cX1_isAhead 27 = .ok (.getfield 19, 3) := by decide +kernel
theorem dX1_isAhead_30 : decode cX1_isAhead 30 = .ok (.iload_n 1, 1) := by decide +kernel
theorem dX1_isAhead_31 : decode cX1_isAhead 31 = .ok (.laload, 1) := by decide +kernel
theorem dX1_isAhead_32 : decode cX1_isAhead 32 = .ok (.lload_n 3, 1) := by decide +kernel
theorem dX1_isAhead_33 : decode cX1_isAhead 33 = .ok (.invokestatic 63, 3) := by decide +kernel
theorem dX1_isAhead_36 : decode cX1_isAhead 36 = .ok (.istore 8, 2) := by decide +kernel
theorem dX1_isAhead_38 : decode cX1_isAhead 38 = .ok (.iload 8, 2) := by decide +kernel
theorem dX1_isAhead_40 : decode cX1_isAhead 40 = .ok (.ifCond .ne 17, 3) := by decide +kernel
theorem dX1_isAhead_43 : decode cX1_isAhead 43 = .ok (.aload_n 0, 1) := by decide +kernel
theorem dX1_isAhead_44 : decode cX1_isAhead 44 = .ok (.getfield 23, 3) := by decide +kernel
theorem dX1_isAhead_47 : decode cX1_isAhead 47 = .ok (.iload_n 1, 1) := by decide +kernel
theorem dX1_isAhead_48 : decode cX1_isAhead 48 = .ok (.laload, 1) := by decide +kernel
theorem dX1_isAhead_49 : decode cX1_isAhead 49 = .ok (.lload 5, 2) := by decide +kernel
theorem dX1_isAhead_51 : decode cX1_isAhead 51 = .ok (.invokestatic 63, 3) := by decide +kernel
theorem dX1_isAhead_54 : decode cX1_isAhead 54 = .ok (.goto 5, 3) := by decide +kernel
theorem dX1_isAhead_57 : decode cX1_isAhead 57 = .ok (.iload 8, 2) := by decide +kernel
theorem dX1_isAhead_59 : decode cX1_isAhead 59 = .ok (.istore 9, 2) := by decide +kernel
theorem dX1_isAhead_61 : decode cX1_isAhead 61 = .ok (.iload 9, 2) := by decide +kernel
theorem dX1_isAhead_63 : decode cX1_isAhead 63 = .ok (.ifCond .lt 19, 3) := by decide +kernel
