theorem dX0_init_0 : decode cX0_init 0 = .ok (.aload_n 0, 1) := by decide +kernel
theorem dX0_init_1 : decode cX0_init 1 = .ok (.invokespecial 3, 3) := by decide +kernel
theorem dX0_init_4 : decode cX0_init 4 = .ok (.aload_n 0, 1) := by decide +kernel
theorem dX0_init_5 : decode cX0_init 5 = .ok (.sipush 1000, 3) := by decide +kernel
theorem dX0_init_8 : decode cX0_init 8 = .ok (.newarray .int, 2) := by decide +kernel
theorem dX0_init_10 : decode cX0_init 10 = .ok (.putfield 9, 3) := by decide +kernel
theorem dX0_init_13 : decode cX0_init 13 = .ok (.aload_n 0, 1) := by decide +kernel
theorem dX0_init_14 : decode cX0_init 14 = .ok (.sipush 1000, 3) := by decide +kernel
theorem dX0_init_17 : decode cX0_init 17 = .ok (.newarray .long, 2) := by decide +kernel
theorem dX0_init_19 : decode cX0_init 19 = .ok (.putfield 13, 3) := by decide +kernel
theorem dX0_init_22 : decode cX0_init 22 = .ok (.aload_n 0, 1) := by decide +kernel
theorem dX0_init_23 : decode cX0_init 23 = .ok (.sipush 1000, 3) := by decide +kernel
theorem dX0_init_26 : decode cX0_init 26 = .ok (.newarray .long, 2) := by decide +kernel
theorem dX0_init_28 : decode cX0_init 28 = .ok (.putfield 17, 3) := by decide +kernel
theorem dX0_init_31 : decode cX0_init 31 = .ok (.aload_n 0, 1) := by decide +kernel
theorem dX0_init_32 : decode cX0_init 32 = .ok (.sipush 1000, 3) := by decide +kernel
theorem dX0_init_35 : decode cX0_init 35 = .ok (.newarray .int, 2) := by decide +kernel
theorem dX0_init_37 : decode cX0_init 37 = .ok (.putfield 20, 3) := by decide +kernel
theorem dX0_init_40 : decode cX0_init 40 = .ok (.aload_n 0, 1) := by decide +kernel
theorem dX0_init_41 : decode cX0_init 41 = .ok (.sipush 1000, 3) := by decide +kernel
theorem dX0_init_44 : decode cX0_init 44 = .ok (.newarray .int, 2) := by decide +kernel
theorem dX0_init_46 : decode cX0_init 46 = .ok (.putfield 23, 3) := by decide +kernel
theorem dX0_init_49 : decode cX0_init 49 = .ok (.aload_n 0, 1) := by decide +kernel
theorem dX0_init_50 : decode cX0_init 50 = .ok (.iconst 0, 1) := by decide +kernel
theorem dX0_init_51 : decode cX0_init 51 = .ok (.putfield 26, 3) := by decide +kernel
theorem dX0_init_54 : decode cX0_init 54 = .ok (.aload_n 0, 1) := by decide +kernel
theorem dX0_init_55 : decode cX0_init 55 = .ok (.iconst 4, 1) := by decide +kernel
theorem dX0_init_56 : decode cX0_init 56 = .ok (.putfield 30, 3) := by decide +kernel
theorem dX0_init_59 : decode cX0_init 59 = .ok (.aload_n 0, 1) := by decide +kernel
theorem dX0_init_60 : decode cX0_init 60 = .ok (.lconst 0, 1) := by decide +kernel
theorem dX0_init_61 : decode cX0_init 61 = .ok (.putfield 33, 3) := by decide +kernel
theorem dX0_init_64 : decode cX0_init 64 = .ok (.aload_n 0, 1) := by decide +kernel
theorem dX0_init_65 : decode cX0_init 65 = .ok (.lconst 0, 1) := by decide +kernel
theorem dX0_init_66 : decode cX0_init 66 = .ok (.putfield 37, 3) := by decide +kernel
theorem dX0_init_69 : decode cX0_init 69 = .ok (.return_, 1) := by decide +kernel
theorem dX0_address_0 : decode cX0_address 0 = .ok (.iload_n 1, 1) := by decide +kernel
theorem dX0_address_1 : decode cX0_address 1 = .ok (.lload_n 2, 1) := by decide +kernel
theorem dX0_address_2 : decode cX0_address 2 = .ok (.lload 4, 2) := by decide +kernel
theorem dX0_address_4 : decode cX0_address 4 = .ok (.invokestatic 40, 3) := by decide +kernel
theorem dX0_address_7 : decode cX0_address 7 = .ok (.ifCond .ne 5, 3) := by decide +kernel
theorem dX0_address_10 : decode cX0_address 10 = .ok (.iconst 0, 1) := by decide +kernel
theorem dX0_address_11 : decode cX0_address 11 = .ok (.ireturn, 1) := by decide +kernel
theorem dX0_address_12 : decode cX0_address 12 = .ok (.aload_n 0, 1) := by decide +kernel
theorem dX0_address_13 : decode cX0_address 13 = .ok (.iload_n 1, 1) := by decide +kernel
theorem dX0_address_14 : decode cX0_address 14 = .ok (.lload_n 2, 1) := by decide +kernel
theorem dX0_address_15 : decode cX0_address 15 = .ok (.lload 4, 2) := by decide +kernel
theorem dX0_address_17 : decode cX0_address 17 = .ok (.invokevirtual 44, 3) := by decide +kernel
theorem dX0_address_20 : decode cX0_address 20 = .ok (.iconst 1, 1) := by decide +kernel
theorem dX0_address_21 : decode cX0_address 21 = .ok (.ireturn, 1) := by decide +kernel
theorem dX0_put_0 : decode cX0_put 0 = .ok (.aload_n 0, 1) := by decide +kernel
theorem dX0_put_1 : decode cX0_put 1 = .ok (.iload_n 1, 1) := by decide +kernel
theorem dX0_put_2 : decode cX0_put 2 = .ok (.invokevirtual 48, 3) := by decide +kernel
theorem dX0_put_5 : decode cX0_put 5 = .ok (.ifCond .ne 5, 3) := by decide +kernel
theorem dX0_put_8 : decode cX0_put 8 = .ok (.iconst (-1), 1) := by decide +kernel
theorem dX0_put_9 : decode cX0_put 9 = .ok (.ireturn, 1) := by decide +kernel
theorem dX0_put_10 : decode cX0_put 10 = .ok (.aload_n 0, 1) := by decide +kernel
theorem dX0_put_11 : decode cX0_put 11 = .ok (.iload_n 1, 1) := by decide +kernel
theorem dX0_put_12 : decode cX0_put 12 = .ok (.invokevirtual 52, 3) := by decide +kernel
theorem dX0_put_15 : decode cX0_put 15 = .ok (.istore_n 3, 1) := by decide +kernel
theorem dX0_put_16 : decode cX0_put 16 = .ok (.aload_n 0, 1) := by decide +kernel
theorem dX0_put_17 : decode cX0_put 17 = .ok (.iload_n 3, 1) := by decide +kernel
theorem dX0_put_18 : decode cX0_put 18 = .ok (.iload_n 1, 1) := by decide +kernel
theorem dX0_put_19 : decode cX0_put 19 = .ok (.invokevirtual 56, 3) := by decide +kernel
theorem dX0_put_22 : decode cX0_put 22 = .ok (.ifCond .eq 12, 3) := by decide +kernel
theorem dX0_put_25 : decode cX0_put 25 = .ok (.aload_n 0, 1) := by decide +kernel
theorem dX0_put_26 : decode cX0_put 26 = .ok (.getfield 23, 3) := by decide +kernel
theorem dX0_put_29 : decode cX0_put 29 = .ok (.iload_n 3, 1) := by decide +kernel
theorem dX0_put_30 : decode cX0_put 30 = .ok (.iload_n 2, 1) := by decide +kernel
theorem dX0_put_31 : decode cX0_put 31 = .ok (.iastore, 1) := by decide +kernel
theorem dX0_put_32 : decode cX0_put 32 = .ok (.iconst 0, 1) := by decide +kernel
theorem dX0_put_33 : decode cX0_put 33 = .ok (.ireturn, 1) := by decide +kernel
theorem dX0_put_34 : decode cX0_put 34 = .ok (.aload_n 0, 1) := by decide +kernel
theorem dX0_put_35 : decode cX0_put 35 = .ok (.getfield 26, 3) := by decide +kernel
theorem dX0_put_38 : decode cX0_put 38 = .ok (.sipush 1000, 3) := by decide +kernel
theorem dX0_put_41 : decode cX0_put 41 = .ok (.if_icmp .lt 5, 3) := by decide +kernel
theorem dX0_put_44 : decode cX0_put 44 = .ok (.iconst (-1), 1) := by decide +kernel
theorem dX0_put_45 : decode cX0_put 45 = .ok (.ireturn, 1) := by decide +kernel
theorem dX0_put_46 : decode cX0_put 46 = .ok (.aload_n 0, 1) := by decide +kernel
theorem dX0_put_47 : decode cX0_put 47 = .ok (.iload_n 3, 1) := by decide +kernel
theorem dX0_put_48 : decode cX0_put 48 = .ok (.invokevirtual 60, 3) := by decide +kernel
theorem dX0_put_51 : decode cX0_put 51 = .ok (.aload_n 0, 1) := by decide +kernel
theorem dX0_put_52 : decode cX0_put 52 = .ok (.iload_n 3, 1) := by decide +kernel
theorem dX0_put_53 : decode cX0_put 53 = .ok (.iload_n 1, 1) := by decide +kernel
theorem dX0_put_54 : decode cX0_put 54 = .ok (.iload_n 2, 1) := by decide +kernel
theorem dX0_put_55 : decode cX0_put 55 = .ok (.invokevirtual 64, 3) := by decide +kernel
theorem dX0_put_58 : decode cX0_put 58 = .ok (.iconst 1, 1) := by decide +kernel
theorem dX0_put_59 : decode cX0_put 59 = .ok (.ireturn, 1) := by decide +kernel
theorem dX0_remove_0 : decode cX0_remove 0 = .ok (.aload_n 0, 1) := by decide +kernel
theorem dX0_remove_1 : decode cX0_remove 1 = .ok (.iload_n 1, 1) := by decide +kernel
theorem dX0_remove_2 : decode cX0_remove 2 = .ok (.invokevirtual 48, 3) := by decide +kernel
theorem dX0_remove_5 : decode cX0_remove 5 = .ok (.ifCond .ne 5, 3) := by decide +kernel
theorem dX0_remove_8 : decode cX0_remove 8 = .ok (.iconst (-1), 1) := by decide +kernel
theorem dX0_remove_9 : decode cX0_remove 9 = .ok (.ireturn, 1) := by decide +kernel
theorem dX0_remove_10 : decode cX0_remove 10 = .ok (.aload_n 0, 1) := by decide +kernel
theorem dX0_remove_11 : decode cX0_remove 11 = .ok (.iload_n 1, 1) := by decide +kernel
theorem dX0_remove_12 : decode cX0_remove 12 = .ok (.invokevirtual 52, 3) := by decide +kernel
theorem dX0_remove_15 : decode cX0_remove 15 = .ok (.istore_n 2, 1) := by decide +kernel
theorem dX0_remove_16 : decode cX0_remove 16 = .ok (.aload_n 0, 1) := by decide +kernel
theorem dX0_remove_17 : decode cX0_remove 17 = .ok (.iload_n 2, 1) := by decide +kernel
theorem dX0_remove_18 : decode cX0_remove 18 = .ok (.iload_n 1, 1) := by decide +kernel
theorem dX0_remove_19 : decode cX0_remove 19 = .ok (.invokevirtual 56, 3) := by decide +kernel
theorem dX0_remove_22 : decode cX0_remove 22 = .ok (.ifCond .ne 5, 3) := by decide +kernel
theorem dX0_remove_25 : decode cX0_remove 25 = .ok (.iconst 0, 1) := by decide +kernel
theorem dX0_remove_26 : decode cX0_remove 26 = .ok (.ireturn, 1) := by decide +kernel
theorem dX0_remove_27 : decode cX0_remove 27 = .ok (.aload_n 0, 1) := by decide +kernel
theorem dX0_remove_28 : decode cX0_remove 28 = .ok (.iload_n 2, 1) := by decide +kernel
theorem dX0_remove_29 : decode cX0_remove 29 = .ok (.invokevirtual 68, 3) := by decide +kernel
theorem dX0_remove_32 : decode cX0_remove 32 = .ok (.iconst 1, 1) := by decide +kernel
theorem dX0_remove_33 : decode cX0_remove 33 = .ok (.ireturn, 1) := by decide +kernel
theorem dX0_number_0 : decode cX0_number 0 = .ok (.aload_n 0, 1) := by decide +kernel
theorem dX0_number_1 : decode cX0_number 1 = .ok (.iload_n 1, 1) := by decide +kernel
theorem dX0_number_2 : decode cX0_number 2 = .ok (.invokevirtual 52, 3) := by decide +kernel
theorem dX0_number_5 : decode cX0_number 5 = .ok (.istore_n 2, 1) := by decide +kernel
theorem dX0_number_6 : decode cX0_number 6 = .ok (.aload_n 0, 1) := by decide +kernel
theorem dX0_number_7 : decode cX0_number 7 = .ok (.iload_n 2, 1) := by decide +kernel
theorem dX0_number_8 : decode cX0_number 8 = .ok (.iload_n 1, 1) := by decide +kernel
theorem dX0_number_9 : decode cX0_number 9 = .ok (.invokevirtual 56, 3) := by decide +kernel
theorem dX0_number_12 : decode cX0_number 12 = .ok (.ifCond .eq 12, 3) := by decide +kernel
theorem dX0_number_15 : decode cX0_number 15 = .ok (.aload_n 0, 1) := by decide +kernel
theorem dX0_number_16 : decode cX0_number 16 = .ok (.getfield 23, 3) := by decide +kernel
theorem dX0_number_19 : decode cX0_number 19 = .ok (.iload_n 2, 1) := by decide +kernel
theorem dX0_number_20 : decode cX0_number 20 = .ok (.iaload, 1) := by decide +kernel
theorem dX0_number_21 : decode cX0_number 21 = .ok (.goto 5, 3) := by decide +kernel
theorem dX0_number_24 : decode cX0_number 24 = .ok (.ldc 71, 2) := by decide +kernel
theorem dX0_number_26 : decode cX0_number 26 = .ok (.ireturn, 1) := by decide +kernel
theorem dX0_longest_0 : decode cX0_longest 0 = .ok (.iconst (-1), 1) := by decide +kernel
theorem dX0_longest_1 : decode cX0_longest 1 = .ok (.istore_n 1, 1) := by decide +kernel
theorem dX0_longest_2 : decode cX0_longest 2 = .ok (.iconst 0, 1) := by decide +kernel
theorem dX0_longest_3 : decode cX0_longest 3 = .ok (.istore_n 2, 1) := by decide +kernel
theorem dX0_longest_4 : decode cX0_longest 4 = .ok (.iload_n 2, 1) := by decide +kernel
theorem dX0_longest_5 : decode cX0_longest 5 = .ok (.aload_n 0, 1) := by decide +kernel
theorem dX0_longest_6 : decode cX0_longest 6 = .ok (.getfield 26, 3) := by decide +kernel
theorem dX0_longest_9 : decode cX0_longest 9 = .ok (.if_icmp .ge 34, 3) := by decide +kernel
theorem dX0_longest_12 : decode cX0_longest 12 = .ok (.aload_n 0, 1) := by decide +kernel
theorem dX0_longest_13 : decode cX0_longest 13 = .ok (.iload_n 2, 1) := by decide +kernel
theorem dX0_longest_14 : decode cX0_longest 14 = .ok (.invokevirtual 72, 3) := by decide +kernel
theorem dX0_longest_17 : decode cX0_longest 17 = .ok (.ifCond .eq 20, 3) := by decide +kernel
theorem dX0_longest_20 : decode cX0_longest 20 = .ok (.aload_n 0, 1) := by decide +kernel
theorem dX0_longest_21 : decode cX0_longest 21 = .ok (.getfield 20, 3) := by decide +kernel
theorem dX0_longest_24 : decode cX0_longest 24 = .ok (.iload_n 2, 1) := by decide +kernel
theorem dX0_longest_25 : decode cX0_longest 25 = .ok (.iaload, 1) := by decide +kernel
theorem dX0_longest_26 : decode cX0_longest 26 = .ok (.iload_n 1, 1) := by decide +kernel
theorem dX0_longest_27 : decode cX0_longest 27 = .ok (.if_icmp .le 10, 3) := by decide +kernel
theorem dX0_longest_30 : decode cX0_longest 30 = .ok (.aload_n 0, 1) := by decide +kernel
theorem dX0_longest_31 : decode cX0_longest 31 = .ok (.getfield 20, 3) := by decide +kernel
theorem dX0_longest_34 : decode cX0_longest 34 = .ok (.iload_n 2, 1) := by decide +kernel
theorem dX0_longest_35 : decode cX0_longest 35 = .ok (.iaload, 1) := by decide +kernel
theorem dX0_longest_36 : decode cX0_longest 36 = .ok (.istore_n 1, 1) := by decide +kernel
theorem dX0_longest_37 : decode cX0_longest 37 = .ok (.iinc 2 1, 3) := by decide +kernel
theorem dX0_longest_40 : decode cX0_longest 40 = .ok (.goto (-36), 3) := by decide +kernel
theorem dX0_longest_43 : decode cX0_longest 43 = .ok (.iload_n 1, 1) := by decide +kernel
theorem dX0_longest_44 : decode cX0_longest 44 = .ok (.ireturn, 1) := by decide +kernel
theorem dX0_covering_0 : decode cX0_covering 0 = .ok (.iconst 0, 1) := by decide +kernel
theorem dX0_covering_1 : decode cX0_covering 1 = .ok (.istore_n 1, 1) := by decide +kernel
theorem dX0_covering_2 : decode cX0_covering 2 = .ok (.iconst 0, 1) := by decide +kernel
theorem dX0_covering_3 : decode cX0_covering 3 = .ok (.istore_n 2, 1) := by decide +kernel
theorem dX0_covering_4 : decode cX0_covering 4 = .ok (.iload_n 2, 1) := by decide +kernel
theorem dX0_covering_5 : decode cX0_covering 5 = .ok (.aload_n 0, 1) := by decide +kernel
theorem dX0_covering_6 : decode cX0_covering 6 = .ok (.getfield 26, 3) := by decide +kernel
theorem dX0_covering_9 : decode cX0_covering 9 = .ok (.if_icmp .ge 20, 3) := by decide +kernel
theorem dX0_covering_12 : decode cX0_covering 12 = .ok (.aload_n 0, 1) := by decide +kernel
theorem dX0_covering_13 : decode cX0_covering 13 = .ok (.iload_n 2, 1) := by decide +kernel
theorem dX0_covering_14 : decode cX0_covering 14 = .ok (.invokevirtual 72, 3) := by decide +kernel
theorem dX0_covering_17 : decode cX0_covering 17 = .ok (.ifCond .eq 6, 3) := by decide +kernel
theorem dX0_covering_20 : decode cX0_covering 20 = .ok (.iinc 1 1, 3) := by decide +kernel
theorem dX0_covering_23 : decode cX0_covering 23 = .ok (.iinc 2 1, 3) := by decide +kernel
theorem dX0_covering_26 : decode cX0_covering 26 = .ok (.goto (-22), 3) := by decide +kernel
theorem dX0_covering_29 : decode cX0_covering 29 = .ok (.iload_n 1, 1) := by decide +kernel
theorem dX0_covering_30 : decode cX0_covering 30 = .ok (.ireturn, 1) := by decide +kernel
theorem dX0_ahead_0 : decode cX0_ahead 0 = .ok (.aload_n 0, 1) := by decide +kernel
theorem dX0_ahead_1 : decode cX0_ahead 1 = .ok (.iload_n 1, 1) := by decide +kernel
theorem dX0_ahead_2 : decode cX0_ahead 2 = .ok (.invokevirtual 75, 3) := by decide +kernel
theorem dX0_ahead_5 : decode cX0_ahead 5 = .ok (.ifCond .eq 11, 3) := by decide +kernel
theorem dX0_ahead_8 : decode cX0_ahead 8 = .ok (.aload_n 0, 1) := by decide +kernel
theorem dX0_ahead_9 : decode cX0_ahead 9 = .ok (.iload_n 1, 1) := by decide +kernel
theorem dX0_ahead_10 : decode cX0_ahead 10 = .ok (.invokevirtual 52, 3) := by decide +kernel
theorem dX0_ahead_13 : decode cX0_ahead 13 = .ok (.goto 4, 3) := by decide +kernel
theorem dX0_ahead_16 : decode cX0_ahead 16 = .ok (.iconst (-1), 1) := by decide +kernel
theorem dX0_ahead_17 : decode cX0_ahead 17 = .ok (.ireturn, 1) := by decide +kernel
theorem dX0_at_0 : decode cX0_at 0 = .ok (.iload_n 1, 1) := by decide +kernel
theorem dX0_at_1 : decode cX0_at 1 = .ok (.ifCond .lt 11, 3) := by decide +kernel
theorem dX0_at_4 : decode cX0_at 4 = .ok (.iload_n 1, 1) := by decide +kernel
theorem dX0_at_5 : decode cX0_at 5 = .ok (.aload_n 0, 1) := by decide +kernel
theorem dX0_at_6 : decode cX0_at 6 = .ok (.getfield 26, 3) := by decide +kernel
theorem dX0_at_9 : decode cX0_at 9 = .ok (.if_icmp .lt 5, 3) := by decide +kernel
theorem dX0_at_12 : decode cX0_at 12 = .ok (.iconst (-1), 1) := by decide +kernel
theorem dX0_at_13 : decode cX0_at 13 = .ok (.ireturn, 1) := by decide +kernel
theorem dX0_at_14 : decode cX0_at 14 = .ok (.aload_n 0, 1) := by decide +kernel
theorem dX0_at_15 : decode cX0_at 15 = .ok (.aload_n 0, 1) := by decide +kernel
theorem dX0_at_16 : decode cX0_at 16 = .ok (.getfield 9, 3) := by decide +kernel
theorem dX0_at_19 : decode cX0_at 19 = .ok (.iload_n 1, 1) := by decide +kernel
theorem dX0_at_20 : decode cX0_at 20 = .ok (.iaload, 1) := by decide +kernel
theorem dX0_at_21 : decode cX0_at 21 = .ok (.aload_n 0, 1) := by decide +kernel
theorem dX0_at_22 : decode cX0_at 22 = .ok (.getfield 13, 3) := by decide +kernel
theorem dX0_at_25 : decode cX0_at 25 = .ok (.iload_n 1, 1) := by decide +kernel
theorem dX0_at_26 : decode cX0_at 26 = .ok (.laload, 1) := by decide +kernel
theorem dX0_at_27 : decode cX0_at 27 = .ok (.aload_n 0, 1) := by decide +kernel
theorem dX0_at_28 : decode cX0_at 28 = .ok (.getfield 17, 3) := by decide +kernel
theorem dX0_at_31 : decode cX0_at 31 = .ok (.iload_n 1, 1) := by decide +kernel
theorem dX0_at_32 : decode cX0_at 32 = .ok (.laload, 1) := by decide +kernel
theorem dX0_at_33 : decode cX0_at 33 = .ok (.invokevirtual 44, 3) := by decide +kernel
theorem dX0_at_36 : decode cX0_at 36 = .ok (.aload_n 0, 1) := by decide +kernel
theorem dX0_at_37 : decode cX0_at 37 = .ok (.getfield 20, 3) := by decide +kernel
theorem dX0_at_40 : decode cX0_at 40 = .ok (.iload_n 1, 1) := by decide +kernel
theorem dX0_at_41 : decode cX0_at 41 = .ok (.iaload, 1) := by decide +kernel
theorem dX0_at_42 : decode cX0_at 42 = .ok (.ireturn, 1) := by decide +kernel
theorem dX0_size_0 : decode cX0_size 0 = .ok (.aload_n 0, 1) := by decide +kernel
theorem dX0_size_1 : decode cX0_size 1 = .ok (.getfield 26, 3) := by decide +kernel
theorem dX0_size_4 : decode cX0_size 4 = .ok (.ireturn, 1) := by decide +kernel
theorem dX0_told_0 : decode cX0_told 0 = .ok (.iload_n 1, 1) := by decide +kernel
theorem dX0_told_1 : decode cX0_told 1 = .ok (.tableswitch 43 0 2 #[27, 33, 38], 27) := by decide +kernel
theorem dX0_told_28 : decode cX0_told 28 = .ok (.aload_n 0, 1) := by decide +kernel
theorem dX0_told_29 : decode cX0_told 29 = .ok (.getfield 30, 3) := by decide +kernel
theorem dX0_told_32 : decode cX0_told 32 = .ok (.i2l, 1) := by decide +kernel
theorem dX0_told_33 : decode cX0_told 33 = .ok (.lreturn, 1) := by decide +kernel
theorem dX0_told_34 : decode cX0_told 34 = .ok (.aload_n 0, 1) := by decide +kernel
theorem dX0_told_35 : decode cX0_told 35 = .ok (.getfield 33, 3) := by decide +kernel
theorem dX0_told_38 : decode cX0_told 38 = .ok (.lreturn, 1) := by decide +kernel
theorem dX0_told_39 : decode cX0_told 39 = .ok (.aload_n 0, 1) := by decide +kernel
theorem dX0_told_40 : decode cX0_told 40 = .ok (.getfield 37, 3) := by decide +kernel
theorem dX0_told_43 : decode cX0_told 43 = .ok (.lreturn, 1) := by decide +kernel
theorem dX0_told_44 : decode cX0_told 44 = .ok (.lconst 0, 1) := by decide +kernel
theorem dX0_told_45 : decode cX0_told 45 = .ok (.lreturn, 1) := by decide +kernel
theorem dX0_isAddress_0 : decode cX0_isAddress 0 = .ok (.iload_n 0, 1) := by decide +kernel
theorem dX0_isAddress_1 : decode cX0_isAddress 1 = .ok (.iconst 4, 1) := by decide +kernel
theorem dX0_isAddress_2 : decode cX0_isAddress 2 = .ok (.if_icmp .ne 29, 3) := by decide +kernel
theorem dX0_isAddress_5 : decode cX0_isAddress 5 = .ok (.lload_n 1, 1) := by decide +kernel
theorem dX0_isAddress_6 : decode cX0_isAddress 6 = .ok (.lconst 0, 1) := by decide +kernel
theorem dX0_isAddress_7 : decode cX0_isAddress 7 = .ok (.lcmp, 1) := by decide +kernel
theorem dX0_isAddress_8 : decode cX0_isAddress 8 = .ok (.ifCond .ne 21, 3) := by decide +kernel
theorem dX0_isAddress_11 : decode cX0_isAddress 11 = .ok (.lload_n 3, 1) := by decide +kernel
theorem dX0_isAddress_12 : decode cX0_isAddress 12 = .ok (.lconst 0, 1) := by decide +kernel
theorem dX0_isAddress_13 : decode cX0_isAddress 13 = .ok (.lcmp, 1) := by decide +kernel
theorem dX0_isAddress_14 : decode cX0_isAddress 14 = .ok (.ifCond .lt 15, 3) := by decide +kernel
theorem dX0_isAddress_17 : decode cX0_isAddress 17 = .ok (.lload_n 3, 1) := by decide +kernel
theorem dX0_isAddress_18 : decode cX0_isAddress 18 = .ok (.ldc2_w 78, 3) := by decide +kernel
theorem dX0_isAddress_21 : decode cX0_isAddress 21 = .ok (.lcmp, 1) := by decide +kernel
theorem dX0_isAddress_22 : decode cX0_isAddress 22 = .ok (.ifCond .ge 7, 3) := by decide +kernel
theorem dX0_isAddress_25 : decode cX0_isAddress 25 = .ok (.iconst 1, 1) := by decide +kernel
theorem dX0_isAddress_26 : decode cX0_isAddress 26 = .ok (.goto 4, 3) := by decide +kernel
theorem dX0_isAddress_29 : decode cX0_isAddress 29 = .ok (.iconst 0, 1) := by decide +kernel
theorem dX0_isAddress_30 : decode cX0_isAddress 30 = .ok (.ireturn, 1) := by decide +kernel
theorem dX0_isAddress_31 : decode cX0_isAddress 31 = .ok (.iload_n 0, 1) := by decide +kernel
theorem dX0_isAddress_32 : decode cX0_isAddress 32 = .ok (.bipush 6, 2) := by decide +kernel
theorem dX0_isAddress_34 : decode cX0_isAddress 34 = .ok (.if_icmp .ne 7, 3) := by decide +kernel
theorem dX0_isAddress_37 : decode cX0_isAddress 37 = .ok (.iconst 1, 1) := by decide +kernel
theorem dX0_isAddress_38 : decode cX0_isAddress 38 = .ok (.goto 4, 3) := by decide +kernel
theorem dX0_isAddress_41 : decode cX0_isAddress 41 = .ok (.iconst 0, 1) := by decide +kernel
theorem dX0_isAddress_42 : decode cX0_isAddress 42 = .ok (.ireturn, 1) := by decide +kernel
theorem dX0_mean_0 : decode cX0_mean 0 = .ok (.aload_n 0, 1) := by decide +kernel
theorem dX0_mean_1 : decode cX0_mean 1 = .ok (.iload_n 1, 1) := by decide +kernel
theorem dX0_mean_2 : decode cX0_mean 2 = .ok (.putfield 30, 3) := by decide +kernel
theorem dX0_mean_5 : decode cX0_mean 5 = .ok (.aload_n 0, 1) := by decide +kernel
theorem dX0_mean_6 : decode cX0_mean 6 = .ok (.lload_n 2, 1) := by decide +kernel
theorem dX0_mean_7 : decode cX0_mean 7 = .ok (.putfield 33, 3) := by decide +kernel
theorem dX0_mean_10 : decode cX0_mean 10 = .ok (.aload_n 0, 1) := by decide +kernel
theorem dX0_mean_11 : decode cX0_mean 11 = .ok (.lload 4, 2) := by decide +kernel
theorem dX0_mean_13 : decode cX0_mean 13 = .ok (.putfield 37, 3) := by decide +kernel
theorem dX0_mean_16 : decode cX0_mean 16 = .ok (.return_, 1) := by decide +kernel
theorem dX0_isLength_0 : decode cX0_isLength 0 = .ok (.aload_n 0, 1) := by decide +kernel
theorem dX0_isLength_1 : decode cX0_isLength 1 = .ok (.getfield 30, 3) := by decide +kernel
theorem dX0_isLength_4 : decode cX0_isLength 4 = .ok (.iconst 4, 1) := by decide +kernel
theorem dX0_isLength_5 : decode cX0_isLength 5 = .ok (.if_icmp .ne 8, 3) := by decide +kernel
theorem dX0_isLength_8 : decode cX0_isLength 8 = .ok (.bipush 32, 2) := by decide +kernel
theorem dX0_isLength_10 : decode cX0_isLength 10 = .ok (.goto 6, 3) := by decide +kernel
theorem dX0_isLength_13 : decode cX0_isLength 13 = .ok (.sipush 128, 3) := by decide +kernel
theorem dX0_isLength_16 : decode cX0_isLength 16 = .ok (.istore_n 2, 1) := by decide +kernel
theorem dX0_isLength_17 : decode cX0_isLength 17 = .ok (.iload_n 1, 1) := by decide +kernel
theorem dX0_isLength_18 : decode cX0_isLength 18 = .ok (.ifCond .lt 12, 3) := by decide +kernel
theorem dX0_isLength_21 : decode cX0_isLength 21 = .ok (.iload_n 1, 1) := by decide +kernel
theorem dX0_isLength_22 : decode cX0_isLength 22 = .ok (.iload_n 2, 1) := by decide +kernel
theorem dX0_isLength_23 : decode cX0_isLength 23 = .ok (.if_icmp .gt 7, 3) := by decide +kernel
theorem dX0_isLength_26 : decode cX0_isLength 26 = .ok (.iconst 1, 1) := by decide +kernel
theorem dX0_isLength_27 : decode cX0_isLength 27 = .ok (.goto 4, 3) := by decide +kernel
theorem dX0_isLength_30 : decode cX0_isLength 30 = .ok (.iconst 0, 1) := by decide +kernel
theorem dX0_isLength_31 : decode cX0_isLength 31 = .ok (.ireturn, 1) := by decide +kernel
theorem dX0_isPrefix_0 : decode cX0_isPrefix 0 = .ok (.aload_n 0, 1) := by decide +kernel
theorem dX0_isPrefix_1 : decode cX0_isPrefix 1 = .ok (.iload_n 1, 1) := by decide +kernel
theorem dX0_isPrefix_2 : decode cX0_isPrefix 2 = .ok (.invokevirtual 75, 3) := by decide +kernel
theorem dX0_isPrefix_5 : decode cX0_isPrefix 5 = .ok (.ifCond .ne 5, 3) := by decide +kernel
theorem dX0_isPrefix_8 : decode cX0_isPrefix 8 = .ok (.iconst 0, 1) := by decide +kernel
theorem dX0_isPrefix_9 : decode cX0_isPrefix 9 = .ok (.ireturn, 1) := by decide +kernel
theorem dX0_isPrefix_10 : decode cX0_isPrefix 10 = .ok (.aload_n 0, 1) := by decide +kernel
theorem dX0_isPrefix_11 : decode cX0_isPrefix 11 = .ok (.getfield 30, 3) := by decide +kernel
theorem dX0_isPrefix_14 : decode cX0_isPrefix 14 = .ok (.iload_n 1, 1) := by decide +kernel
theorem dX0_isPrefix_15 : decode cX0_isPrefix 15 = .ok (.invokestatic 80, 3) := by decide +kernel
theorem dX0_isPrefix_18 : decode cX0_isPrefix 18 = .ok (.istore_n 2, 1) := by decide +kernel
theorem dX0_isPrefix_19 : decode cX0_isPrefix 19 = .ok (.aload_n 0, 1) := by decide +kernel
theorem dX0_isPrefix_20 : decode cX0_isPrefix 20 = .ok (.getfield 33, 3) := by decide +kernel
theorem dX0_isPrefix_23 : decode cX0_isPrefix 23 = .ok (.iload_n 2, 1) := by decide +kernel
theorem dX0_isPrefix_24 : decode cX0_isPrefix 24 = .ok (.invokestatic 84, 3) := by decide +kernel
theorem dX0_isPrefix_27 : decode cX0_isPrefix 27 = .ok (.ldc2_w 88, 3) := by decide +kernel
theorem dX0_isPrefix_30 : decode cX0_isPrefix 30 = .ok (.lxor, 1) := by decide +kernel
theorem dX0_isPrefix_31 : decode cX0_isPrefix 31 = .ok (.land, 1) := by decide +kernel
theorem dX0_isPrefix_32 : decode cX0_isPrefix 32 = .ok (.lconst 0, 1) := by decide +kernel
theorem dX0_isPrefix_33 : decode cX0_isPrefix 33 = .ok (.lcmp, 1) := by decide +kernel
theorem dX0_isPrefix_34 : decode cX0_isPrefix 34 = .ok (.ifCond .ne 25, 3) := by decide +kernel
theorem dX0_isPrefix_37 : decode cX0_isPrefix 37 = .ok (.aload_n 0, 1) := by decide +kernel
theorem dX0_isPrefix_38 : decode cX0_isPrefix 38 = .ok (.getfield 37, 3) := by decide +kernel
theorem dX0_isPrefix_41 : decode cX0_isPrefix 41 = .ok (.iload_n 2, 1) := by decide +kernel
theorem dX0_isPrefix_42 : decode cX0_isPrefix 42 = .ok (.invokestatic 90, 3) := by decide +kernel
theorem dX0_isPrefix_45 : decode cX0_isPrefix 45 = .ok (.ldc2_w 88, 3) := by decide +kernel
theorem dX0_isPrefix_48 : decode cX0_isPrefix 48 = .ok (.lxor, 1) := by decide +kernel
theorem dX0_isPrefix_49 : decode cX0_isPrefix 49 = .ok (.land, 1) := by decide +kernel
theorem dX0_isPrefix_50 : decode cX0_isPrefix 50 = .ok (.lconst 0, 1) := by decide +kernel
theorem dX0_isPrefix_51 : decode cX0_isPrefix 51 = .ok (.lcmp, 1) := by decide +kernel
theorem dX0_isPrefix_52 : decode cX0_isPrefix 52 = .ok (.ifCond .ne 7, 3) := by decide +kernel
theorem dX0_isPrefix_55 : decode cX0_isPrefix 55 = .ok (.iconst 1, 1) := by decide +kernel
theorem dX0_isPrefix_56 : decode cX0_isPrefix 56 = .ok (.goto 4, 3) := by decide +kernel
theorem dX0_isPrefix_59 : decode cX0_isPrefix 59 = .ok (.iconst 0, 1) := by decide +kernel
theorem dX0_isPrefix_60 : decode cX0_isPrefix 60 = .ok (.ireturn, 1) := by decide +kernel
theorem dX0_bitsOfWhole_0 : decode cX0_bitsOfWhole 0 = .ok (.iload_n 0, 1) := by decide +kernel
theorem dX0_bitsOfWhole_1 : decode cX0_bitsOfWhole 1 = .ok (.iconst 4, 1) := by decide +kernel
theorem dX0_bitsOfWhole_2 : decode cX0_bitsOfWhole 2 = .ok (.if_icmp .ne 10, 3) := by decide +kernel
theorem dX0_bitsOfWhole_5 : decode cX0_bitsOfWhole 5 = .ok (.bipush 96, 2) := by decide +kernel
theorem dX0_bitsOfWhole_7 : decode cX0_bitsOfWhole 7 = .ok (.iload_n 1, 1) := by decide +kernel
theorem dX0_bitsOfWhole_8 : decode cX0_bitsOfWhole 8 = .ok (.iadd, 1) := by decide +kernel
theorem dX0_bitsOfWhole_9 : decode cX0_bitsOfWhole 9 = .ok (.goto 4, 3) := by decide +kernel
theorem dX0_bitsOfWhole_12 : decode cX0_bitsOfWhole 12 = .ok (.iload_n 1, 1) := by decide +kernel
theorem dX0_bitsOfWhole_13 : decode cX0_bitsOfWhole 13 = .ok (.ireturn, 1) := by decide +kernel
theorem dX0_upperMask_0 : decode cX0_upperMask 0 = .ok (.iload_n 0, 1) := by decide +kernel
theorem dX0_upperMask_1 : decode cX0_upperMask 1 = .ok (.invokestatic 93, 3) := by decide +kernel
theorem dX0_upperMask_4 : decode cX0_upperMask 4 = .ok (.lreturn, 1) := by decide +kernel
theorem dX0_lowerMask_0 : decode cX0_lowerMask 0 = .ok (.iload_n 0, 1) := by decide +kernel
theorem dX0_lowerMask_1 : decode cX0_lowerMask 1 = .ok (.bipush 64, 2) := by decide +kernel
theorem dX0_lowerMask_3 : decode cX0_lowerMask 3 = .ok (.isub, 1) := by decide +kernel
theorem dX0_lowerMask_4 : decode cX0_lowerMask 4 = .ok (.invokestatic 93, 3) := by decide +kernel
theorem dX0_lowerMask_7 : decode cX0_lowerMask 7 = .ok (.lreturn, 1) := by decide +kernel
theorem dX0_firstBits_0 : decode cX0_firstBits 0 = .ok (.iload_n 0, 1) := by decide +kernel
theorem dX0_firstBits_1 : decode cX0_firstBits 1 = .ok (.ifCond .gt 5, 3) := by decide +kernel
theorem dX0_firstBits_4 : decode cX0_firstBits 4 = .ok (.lconst 0, 1) := by decide +kernel
theorem dX0_firstBits_5 : decode cX0_firstBits 5 = .ok (.lreturn, 1) := by decide +kernel
theorem dX0_firstBits_6 : decode cX0_firstBits 6 = .ok (.iload_n 0, 1) := by decide +kernel
theorem dX0_firstBits_7 : decode cX0_firstBits 7 = .ok (.bipush 64, 2) := by decide +kernel
theorem dX0_firstBits_9 : decode cX0_firstBits 9 = .ok (.if_icmp .lt 7, 3) := by decide +kernel
theorem dX0_firstBits_12 : decode cX0_firstBits 12 = .ok (.ldc2_w 88, 3) := by decide +kernel
theorem dX0_firstBits_15 : decode cX0_firstBits 15 = .ok (.lreturn, 1) := by decide +kernel
theorem dX0_firstBits_16 : decode cX0_firstBits 16 = .ok (.ldc2_w 88, 3) := by decide +kernel
theorem dX0_firstBits_19 : decode cX0_firstBits 19 = .ok (.bipush 64, 2) := by decide +kernel
theorem dX0_firstBits_21 : decode cX0_firstBits 21 = .ok (.iload_n 0, 1) := by decide +kernel
theorem dX0_firstBits_22 : decode cX0_firstBits 22 = .ok (.isub, 1) := by decide +kernel
theorem dX0_firstBits_23 : decode cX0_firstBits 23 = .ok (.lshl, 1) := by decide +kernel
theorem dX0_firstBits_24 : decode cX0_firstBits 24 = .ok (.lreturn, 1) := by decide +kernel
theorem dX0_coversMeant_0 : decode cX0_coversMeant 0 = .ok (.aload_n 0, 1) := by decide +kernel
theorem dX0_coversMeant_1 : decode cX0_coversMeant 1 = .ok (.getfield 9, 3) := by decide +kernel
theorem dX0_coversMeant_4 : decode cX0_coversMeant 4 = .ok (.iload_n 1, 1) := by decide +kernel
theorem dX0_coversMeant_5 : decode cX0_coversMeant 5 = .ok (.iaload, 1) := by decide +kernel
theorem dX0_coversMeant_6 : decode cX0_coversMeant 6 = .ok (.aload_n 0, 1) := by decide +kernel
theorem dX0_coversMeant_7 : decode cX0_coversMeant 7 = .ok (.getfield 30, 3) := by decide +kernel
theorem dX0_coversMeant_10 : decode cX0_coversMeant 10 = .ok (.if_icmp .eq 5, 3) := by decide +kernel
theorem dX0_coversMeant_13 : decode cX0_coversMeant 13 = .ok (.iconst 0, 1) := by decide +kernel
theorem dX0_coversMeant_14 : decode cX0_coversMeant 14 = .ok (.ireturn, 1) := by decide +kernel
theorem dX0_coversMeant_15 : decode cX0_coversMeant 15 = .ok (.aload_n 0, 1) := by decide +kernel
theorem dX0_coversMeant_16 : decode cX0_coversMeant 16 = .ok (.getfield 30, 3) := by decide +kernel
theorem dX0_coversMeant_19 : decode cX0_coversMeant 19 = .ok (.aload_n 0, 1) := by decide +kernel
theorem dX0_coversMeant_20 : decode cX0_coversMeant 20 = .ok (.getfield 20, 3) := by decide +kernel
theorem dX0_coversMeant_23 : decode cX0_coversMeant 23 = .ok (.iload_n 1, 1) := by decide +kernel
theorem dX0_coversMeant_24 : decode cX0_coversMeant 24 = .ok (.iaload, 1) := by decide +kernel
theorem dX0_coversMeant_25 : decode cX0_coversMeant 25 = .ok (.invokestatic 80, 3) := by decide +kernel
theorem dX0_coversMeant_28 : decode cX0_coversMeant 28 = .ok (.istore_n 2, 1) := by decide +kernel
theorem dX0_coversMeant_29 : decode cX0_coversMeant 29 = .ok (.aload_n 0, 1) := by decide +kernel
theorem dX0_coversMeant_30 : decode cX0_coversMeant 30 = .ok (.getfield 13, 3) := by decide +kernel
theorem dX0_coversMeant_33 : decode cX0_coversMeant 33 = .ok (.iload_n 1, 1) := by decide +kernel
theorem dX0_coversMeant_34 : decode cX0_coversMeant 34 = .ok (.laload, 1) := by decide +kernel
theorem dX0_coversMeant_35 : decode cX0_coversMeant 35 = .ok (.aload_n 0, 1) := by decide +kernel
theorem dX0_coversMeant_36 : decode cX0_coversMeant 36 = .ok (.getfield 33, 3) := by decide +kernel
theorem dX0_coversMeant_39 : decode cX0_coversMeant 39 = .ok (.lxor, 1) := by decide +kernel
theorem dX0_coversMeant_40 : decode cX0_coversMeant 40 = .ok (.iload_n 2, 1) := by decide +kernel
theorem dX0_coversMeant_41 : decode cX0_coversMeant 41 = .ok (.invokestatic 84, 3) := by decide +kernel
theorem dX0_coversMeant_44 : decode cX0_coversMeant 44 = .ok (.land, 1) := by decide +kernel
theorem dX0_coversMeant_45 : decode cX0_coversMeant 45 = .ok (.lconst 0, 1) := by decide +kernel
theorem dX0_coversMeant_46 : decode cX0_coversMeant 46 = .ok (.lcmp, 1) := by decide +kernel
theorem dX0_coversMeant_47 : decode cX0_coversMeant 47 = .ok (.ifCond .ne 28, 3) := by decide +kernel
theorem dX0_coversMeant_50 : decode cX0_coversMeant 50 = .ok (.aload_n 0, 1) := by decide +kernel
theorem dX0_coversMeant_51 : decode cX0_coversMeant 51 = .ok (.getfield 17, 3) := by decide +kernel
theorem dX0_coversMeant_54 : decode cX0_coversMeant 54 = .ok (.iload_n 1, 1) := by decide +kernel
theorem dX0_coversMeant_55 : decode cX0_coversMeant 55 = .ok (.laload, 1) := by decide +kernel
theorem dX0_coversMeant_56 : decode cX0_coversMeant 56 = .ok (.aload_n 0, 1) := by decide +kernel
theorem dX0_coversMeant_57 : decode cX0_coversMeant 57 = .ok (.getfield 37, 3) := by decide +kernel
theorem dX0_coversMeant_60 : decode cX0_coversMeant 60 = .ok (.lxor, 1) := by decide +kernel
theorem dX0_coversMeant_61 : decode cX0_coversMeant 61 = .ok (.iload_n 2, 1) := by decide +kernel
