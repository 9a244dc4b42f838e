theorem dX0_init_0 : decode cX0_init 0 = .ok (.aload_n 0, 1) := by decide +kernel
theorem dX0_init_1 : decode cX0_init 1 = .ok (.invokespecial 3, 3) := by decide +kernel
theorem dX0_init_4 : decode cX0_init 4 = .ok (.aload_n 0, 1) := by decide +kernel
theorem dX0_init_5 : decode cX0_init 5 = .ok (.sipush 2048, 3) := by decide +kernel
theorem dX0_init_8 : decode cX0_init 8 = .ok (.newarray .boolean, 2) := by decide +kernel
theorem dX0_init_10 : decode cX0_init 10 = .ok (.putfield 9, 3) := by decide +kernel
theorem dX0_init_13 : decode cX0_init 13 = .ok (.aload_n 0, 1) := by decide +kernel
theorem dX0_init_14 : decode cX0_init 14 = .ok (.iconst 0, 1) := by decide +kernel
theorem dX0_init_15 : decode cX0_init 15 = .ok (.putfield 15, 3) := by decide +kernel
theorem dX0_init_18 : decode cX0_init 18 = .ok (.aload_n 0, 1) := by decide +kernel
theorem dX0_init_19 : decode cX0_init 19 = .ok (.iconst 0, 1) := by decide +kernel
theorem dX0_init_20 : decode cX0_init 20 = .ok (.putfield 19, 3) := by decide +kernel
theorem dX0_init_23 : decode cX0_init 23 = .ok (.aload_n 0, 1) := by decide +kernel
theorem dX0_init_24 : decode cX0_init 24 = .ok (.aload_n 1, 1) := by decide +kernel
theorem dX0_init_25 : decode cX0_init 25 = .ok (.putfield 22, 3) := by decide +kernel
theorem dX0_init_28 : decode cX0_init 28 = .ok (.aload_n 0, 1) := by decide +kernel
theorem dX0_init_29 : decode cX0_init 29 = .ok (.aload_n 2, 1) := by decide +kernel
theorem dX0_init_30 : decode cX0_init 30 = .ok (.putfield 26, 3) := by decide +kernel
theorem dX0_init_33 : decode cX0_init 33 = .ok (.return_, 1) := by decide +kernel
theorem dX0_numberAt_0 : decode cX0_numberAt 0 = .ok (.aload_n 0, 1) := by decide +kernel
theorem dX0_numberAt_1 : decode cX0_numberAt 1 = .ok (.invokevirtual 30, 3) := by decide +kernel
theorem dX0_numberAt_4 : decode cX0_numberAt 4 = .ok (.iconst 0, 1) := by decide +kernel
theorem dX0_numberAt_5 : decode cX0_numberAt 5 = .ok (.istore_n 2, 1) := by decide +kernel
theorem dX0_numberAt_6 : decode cX0_numberAt 6 = .ok (.iload_n 2, 1) := by decide +kernel
theorem dX0_numberAt_7 : decode cX0_numberAt 7 = .ok (.iload_n 1, 1) := by decide +kernel
theorem dX0_numberAt_8 : decode cX0_numberAt 8 = .ok (.if_icmp .ge 25, 3) := by decide +kernel
theorem dX0_numberAt_11 : decode cX0_numberAt 11 = .ok (.iload_n 2, 1) := by decide +kernel
theorem dX0_numberAt_12 : decode cX0_numberAt 12 = .ok (.aload_n 0, 1) := by decide +kernel
theorem dX0_numberAt_13 : decode cX0_numberAt 13 = .ok (.getfield 22, 3) := by decide +kernel
theorem dX0_numberAt_16 : decode cX0_numberAt 16 = .ok (.invokevirtual 33, 3) := by decide +kernel
theorem dX0_numberAt_19 : decode cX0_numberAt 19 = .ok (.if_icmp .ge 14, 3) := by decide +kernel
theorem dX0_numberAt_22 : decode cX0_numberAt 22 = .ok (.aload_n 0, 1) := by decide +kernel
theorem dX0_numberAt_23 : decode cX0_numberAt 23 = .ok (.iload_n 2, 1) := by decide +kernel
theorem dX0_numberAt_24 : decode cX0_numberAt 24 = .ok (.invokevirtual 39, 3) := by decide +kernel
theorem dX0_numberAt_27 : decode cX0_numberAt 27 = .ok (.iinc 2 1, 3) := by decide +kernel
theorem dX0_numberAt_30 : decode cX0_numberAt 30 = .ok (.goto (-24), 3) := by decide +kernel
theorem dX0_numberAt_33 : decode cX0_numberAt 33 = .ok (.iconst 0, 1) := by decide +kernel
theorem dX0_numberAt_34 : decode cX0_numberAt 34 = .ok (.istore_n 2, 1) := by decide +kernel
theorem dX0_numberAt_35 : decode cX0_numberAt 35 = .ok (.aload_n 0, 1) := by decide +kernel
theorem dX0_numberAt_36 : decode cX0_numberAt 36 = .ok (.getfield 15, 3) := by decide +kernel
theorem dX0_numberAt_39 : decode cX0_numberAt 39 = .ok (.istore_n 3, 1) := by decide +kernel
theorem dX0_numberAt_40 : decode cX0_numberAt 40 = .ok (.iload_n 3, 1) := by decide +kernel
theorem dX0_numberAt_41 : decode cX0_numberAt 41 = .ok (.aload_n 0, 1) := by decide +kernel
theorem dX0_numberAt_42 : decode cX0_numberAt 42 = .ok (.getfield 19, 3) := by decide +kernel
theorem dX0_numberAt_45 : decode cX0_numberAt 45 = .ok (.if_icmp .gt 21, 3) := by decide +kernel
theorem dX0_numberAt_48 : decode cX0_numberAt 48 = .ok (.aload_n 0, 1) := by decide +kernel
theorem dX0_numberAt_49 : decode cX0_numberAt 49 = .ok (.getfield 9, 3) := by decide +kernel
theorem dX0_numberAt_52 : decode cX0_numberAt 52 = .ok (.iload_n 3, 1) := by decide +kernel
theorem dX0_numberAt_53 : decode cX0_numberAt 53 = .ok (.baload, 1) := by decide +kernel
theorem dX0_numberAt_54 : decode cX0_numberAt 54 = .ok (.ifCond .eq 6, 3) := by decide +kernel
theorem dX0_numberAt_57 : decode cX0_numberAt 57 = .ok (.iinc 2 1, 3) := by decide +kernel
theorem dX0_numberAt_60 : decode cX0_numberAt 60 = .ok (.iinc 3 1, 3) := by decide +kernel
theorem dX0_numberAt_63 : decode cX0_numberAt 63 = .ok (.goto (-23), 3) := by decide +kernel
theorem dX0_numberAt_66 : decode cX0_numberAt 66 = .ok (.iload_n 2, 1) := by decide +kernel
theorem dX0_numberAt_67 : decode cX0_numberAt 67 = .ok (.ireturn, 1) := by decide +kernel
theorem dX0_startWithZero_0 : decode cX0_startWithZero 0 = .ok (.aload_n 0, 1) := by decide +kernel
theorem dX0_startWithZero_1 : decode cX0_startWithZero 1 = .ok (.getfield 15, 3) := by decide +kernel
theorem dX0_startWithZero_4 : decode cX0_startWithZero 4 = .ok (.istore_n 1, 1) := by decide +kernel
theorem dX0_startWithZero_5 : decode cX0_startWithZero 5 = .ok (.iload_n 1, 1) := by decide +kernel
theorem dX0_startWithZero_6 : decode cX0_startWithZero 6 = .ok (.aload_n 0, 1) := by decide +kernel
theorem dX0_startWithZero_7 : decode cX0_startWithZero 7 = .ok (.getfield 19, 3) := by decide +kernel
theorem dX0_startWithZero_10 : decode cX0_startWithZero 10 = .ok (.if_icmp .gt 16, 3) := by decide +kernel
theorem dX0_startWithZero_13 : decode cX0_startWithZero 13 = .ok (.aload_n 0, 1) := by decide +kernel
theorem dX0_startWithZero_14 : decode cX0_startWithZero 14 = .ok (.getfield 9, 3) := by decide +kernel
theorem dX0_startWithZero_17 : decode cX0_startWithZero 17 = .ok (.iload_n 1, 1) := by decide +kernel
theorem dX0_startWithZero_18 : decode cX0_startWithZero 18 = .ok (.iconst 0, 1) := by decide +kernel
theorem dX0_startWithZero_19 : decode cX0_startWithZero 19 = .ok (.bastore, 1) := by decide +kernel
theorem dX0_startWithZero_20 : decode cX0_startWithZero 20 = .ok (.iinc 1 1, 3) := by decide +kernel
theorem dX0_startWithZero_23 : decode cX0_startWithZero 23 = .ok (.goto (-18), 3) := by decide +kernel
theorem dX0_startWithZero_26 : decode cX0_startWithZero 26 = .ok (.aload_n 0, 1) := by decide +kernel
theorem dX0_startWithZero_27 : decode cX0_startWithZero 27 = .ok (.getfield 9, 3) := by decide +kernel
theorem dX0_startWithZero_30 : decode cX0_startWithZero 30 = .ok (.iconst 0, 1) := by decide +kernel
theorem dX0_startWithZero_31 : decode cX0_startWithZero 31 = .ok (.iconst 1, 1) := by decide +kernel
theorem dX0_startWithZero_32 : decode cX0_startWithZero 32 = .ok (.bastore, 1) := by decide +kernel
theorem dX0_startWithZero_33 : decode cX0_startWithZero 33 = .ok (.aload_n 0, 1) := by decide +kernel
theorem dX0_startWithZero_34 : decode cX0_startWithZero 34 = .ok (.iconst 0, 1) := by decide +kernel
theorem dX0_startWithZero_35 : decode cX0_startWithZero 35 = .ok (.putfield 15, 3) := by decide +kernel
theorem dX0_startWithZero_38 : decode cX0_startWithZero 38 = .ok (.aload_n 0, 1) := by decide +kernel
theorem dX0_startWithZero_39 : decode cX0_startWithZero 39 = .ok (.iconst 0, 1) := by decide +kernel
theorem dX0_startWithZero_40 : decode cX0_startWithZero 40 = .ok (.putfield 19, 3) := by decide +kernel
theorem dX0_startWithZero_43 : decode cX0_startWithZero 43 = .ok (.return_, 1) := by decide +kernel
theorem dX0_passItem_0 : decode cX0_passItem 0 = .ok (.aload_n 0, 1) := by decide +kernel
theorem dX0_passItem_1 : decode cX0_passItem 1 = .ok (.getfield 19, 3) := by decide +kernel
theorem dX0_passItem_4 : decode cX0_passItem 4 = .ok (.istore_n 2, 1) := by decide +kernel
theorem dX0_passItem_5 : decode cX0_passItem 5 = .ok (.aload_n 0, 1) := by decide +kernel
theorem dX0_passItem_6 : decode cX0_passItem 6 = .ok (.getfield 15, 3) := by decide +kernel
theorem dX0_passItem_9 : decode cX0_passItem 9 = .ok (.istore_n 3, 1) := by decide +kernel
theorem dX0_passItem_10 : decode cX0_passItem 10 = .ok (.aload_n 0, 1) := by decide +kernel
theorem dX0_passItem_11 : decode cX0_passItem 11 = .ok (.getfield 22, 3) := by decide +kernel
theorem dX0_passItem_14 : decode cX0_passItem 14 = .ok (.iload_n 1, 1) := by decide +kernel
theorem dX0_passItem_15 : decode cX0_passItem 15 = .ok (.invokevirtual 43, 3) := by decide +kernel
theorem dX0_passItem_18 : decode cX0_passItem 18 = .ok (.ifCond .eq 7, 3) := by decide +kernel
theorem dX0_passItem_21 : decode cX0_passItem 21 = .ok (.iconst 2, 1) := by decide +kernel
theorem dX0_passItem_22 : decode cX0_passItem 22 = .ok (.goto 4, 3) := by decide +kernel
theorem dX0_passItem_25 : decode cX0_passItem 25 = .ok (.iconst 0, 1) := by decide +kernel
theorem dX0_passItem_26 : decode cX0_passItem 26 = .ok (.istore 4, 2) := by decide +kernel
theorem dX0_passItem_28 : decode cX0_passItem 28 = .ok (.aload_n 0, 1) := by decide +kernel
theorem dX0_passItem_29 : decode cX0_passItem 29 = .ok (.sipush 2047, 3) := by decide +kernel
theorem dX0_passItem_32 : decode cX0_passItem 32 = .ok (.putfield 15, 3) := by decide +kernel
theorem dX0_passItem_35 : decode cX0_passItem 35 = .ok (.aload_n 0, 1) := by decide +kernel
theorem dX0_passItem_36 : decode cX0_passItem 36 = .ok (.iconst 0, 1) := by decide +kernel
theorem dX0_passItem_37 : decode cX0_passItem 37 = .ok (.putfield 19, 3) := by decide +kernel
theorem dX0_passItem_40 : decode cX0_passItem 40 = .ok (.iload_n 2, 1) := by decide +kernel
theorem dX0_passItem_41 : decode cX0_passItem 41 = .ok (.istore 5, 2) := by decide +kernel
theorem dX0_passItem_43 : decode cX0_passItem 43 = .ok (.iload 5, 2) := by decide +kernel
theorem dX0_passItem_45 : decode cX0_passItem 45 = .ok (.iload_n 3, 1) := by decide +kernel
theorem dX0_passItem_46 : decode cX0_passItem 46 = .ok (.if_icmp .lt 62, 3) := by decide +kernel
theorem dX0_passItem_49 : decode cX0_passItem 49 = .ok (.aload_n 0, 1) := by decide +kernel
theorem dX0_passItem_50 : decode cX0_passItem 50 = .ok (.getfield 9, 3) := by decide +kernel
theorem dX0_passItem_53 : decode cX0_passItem 53 = .ok (.iload 5, 2) := by decide +kernel
theorem dX0_passItem_55 : decode cX0_passItem 55 = .ok (.baload, 1) := by decide +kernel
theorem dX0_passItem_56 : decode cX0_passItem 56 = .ok (.ifCond .eq 46, 3) := by decide +kernel
theorem dX0_passItem_59 : decode cX0_passItem 59 = .ok (.aload_n 0, 1) := by decide +kernel
theorem dX0_passItem_60 : decode cX0_passItem 60 = .ok (.getfield 9, 3) := by decide +kernel
theorem dX0_passItem_63 : decode cX0_passItem 63 = .ok (.iload 5, 2) := by decide +kernel
theorem dX0_passItem_65 : decode cX0_passItem 65 = .ok (.iconst 0, 1) := by decide +kernel
theorem dX0_passItem_66 : decode cX0_passItem 66 = .ok (.bastore, 1) := by decide +kernel
theorem dX0_passItem_67 : decode cX0_passItem 67 = .ok (.iconst 0, 1) := by decide +kernel
theorem dX0_passItem_68 : decode cX0_passItem 68 = .ok (.istore 6, 2) := by decide +kernel
theorem dX0_passItem_70 : decode cX0_passItem 70 = .ok (.iload 6, 2) := by decide +kernel
theorem dX0_passItem_72 : decode cX0_passItem 72 = .ok (.iload 4, 2) := by decide +kernel
theorem dX0_passItem_74 : decode cX0_passItem 74 = .ok (.if_icmp .gt 28, 3) := by decide +kernel
theorem dX0_passItem_77 : decode cX0_passItem 77 = .ok (.aload_n 0, 1) := by decide +kernel
theorem dX0_passItem_78 : decode cX0_passItem 78 = .ok (.iload 5, 2) := by decide +kernel
theorem dX0_passItem_80 : decode cX0_passItem 80 = .ok (.aload_n 0, 1) := by decide +kernel
theorem dX0_passItem_81 : decode cX0_passItem 81 = .ok (.getfield 26, 3) := by decide +kernel
theorem dX0_passItem_84 : decode cX0_passItem 84 = .ok (.iload_n 1, 1) := by decide +kernel
theorem dX0_passItem_85 : decode cX0_passItem 85 = .ok (.iload 6, 2) := by decide +kernel
theorem dX0_passItem_87 : decode cX0_passItem 87 = .ok (.iload 5, 2) := by decide +kernel
theorem dX0_passItem_89 : decode cX0_passItem 89 = .ok (.invokevirtual 47, 3) := by decide +kernel
theorem dX0_passItem_92 : decode cX0_passItem 92 = .ok (.iadd, 1) := by decide +kernel
theorem dX0_passItem_93 : decode cX0_passItem 93 = .ok (.invokevirtual 53, 3) := by decide +kernel
theorem dX0_passItem_96 : decode cX0_passItem 96 = .ok (.iinc 6 1, 3) := by decide +kernel
theorem dX0_passItem_99 : decode cX0_passItem 99 = .ok (.goto (-29), 3) := by decide +kernel
theorem dX0_passItem_102 : decode cX0_passItem 102 = .ok (.iinc 5 (-1), 3) := by decide +kernel
theorem dX0_passItem_105 : decode cX0_passItem 105 = .ok (.goto (-62), 3) := by decide +kernel
theorem dX0_passItem_108 : decode cX0_passItem 108 = .ok (.return_, 1) := by decide +kernel
theorem dX0_hold_0 : decode cX0_hold 0 = .ok (.iload_n 1, 1) := by decide +kernel
theorem dX0_hold_1 : decode cX0_hold 1 = .ok (.ifCond .lt 41, 3) := by decide +kernel
theorem dX0_hold_4 : decode cX0_hold 4 = .ok (.iload_n 1, 1) := by decide +kernel
theorem dX0_hold_5 : decode cX0_hold 5 = .ok (.sipush 2048, 3) := by decide +kernel
theorem dX0_hold_8 : decode cX0_hold 8 = .ok (.if_icmp .ge 34, 3) := by decide +kernel
theorem dX0_hold_11 : decode cX0_hold 11 = .ok (.aload_n 0, 1) := by decide +kernel
theorem dX0_hold_12 : decode cX0_hold 12 = .ok (.getfield 9, 3) := by decide +kernel
theorem dX0_hold_15 : decode cX0_hold 15 = .ok (.iload_n 1, 1) := by decide +kernel
theorem dX0_hold_16 : decode cX0_hold 16 = .ok (.iconst 1, 1) := by decide +kernel
theorem dX0_hold_17 : decode cX0_hold 17 = .ok (.bastore, 1) := by decide +kernel
theorem dX0_hold_18 : decode cX0_hold 18 = .ok (.aload_n 0, 1) := by decide +kernel
theorem dX0_hold_19 : decode cX0_hold 19 = .ok (.aload_n 0, 1) := by decide +kernel
theorem dX0_hold_20 : decode cX0_hold 20 = .ok (.getfield 15, 3) := by decide +kernel
theorem dX0_hold_23 : decode cX0_hold 23 = .ok (.iload_n 1, 1) := by decide +kernel
theorem dX0_hold_24 : decode cX0_hold 24 = .ok (.invokestatic 56, 3) := by decide +kernel
theorem dX0_hold_27 : decode cX0_hold 27 = .ok (.putfield 15, 3) := by decide +kernel
theorem dX0_hold_30 : decode cX0_hold 30 = .ok (.aload_n 0, 1) := by decide +kernel
theorem dX0_hold_31 : decode cX0_hold 31 = .ok (.aload_n 0, 1) := by decide +kernel
theorem dX0_hold_32 : decode cX0_hold 32 = .ok (.getfield 19, 3) := by decide +kernel
theorem dX0_hold_35 : decode cX0_hold 35 = .ok (.iload_n 1, 1) := by decide +kernel
theorem dX0_hold_36 : decode cX0_hold 36 = .ok (.invokestatic 62, 3) := by decide +kernel
theorem dX0_hold_39 : decode cX0_hold 39 = .ok (.putfield 19, 3) := by decide +kernel
theorem dX0_hold_42 : decode cX0_hold 42 = .ok (.return_, 1) := by decide +kernel
