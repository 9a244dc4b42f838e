theorem dX3_init_0 : decode cX3_init 0 = .ok (.aload_n 0, 1) := by decide +kernel
theorem dX3_init_1 : decode cX3_init 1 = .ok (.invokespecial 3, 3) := by decide +kernel
theorem dX3_init_4 : decode cX3_init 4 = .ok (.aload_n 0, 1) := by decide +kernel
theorem dX3_init_5 : decode cX3_init 5 = .ok (.bipush 12, 2) := by decide +kernel
theorem dX3_init_7 : decode cX3_init 7 = .ok (.newarray .char, 2) := by decide +kernel
theorem dX3_init_9 : decode cX3_init 9 = .ok (.putfield 9, 3) := by decide +kernel
theorem dX3_init_12 : decode cX3_init 12 = .ok (.aload_n 0, 1) := by decide +kernel
theorem dX3_init_13 : decode cX3_init 13 = .ok (.iconst 0, 1) := by decide +kernel
theorem dX3_init_14 : decode cX3_init 14 = .ok (.putfield 15, 3) := by decide +kernel
theorem dX3_init_17 : decode cX3_init 17 = .ok (.aload_n 0, 1) := by decide +kernel
theorem dX3_init_18 : decode cX3_init 18 = .ok (.iconst (-1), 1) := by decide +kernel
theorem dX3_init_19 : decode cX3_init 19 = .ok (.putfield 19, 3) := by decide +kernel
theorem dX3_init_22 : decode cX3_init 22 = .ok (.aload_n 0, 1) := by decide +kernel
theorem dX3_init_23 : decode cX3_init 23 = .ok (.iconst 0, 1) := by decide +kernel
theorem dX3_init_24 : decode cX3_init 24 = .ok (.putfield 22, 3) := by decide +kernel
theorem dX3_init_27 : decode cX3_init 27 = .ok (.aload_n 0, 1) := by decide +kernel
theorem dX3_init_28 : decode cX3_init 28 = .ok (.iconst 0, 1) := by decide +kernel
theorem dX3_init_29 : decode cX3_init 29 = .ok (.putfield 25, 3) := by decide +kernel
theorem dX3_init_32 : decode cX3_init 32 = .ok (.return_, 1) := by decide +kernel
theorem dX3_isFull_0 : decode cX3_isFull 0 = .ok (.aload_n 0, 1) := by decide +kernel
theorem dX3_isFull_1 : decode cX3_isFull 1 = .ok (.getfield 15, 3) := by decide +kernel
theorem dX3_isFull_4 : decode cX3_isFull 4 = .ok (.bipush 12, 2) := by decide +kernel
theorem dX3_isFull_6 : decode cX3_isFull 6 = .ok (.if_icmp .lt 7, 3) := by decide +kernel
theorem dX3_isFull_9 : decode cX3_isFull 9 = .ok (.iconst 1, 1) := by decide +kernel
theorem dX3_isFull_10 : decode cX3_isFull 10 = .ok (.goto 4, 3) := by decide +kernel
theorem dX3_isFull_13 : decode cX3_isFull 13 = .ok (.iconst 0, 1) := by decide +kernel
theorem dX3_isFull_14 : decode cX3_isFull 14 = .ok (.ireturn, 1) := by decide +kernel
theorem dX3_add_0 : decode cX3_add 0 = .ok (.aload_n 0, 1) := by decide +kernel
theorem dX3_add_1 : decode cX3_add 1 = .ok (.invokevirtual 28, 3) := by decide +kernel
theorem dX3_add_4 : decode cX3_add 4 = .ok (.ifCond .ne 23, 3) := by decide +kernel
theorem dX3_add_7 : decode cX3_add 7 = .ok (.aload_n 0, 1) := by decide +kernel
theorem dX3_add_8 : decode cX3_add 8 = .ok (.getfield 9, 3) := by decide +kernel
theorem dX3_add_11 : decode cX3_add 11 = .ok (.aload_n 0, 1) := by decide +kernel
theorem dX3_add_12 : decode cX3_add 12 = .ok (.getfield 15, 3) := by decide +kernel
theorem dX3_add_15 : decode cX3_add 15 = .ok (.iload_n 1, 1) := by decide +kernel
theorem dX3_add_16 : decode cX3_add 16 = .ok (.castore, 1) := by decide +kernel
theorem dX3_add_17 : decode cX3_add 17 = .ok (.aload_n 0, 1) := by decide +kernel
theorem dX3_add_18 : decode cX3_add 18 = .ok (.dup, 1) := by decide +kernel
theorem dX3_add_19 : decode cX3_add 19 = .ok (.getfield 15, 3) := by decide +kernel
theorem dX3_add_22 : decode cX3_add 22 = .ok (.iconst 1, 1) := by decide +kernel
theorem dX3_add_23 : decode cX3_add 23 = .ok (.iadd, 1) := by decide +kernel
theorem dX3_add_24 : decode cX3_add 24 = .ok (.putfield 15, 3) := by decide +kernel
theorem dX3_add_27 : decode cX3_add 27 = .ok (.aload_n 0, 1) := by decide +kernel
theorem dX3_add_28 : decode cX3_add 28 = .ok (.getfield 15, 3) := by decide +kernel
theorem dX3_add_31 : decode cX3_add 31 = .ok (.ireturn, 1) := by decide +kernel
theorem dX3_read_0 : decode cX3_read 0 = .ok (.aload_n 0, 1) := by decide +kernel
theorem dX3_read_1 : decode cX3_read 1 = .ok (.iconst (-1), 1) := by decide +kernel
theorem dX3_read_2 : decode cX3_read 2 = .ok (.putfield 19, 3) := by decide +kernel
theorem dX3_read_5 : decode cX3_read 5 = .ok (.aload_n 0, 1) := by decide +kernel
theorem dX3_read_6 : decode cX3_read 6 = .ok (.iconst 0, 1) := by decide +kernel
theorem dX3_read_7 : decode cX3_read 7 = .ok (.putfield 25, 3) := by decide +kernel
theorem dX3_read_10 : decode cX3_read 10 = .ok (.iconst 0, 1) := by decide +kernel
theorem dX3_read_11 : decode cX3_read 11 = .ok (.istore_n 1, 1) := by decide +kernel
theorem dX3_read_12 : decode cX3_read 12 = .ok (.iload_n 1, 1) := by decide +kernel
theorem dX3_read_13 : decode cX3_read 13 = .ok (.bipush 8, 2) := by decide +kernel
theorem dX3_read_15 : decode cX3_read 15 = .ok (.if_icmp .ge 51, 3) := by decide +kernel
theorem dX3_read_18 : decode cX3_read 18 = .ok (.aload_n 0, 1) := by decide +kernel
theorem dX3_read_19 : decode cX3_read 19 = .ok (.iload_n 1, 1) := by decide +kernel
theorem dX3_read_20 : decode cX3_read 20 = .ok (.invokevirtual 32, 3) := by decide +kernel
theorem dX3_read_23 : decode cX3_read 23 = .ok (.istore_n 2, 1) := by decide +kernel
theorem dX3_read_24 : decode cX3_read 24 = .ok (.aload_n 0, 1) := by decide +kernel
theorem dX3_read_25 : decode cX3_read 25 = .ok (.aload_n 0, 1) := by decide +kernel
theorem dX3_read_26 : decode cX3_read 26 = .ok (.getfield 25, 3) := by decide +kernel
theorem dX3_read_29 : decode cX3_read 29 = .ok (.iload_n 2, 1) := by decide +kernel
theorem dX3_read_30 : decode cX3_read 30 = .ok (.invokestatic 36, 3) := by decide +kernel
theorem dX3_read_33 : decode cX3_read 33 = .ok (.putfield 25, 3) := by decide +kernel
theorem dX3_read_36 : decode cX3_read 36 = .ok (.iload_n 2, 1) := by decide +kernel
theorem dX3_read_37 : decode cX3_read 37 = .ok (.aload_n 0, 1) := by decide +kernel
theorem dX3_read_38 : decode cX3_read 38 = .ok (.getfield 15, 3) := by decide +kernel
theorem dX3_read_41 : decode cX3_read 41 = .ok (.if_icmp .ne 19, 3) := by decide +kernel
theorem dX3_read_44 : decode cX3_read 44 = .ok (.aload_n 0, 1) := by decide +kernel
theorem dX3_read_45 : decode cX3_read 45 = .ok (.getfield 15, 3) := by decide +kernel
theorem dX3_read_48 : decode cX3_read 48 = .ok (.iload_n 1, 1) := by decide +kernel
theorem dX3_read_49 : decode cX3_read 49 = .ok (.invokestatic 42, 3) := by decide +kernel
theorem dX3_read_52 : decode cX3_read 52 = .ok (.if_icmp .lt 8, 3) := by decide +kernel
theorem dX3_read_55 : decode cX3_read 55 = .ok (.aload_n 0, 1) := by decide +kernel
theorem dX3_read_56 : decode cX3_read 56 = .ok (.iload_n 1, 1) := by decide +kernel
theorem dX3_read_57 : decode cX3_read 57 = .ok (.putfield 19, 3) := by decide +kernel
theorem dX3_read_60 : decode cX3_read 60 = .ok (.iinc 1 1, 3) := by decide +kernel
theorem dX3_read_63 : decode cX3_read 63 = .ok (.goto (-51), 3) := by decide +kernel
theorem dX3_read_66 : decode cX3_read 66 = .ok (.aload_n 0, 1) := by decide +kernel
theorem dX3_read_67 : decode cX3_read 67 = .ok (.aload_n 0, 1) := by decide +kernel
theorem dX3_read_68 : decode cX3_read 68 = .ok (.getfield 19, 3) := by decide +kernel
theorem dX3_read_71 : decode cX3_read 71 = .ok (.iconst (-1), 1) := by decide +kernel
theorem dX3_read_72 : decode cX3_read 72 = .ok (.if_icmp .eq 12, 3) := by decide +kernel
theorem dX3_read_75 : decode cX3_read 75 = .ok (.aload_n 0, 1) := by decide +kernel
theorem dX3_read_76 : decode cX3_read 76 = .ok (.getfield 19, 3) := by decide +kernel
theorem dX3_read_79 : decode cX3_read 79 = .ok (.bipush 7, 2) := by decide +kernel
theorem dX3_read_81 : decode cX3_read 81 = .ok (.if_icmp .ne 7, 3) := by decide +kernel
theorem dX3_read_84 : decode cX3_read 84 = .ok (.iconst 0, 1) := by decide +kernel
theorem dX3_read_85 : decode cX3_read 85 = .ok (.goto 19, 3) := by decide +kernel
theorem dX3_read_88 : decode cX3_read 88 = .ok (.aload_n 0, 1) := by decide +kernel
theorem dX3_read_89 : decode cX3_read 89 = .ok (.aload_n 0, 1) := by decide +kernel
theorem dX3_read_90 : decode cX3_read 90 = .ok (.getfield 19, 3) := by decide +kernel
theorem dX3_read_93 : decode cX3_read 93 = .ok (.invokestatic 45, 3) := by decide +kernel
theorem dX3_read_96 : decode cX3_read 96 = .ok (.invokevirtual 49, 3) := by decide +kernel
theorem dX3_read_99 : decode cX3_read 99 = .ok (.iconst 1, 1) := by decide +kernel
theorem dX3_read_100 : decode cX3_read 100 = .ok (.iadd, 1) := by decide +kernel
theorem dX3_read_101 : decode cX3_read 101 = .ok (.invokevirtual 54, 3) := by decide +kernel
theorem dX3_read_104 : decode cX3_read 104 = .ok (.putfield 22, 3) := by decide +kernel
theorem dX3_read_107 : decode cX3_read 107 = .ok (.aload_n 0, 1) := by decide +kernel
theorem dX3_read_108 : decode cX3_read 108 = .ok (.iconst 0, 1) := by decide +kernel
theorem dX3_read_109 : decode cX3_read 109 = .ok (.putfield 15, 3) := by decide +kernel
theorem dX3_read_112 : decode cX3_read 112 = .ok (.return_, 1) := by decide +kernel
theorem dX3_isItem_0 : decode cX3_isItem 0 = .ok (.aload_n 0, 1) := by decide +kernel
theorem dX3_isItem_1 : decode cX3_isItem 1 = .ok (.getfield 19, 3) := by decide +kernel
theorem dX3_isItem_4 : decode cX3_isItem 4 = .ok (.iconst (-1), 1) := by decide +kernel
theorem dX3_isItem_5 : decode cX3_isItem 5 = .ok (.if_icmp .eq 7, 3) := by decide +kernel
theorem dX3_isItem_8 : decode cX3_isItem 8 = .ok (.iconst 1, 1) := by decide +kernel
theorem dX3_isItem_9 : decode cX3_isItem 9 = .ok (.goto 4, 3) := by decide +kernel
theorem dX3_isItem_12 : decode cX3_isItem 12 = .ok (.iconst 0, 1) := by decide +kernel
theorem dX3_isItem_13 : decode cX3_isItem 13 = .ok (.ireturn, 1) := by decide +kernel
theorem dX3_kindRead_0 : decode cX3_kindRead 0 = .ok (.aload_n 0, 1) := by decide +kernel
theorem dX3_kindRead_1 : decode cX3_kindRead 1 = .ok (.getfield 19, 3) := by decide +kernel
theorem dX3_kindRead_4 : decode cX3_kindRead 4 = .ok (.ireturn, 1) := by decide +kernel
theorem dX3_operandRead_0 : decode cX3_operandRead 0 = .ok (.aload_n 0, 1) := by decide +kernel
theorem dX3_operandRead_1 : decode cX3_operandRead 1 = .ok (.getfield 22, 3) := by decide +kernel
theorem dX3_operandRead_4 : decode cX3_operandRead 4 = .ok (.ireturn, 1) := by decide +kernel
theorem dX3_errorIndex_0 : decode cX3_errorIndex 0 = .ok (.aload_n 0, 1) := by decide +kernel
theorem dX3_errorIndex_1 : decode cX3_errorIndex 1 = .ok (.getfield 25, 3) := by decide +kernel
theorem dX3_errorIndex_4 : decode cX3_errorIndex 4 = .ok (.ireturn, 1) := by decide +kernel
theorem dX3_leastLength_0 : decode cX3_leastLength 0 = .ok (.iload_n 0, 1) := by decide +kernel
theorem dX3_leastLength_1 : decode cX3_leastLength 1 = .ok (.invokestatic 45, 3) := by decide +kernel
theorem dX3_leastLength_4 : decode cX3_leastLength 4 = .ok (.invokevirtual 49, 3) := by decide +kernel
theorem dX3_leastLength_7 : decode cX3_leastLength 7 = .ok (.istore_n 1, 1) := by decide +kernel
theorem dX3_leastLength_8 : decode cX3_leastLength 8 = .ok (.iload_n 0, 1) := by decide +kernel
theorem dX3_leastLength_9 : decode cX3_leastLength 9 = .ok (.bipush 7, 2) := by decide +kernel
theorem dX3_leastLength_11 : decode cX3_leastLength 11 = .ok (.if_icmp .ne 7, 3) := by decide +kernel
theorem dX3_leastLength_14 : decode cX3_leastLength 14 = .ok (.iload_n 1, 1) := by decide +kernel
theorem dX3_leastLength_15 : decode cX3_leastLength 15 = .ok (.goto 6, 3) := by decide +kernel
theorem dX3_leastLength_18 : decode cX3_leastLength 18 = .ok (.iload_n 1, 1) := by decide +kernel
theorem dX3_leastLength_19 : decode cX3_leastLength 19 = .ok (.iconst 2, 1) := by decide +kernel
theorem dX3_leastLength_20 : decode cX3_leastLength 20 = .ok (.iadd, 1) := by decide +kernel
theorem dX3_leastLength_21 : decode cX3_leastLength 21 = .ok (.ireturn, 1) := by decide +kernel
theorem dX3_matchedBy_0 : decode cX3_matchedBy 0 = .ok (.iload_n 1, 1) := by decide +kernel
theorem dX3_matchedBy_1 : decode cX3_matchedBy 1 = .ok (.invokestatic 45, 3) := by decide +kernel
theorem dX3_matchedBy_4 : decode cX3_matchedBy 4 = .ok (.astore_n 2, 1) := by decide +kernel
theorem dX3_matchedBy_5 : decode cX3_matchedBy 5 = .ok (.iconst 0, 1) := by decide +kernel
theorem dX3_matchedBy_6 : decode cX3_matchedBy 6 = .ok (.istore_n 3, 1) := by decide +kernel
theorem dX3_matchedBy_7 : decode cX3_matchedBy 7 = .ok (.iload_n 3, 1) := by decide +kernel
theorem dX3_matchedBy_8 : decode cX3_matchedBy 8 = .ok (.aload_n 0, 1) := by decide +kernel
theorem dX3_matchedBy_9 : decode cX3_matchedBy 9 = .ok (.getfield 15, 3) := by decide +kernel
theorem dX3_matchedBy_12 : decode cX3_matchedBy 12 = .ok (.if_icmp .ge 31, 3) := by decide +kernel
theorem dX3_matchedBy_15 : decode cX3_matchedBy 15 = .ok (.iload_n 3, 1) := by decide +kernel
theorem dX3_matchedBy_16 : decode cX3_matchedBy 16 = .ok (.aload_n 2, 1) := by decide +kernel
theorem dX3_matchedBy_17 : decode cX3_matchedBy 17 = .ok (.invokevirtual 49, 3) := by decide +kernel
theorem dX3_matchedBy_20 : decode cX3_matchedBy 20 = .ok (.if_icmp .ge 23, 3) := by decide +kernel
theorem dX3_matchedBy_23 : decode cX3_matchedBy 23 = .ok (.aload_n 0, 1) := by decide +kernel
theorem dX3_matchedBy_24 : decode cX3_matchedBy 24 = .ok (.getfield 9, 3) := by decide +kernel
theorem dX3_matchedBy_27 : decode cX3_matchedBy 27 = .ok (.iload_n 3, 1) := by decide +kernel
theorem dX3_matchedBy_28 : decode cX3_matchedBy 28 = .ok (.caload, 1) := by decide +kernel
theorem dX3_matchedBy_29 : decode cX3_matchedBy 29 = .ok (.aload_n 2, 1) := by decide +kernel
theorem dX3_matchedBy_30 : decode cX3_matchedBy 30 = .ok (.iload_n 3, 1) := by decide +kernel
theorem dX3_matchedBy_31 : decode cX3_matchedBy 31 = .ok (.invokevirtual 57, 3) := by decide +kernel
theorem dX3_matchedBy_34 : decode cX3_matchedBy 34 = .ok (.if_icmp .ne 9, 3) := by decide +kernel
theorem dX3_matchedBy_37 : decode cX3_matchedBy 37 = .ok (.iinc 3 1, 3) := by decide +kernel
theorem dX3_matchedBy_40 : decode cX3_matchedBy 40 = .ok (.goto (-33), 3) := by decide +kernel
theorem dX3_matchedBy_43 : decode cX3_matchedBy 43 = .ok (.iload_n 3, 1) := by decide +kernel
theorem dX3_matchedBy_44 : decode cX3_matchedBy 44 = .ok (.aload_n 2, 1) := by decide +kernel
theorem dX3_matchedBy_45 : decode cX3_matchedBy 45 = .ok (.invokevirtual 49, 3) := by decide +kernel
theorem dX3_matchedBy_48 : decode cX3_matchedBy 48 = .ok (.if_icmp .lt 28, 3) := by decide +kernel
theorem dX3_matchedBy_51 : decode cX3_matchedBy 51 = .ok (.iload_n 1, 1) := by decide +kernel
theorem dX3_matchedBy_52 : decode cX3_matchedBy 52 = .ok (.bipush 7, 2) := by decide +kernel
theorem dX3_matchedBy_54 : decode cX3_matchedBy 54 = .ok (.if_icmp .eq 22, 3) := by decide +kernel
theorem dX3_matchedBy_57 : decode cX3_matchedBy 57 = .ok (.iload_n 3, 1) := by decide +kernel
theorem dX3_matchedBy_58 : decode cX3_matchedBy 58 = .ok (.aload_n 0, 1) := by decide +kernel
theorem dX3_matchedBy_59 : decode cX3_matchedBy 59 = .ok (.getfield 15, 3) := by decide +kernel
theorem dX3_matchedBy_62 : decode cX3_matchedBy 62 = .ok (.if_icmp .ge 14, 3) := by decide +kernel
theorem dX3_matchedBy_65 : decode cX3_matchedBy 65 = .ok (.aload_n 0, 1) := by decide +kernel
theorem dX3_matchedBy_66 : decode cX3_matchedBy 66 = .ok (.getfield 9, 3) := by decide +kernel
theorem dX3_matchedBy_69 : decode cX3_matchedBy 69 = .ok (.iload_n 3, 1) := by decide +kernel
theorem dX3_matchedBy_70 : decode cX3_matchedBy 70 = .ok (.caload, 1) := by decide +kernel
theorem dX3_matchedBy_71 : decode cX3_matchedBy 71 = .ok (.bipush 32, 2) := by decide +kernel
theorem dX3_matchedBy_73 : decode cX3_matchedBy 73 = .ok (.if_icmp .eq 5, 3) := by decide +kernel
theorem dX3_matchedBy_76 : decode cX3_matchedBy 76 = .ok (.iload_n 3, 1) := by decide +kernel
theorem dX3_matchedBy_77 : decode cX3_matchedBy 77 = .ok (.ireturn, 1) := by decide +kernel
theorem dX3_matchedBy_78 : decode cX3_matchedBy 78 = .ok (.iinc 3 1, 3) := by decide +kernel
theorem dX3_matchedBy_81 : decode cX3_matchedBy 81 = .ok (.aload_n 0, 1) := by decide +kernel
theorem dX3_matchedBy_82 : decode cX3_matchedBy 82 = .ok (.getfield 15, 3) := by decide +kernel
theorem dX3_matchedBy_85 : decode cX3_matchedBy 85 = .ok (.aload_n 2, 1) := by decide +kernel
theorem dX3_matchedBy_86 : decode cX3_matchedBy 86 = .ok (.invokevirtual 49, 3) := by decide +kernel
theorem dX3_matchedBy_89 : decode cX3_matchedBy 89 = .ok (.iconst 3, 1) := by decide +kernel
theorem dX3_matchedBy_90 : decode cX3_matchedBy 90 = .ok (.iadd, 1) := by decide +kernel
theorem dX3_matchedBy_91 : decode cX3_matchedBy 91 = .ok (.invokestatic 61, 3) := by decide +kernel
theorem dX3_matchedBy_94 : decode cX3_matchedBy 94 = .ok (.istore 4, 2) := by decide +kernel
theorem dX3_matchedBy_96 : decode cX3_matchedBy 96 = .ok (.iload_n 3, 1) := by decide +kernel
theorem dX3_matchedBy_97 : decode cX3_matchedBy 97 = .ok (.iload 4, 2) := by decide +kernel
theorem dX3_matchedBy_99 : decode cX3_matchedBy 99 = .ok (.if_icmp .ge 31, 3) := by decide +kernel
theorem dX3_matchedBy_102 : decode cX3_matchedBy 102 = .ok (.aload_n 0, 1) := by decide +kernel
theorem dX3_matchedBy_103 : decode cX3_matchedBy 103 = .ok (.getfield 9, 3) := by decide +kernel
theorem dX3_matchedBy_106 : decode cX3_matchedBy 106 = .ok (.iload_n 3, 1) := by decide +kernel
theorem dX3_matchedBy_107 : decode cX3_matchedBy 107 = .ok (.caload, 1) := by decide +kernel
theorem dX3_matchedBy_108 : decode cX3_matchedBy 108 = .ok (.bipush 48, 2) := by decide +kernel
theorem dX3_matchedBy_110 : decode cX3_matchedBy 110 = .ok (.if_icmp .lt 20, 3) := by decide +kernel
theorem dX3_matchedBy_113 : decode cX3_matchedBy 113 = .ok (.aload_n 0, 1) := by decide +kernel
theorem dX3_matchedBy_114 : decode cX3_matchedBy 114 = .ok (.getfield 9, 3) := by decide +kernel
theorem dX3_matchedBy_117 : decode cX3_matchedBy 117 = .ok (.iload_n 3, 1) := by decide +kernel
theorem dX3_matchedBy_118 : decode cX3_matchedBy 118 = .ok (.caload, 1) := by decide +kernel
theorem dX3_matchedBy_119 : decode cX3_matchedBy 119 = .ok (.bipush 57, 2) := by decide +kernel
theorem dX3_matchedBy_121 : decode cX3_matchedBy 121 = .ok (.if_icmp .gt 9, 3) := by decide +kernel
theorem dX3_matchedBy_124 : decode cX3_matchedBy 124 = .ok (.iinc 3 1, 3) := by decide +kernel
theorem dX3_matchedBy_127 : decode cX3_matchedBy 127 = .ok (.goto (-31), 3) := by decide +kernel
theorem dX3_matchedBy_130 : decode cX3_matchedBy 130 = .ok (.iload_n 3, 1) := by decide +kernel
theorem dX3_matchedBy_131 : decode cX3_matchedBy 131 = .ok (.ireturn, 1) := by decide +kernel
theorem dX3_numberFrom_0 : decode cX3_numberFrom 0 = .ok (.iconst 0, 1) := by decide +kernel
theorem dX3_numberFrom_1 : decode cX3_numberFrom 1 = .ok (.istore_n 2, 1) := by decide +kernel
theorem dX3_numberFrom_2 : decode cX3_numberFrom 2 = .ok (.iload_n 1, 1) := by decide +kernel
theorem dX3_numberFrom_3 : decode cX3_numberFrom 3 = .ok (.istore_n 3, 1) := by decide +kernel
theorem dX3_numberFrom_4 : decode cX3_numberFrom 4 = .ok (.iload_n 3, 1) := by decide +kernel
theorem dX3_numberFrom_5 : decode cX3_numberFrom 5 = .ok (.aload_n 0, 1) := by decide +kernel
theorem dX3_numberFrom_6 : decode cX3_numberFrom 6 = .ok (.getfield 15, 3) := by decide +kernel
theorem dX3_numberFrom_9 : decode cX3_numberFrom 9 = .ok (.if_icmp .ge 24, 3) := by decide +kernel
theorem dX3_numberFrom_12 : decode cX3_numberFrom 12 = .ok (.iload_n 2, 1) := by decide +kernel
theorem dX3_numberFrom_13 : decode cX3_numberFrom 13 = .ok (.bipush 10, 2) := by decide +kernel
theorem dX3_numberFrom_15 : decode cX3_numberFrom 15 = .ok (.imul, 1) := by decide +kernel
theorem dX3_numberFrom_16 : decode cX3_numberFrom 16 = .ok (.aload_n 0, 1) := by decide +kernel
theorem dX3_numberFrom_17 : decode cX3_numberFrom 17 = .ok (.getfield 9, 3) := by decide +kernel
theorem dX3_numberFrom_20 : decode cX3_numberFrom 20 = .ok (.iload_n 3, 1) := by decide +kernel
theorem dX3_numberFrom_21 : decode cX3_numberFrom 21 = .ok (.caload, 1) := by decide +kernel
theorem dX3_numberFrom_22 : decode cX3_numberFrom 22 = .ok (.bipush 48, 2) := by decide +kernel
theorem dX3_numberFrom_24 : decode cX3_numberFrom 24 = .ok (.isub, 1) := by decide +kernel
theorem dX3_numberFrom_25 : decode cX3_numberFrom 25 = .ok (.iadd, 1) := by decide +kernel
theorem dX3_numberFrom_26 : decode cX3_numberFrom 26 = .ok (.istore_n 2, 1) := by decide +kernel
theorem dX3_numberFrom_27 : decode cX3_numberFrom 27 = .ok (.iinc 3 1, 3) := by decide +kernel
theorem dX3_numberFrom_30 : decode cX3_numberFrom 30 = .ok (.goto (-26), 3) := by decide +kernel
theorem dX3_numberFrom_33 : decode cX3_numberFrom 33 = .ok (.iload_n 2, 1) := by decide +kernel
theorem dX3_numberFrom_34 : decode cX3_numberFrom 34 = .ok (.ireturn, 1) := by decide +kernel
