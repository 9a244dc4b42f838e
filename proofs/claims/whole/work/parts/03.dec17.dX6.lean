theorem dX6_init_0 : decode cX6_init 0 = .ok (.aload_n 0, 1) := by decide +kernel
theorem dX6_init_1 : decode cX6_init 1 = .ok (.invokespecial 3, 3) := by decide +kernel
theorem dX6_init_4 : decode cX6_init 4 = .ok (.aload_n 0, 1) := by decide +kernel
theorem dX6_init_5 : decode cX6_init 5 = .ok (.bipush 40, 2) := by decide +kernel
theorem dX6_init_7 : decode cX6_init 7 = .ok (.newarray .int, 2) := by decide +kernel
theorem dX6_init_9 : decode cX6_init 9 = .ok (.putfield 9, 3) := by decide +kernel
theorem dX6_init_12 : decode cX6_init 12 = .ok (.aload_n 0, 1) := by decide +kernel
theorem dX6_init_13 : decode cX6_init 13 = .ok (.bipush 40, 2) := by decide +kernel
theorem dX6_init_15 : decode cX6_init 15 = .ok (.newarray .int, 2) := by decide +kernel
theorem dX6_init_17 : decode cX6_init 17 = .ok (.putfield 15, 3) := by decide +kernel
theorem dX6_init_20 : decode cX6_init 20 = .ok (.aload_n 0, 1) := by decide +kernel
theorem dX6_init_21 : decode cX6_init 21 = .ok (.bipush 40, 2) := by decide +kernel
theorem dX6_init_23 : decode cX6_init 23 = .ok (.newarray .int, 2) := by decide +kernel
theorem dX6_init_25 : decode cX6_init 25 = .ok (.putfield 18, 3) := by decide +kernel
theorem dX6_init_28 : decode cX6_init 28 = .ok (.aload_n 0, 1) := by decide +kernel
theorem dX6_init_29 : decode cX6_init 29 = .ok (.iconst 0, 1) := by decide +kernel
theorem dX6_init_30 : decode cX6_init 30 = .ok (.putfield 21, 3) := by decide +kernel
theorem dX6_init_33 : decode cX6_init 33 = .ok (.return_, 1) := by decide +kernel
theorem dX6_count_0 : decode cX6_count 0 = .ok (.aload_n 0, 1) := by decide +kernel
theorem dX6_count_1 : decode cX6_count 1 = .ok (.getfield 21, 3) := by decide +kernel
theorem dX6_count_4 : decode cX6_count 4 = .ok (.ireturn, 1) := by decide +kernel
theorem dX6_isFull_0 : decode cX6_isFull 0 = .ok (.aload_n 0, 1) := by decide +kernel
theorem dX6_isFull_1 : decode cX6_isFull 1 = .ok (.getfield 21, 3) := by decide +kernel
theorem dX6_isFull_4 : decode cX6_isFull 4 = .ok (.bipush 40, 2) := by decide +kernel
theorem dX6_isFull_6 : decode cX6_isFull 6 = .ok (.if_icmp .lt 7, 3) := by decide +kernel
theorem dX6_isFull_9 : decode cX6_isFull 9 = .ok (.iconst 1, 1) := by decide +kernel
theorem dX6_isFull_10 : decode cX6_isFull 10 = .ok (.goto 4, 3) := by decide +kernel
theorem dX6_isFull_13 : decode cX6_isFull 13 = .ok (.iconst 0, 1) := by decide +kernel
theorem dX6_isFull_14 : decode cX6_isFull 14 = .ok (.ireturn, 1) := by decide +kernel
theorem dX6_has_0 : decode cX6_has 0 = .ok (.iload_n 1, 1) := by decide +kernel
theorem dX6_has_1 : decode cX6_has 1 = .ok (.ifCond .lt 15, 3) := by decide +kernel
theorem dX6_has_4 : decode cX6_has 4 = .ok (.iload_n 1, 1) := by decide +kernel
theorem dX6_has_5 : decode cX6_has 5 = .ok (.aload_n 0, 1) := by decide +kernel
theorem dX6_has_6 : decode cX6_has 6 = .ok (.getfield 21, 3) := by decide +kernel
theorem dX6_has_9 : decode cX6_has 9 = .ok (.if_icmp .ge 7, 3) := by decide +kernel
theorem dX6_has_12 : decode cX6_has 12 = .ok (.iconst 1, 1) := by decide +kernel
theorem dX6_has_13 : decode cX6_has 13 = .ok (.goto 4, 3) := by decide +kernel
theorem dX6_has_16 : decode cX6_has 16 = .ok (.iconst 0, 1) := by decide +kernel
theorem dX6_has_17 : decode cX6_has 17 = .ok (.ireturn, 1) := by decide +kernel
theorem dX6_kindAt_0 : decode cX6_kindAt 0 = .ok (.iload_n 1, 1) := by decide +kernel
theorem dX6_kindAt_1 : decode cX6_kindAt 1 = .ok (.ifCond .lt 20, 3) := by decide +kernel
theorem dX6_kindAt_4 : decode cX6_kindAt 4 = .ok (.iload_n 1, 1) := by decide +kernel
theorem dX6_kindAt_5 : decode cX6_kindAt 5 = .ok (.aload_n 0, 1) := by decide +kernel
theorem dX6_kindAt_6 : decode cX6_kindAt 6 = .ok (.getfield 21, 3) := by decide +kernel
theorem dX6_kindAt_9 : decode cX6_kindAt 9 = .ok (.if_icmp .ge 12, 3) := by decide +kernel
theorem dX6_kindAt_12 : decode cX6_kindAt 12 = .ok (.aload_n 0, 1) := by decide +kernel
theorem dX6_kindAt_13 : decode cX6_kindAt 13 = .ok (.getfield 9, 3) := by decide +kernel
theorem dX6_kindAt_16 : decode cX6_kindAt 16 = .ok (.iload_n 1, 1) := by decide +kernel
theorem dX6_kindAt_17 : decode cX6_kindAt 17 = .ok (.iaload, 1) := by decide +kernel
theorem dX6_kindAt_18 : decode cX6_kindAt 18 = .ok (.goto 4, 3) := by decide +kernel
theorem dX6_kindAt_21 : decode cX6_kindAt 21 = .ok (.iconst (-1), 1) := by decide +kernel
theorem dX6_kindAt_22 : decode cX6_kindAt 22 = .ok (.ireturn, 1) := by decide +kernel
theorem dX6_operandAt_0 : decode cX6_operandAt 0 = .ok (.iload_n 1, 1) := by decide +kernel
theorem dX6_operandAt_1 : decode cX6_operandAt 1 = .ok (.ifCond .lt 20, 3) := by decide +kernel
theorem dX6_operandAt_4 : decode cX6_operandAt 4 = .ok (.iload_n 1, 1) := by decide +kernel
theorem dX6_operandAt_5 : decode cX6_operandAt 5 = .ok (.aload_n 0, 1) := by decide +kernel
theorem dX6_operandAt_6 : decode cX6_operandAt 6 = .ok (.getfield 21, 3) := by decide +kernel
theorem dX6_operandAt_9 : decode cX6_operandAt 9 = .ok (.if_icmp .ge 12, 3) := by decide +kernel
theorem dX6_operandAt_12 : decode cX6_operandAt 12 = .ok (.aload_n 0, 1) := by decide +kernel
theorem dX6_operandAt_13 : decode cX6_operandAt 13 = .ok (.getfield 15, 3) := by decide +kernel
theorem dX6_operandAt_16 : decode cX6_operandAt 16 = .ok (.iload_n 1, 1) := by decide +kernel
theorem dX6_operandAt_17 : decode cX6_operandAt 17 = .ok (.iaload, 1) := by decide +kernel
theorem dX6_operandAt_18 : decode cX6_operandAt 18 = .ok (.goto 4, 3) := by decide +kernel
theorem dX6_operandAt_21 : decode cX6_operandAt 21 = .ok (.iconst 0, 1) := by decide +kernel
theorem dX6_operandAt_22 : decode cX6_operandAt 22 = .ok (.ireturn, 1) := by decide +kernel
theorem dX6_formAt_0 : decode cX6_formAt 0 = .ok (.iload_n 1, 1) := by decide +kernel
theorem dX6_formAt_1 : decode cX6_formAt 1 = .ok (.ifCond .lt 20, 3) := by decide +kernel
theorem dX6_formAt_4 : decode cX6_formAt 4 = .ok (.iload_n 1, 1) := by decide +kernel
theorem dX6_formAt_5 : decode cX6_formAt 5 = .ok (.aload_n 0, 1) := by decide +kernel
theorem dX6_formAt_6 : decode cX6_formAt 6 = .ok (.getfield 21, 3) := by decide +kernel
theorem dX6_formAt_9 : decode cX6_formAt 9 = .ok (.if_icmp .ge 12, 3) := by decide +kernel
theorem dX6_formAt_12 : decode cX6_formAt 12 = .ok (.aload_n 0, 1) := by decide +kernel
theorem dX6_formAt_13 : decode cX6_formAt 13 = .ok (.getfield 18, 3) := by decide +kernel
theorem dX6_formAt_16 : decode cX6_formAt 16 = .ok (.iload_n 1, 1) := by decide +kernel
theorem dX6_formAt_17 : decode cX6_formAt 17 = .ok (.iaload, 1) := by decide +kernel
theorem dX6_formAt_18 : decode cX6_formAt 18 = .ok (.goto 4, 3) := by decide +kernel
theorem dX6_formAt_21 : decode cX6_formAt 21 = .ok (.iconst 0, 1) := by decide +kernel
theorem dX6_formAt_22 : decode cX6_formAt 22 = .ok (.ireturn, 1) := by decide +kernel
theorem dX6_isTransfer_0 : decode cX6_isTransfer 0 = .ok (.aload_n 0, 1) := by decide +kernel
theorem dX6_isTransfer_1 : decode cX6_isTransfer 1 = .ok (.iload_n 1, 1) := by decide +kernel
theorem dX6_isTransfer_2 : decode cX6_isTransfer 2 = .ok (.invokevirtual 25, 3) := by decide +kernel
theorem dX6_isTransfer_5 : decode cX6_isTransfer 5 = .ok (.istore_n 2, 1) := by decide +kernel
theorem dX6_isTransfer_6 : decode cX6_isTransfer 6 = .ok (.iload_n 2, 1) := by decide +kernel
theorem dX6_isTransfer_7 : decode cX6_isTransfer 7 = .ok (.iconst 4, 1) := by decide +kernel
theorem dX6_isTransfer_8 : decode cX6_isTransfer 8 = .ok (.if_icmp .eq 8, 3) := by decide +kernel
theorem dX6_isTransfer_11 : decode cX6_isTransfer 11 = .ok (.iload_n 2, 1) := by decide +kernel
theorem dX6_isTransfer_12 : decode cX6_isTransfer 12 = .ok (.iconst 5, 1) := by decide +kernel
theorem dX6_isTransfer_13 : decode cX6_isTransfer 13 = .ok (.if_icmp .ne 7, 3) := by decide +kernel
theorem dX6_isTransfer_16 : decode cX6_isTransfer 16 = .ok (.iconst 1, 1) := by decide +kernel
theorem dX6_isTransfer_17 : decode cX6_isTransfer 17 = .ok (.goto 4, 3) := by decide +kernel
theorem dX6_isTransfer_20 : decode cX6_isTransfer 20 = .ok (.iconst 0, 1) := by decide +kernel
theorem dX6_isTransfer_21 : decode cX6_isTransfer 21 = .ok (.ireturn, 1) := by decide +kernel
theorem dX6_defines_0 : decode cX6_defines 0 = .ok (.iconst 0, 1) := by decide +kernel
theorem dX6_defines_1 : decode cX6_defines 1 = .ok (.istore_n 2, 1) := by decide +kernel
theorem dX6_defines_2 : decode cX6_defines 2 = .ok (.iload_n 2, 1) := by decide +kernel
theorem dX6_defines_3 : decode cX6_defines 3 = .ok (.aload_n 0, 1) := by decide +kernel
theorem dX6_defines_4 : decode cX6_defines 4 = .ok (.getfield 21, 3) := by decide +kernel
theorem dX6_defines_7 : decode cX6_defines 7 = .ok (.if_icmp .ge 31, 3) := by decide +kernel
theorem dX6_defines_10 : decode cX6_defines 10 = .ok (.aload_n 0, 1) := by decide +kernel
theorem dX6_defines_11 : decode cX6_defines 11 = .ok (.getfield 9, 3) := by decide +kernel
theorem dX6_defines_14 : decode cX6_defines 14 = .ok (.iload_n 2, 1) := by decide +kernel
theorem dX6_defines_15 : decode cX6_defines 15 = .ok (.iaload, 1) := by decide +kernel
theorem dX6_defines_16 : decode cX6_defines 16 = .ok (.iconst 2, 1) := by decide +kernel
theorem dX6_defines_17 : decode cX6_defines 17 = .ok (.if_icmp .ne 15, 3) := by decide +kernel
theorem dX6_defines_20 : decode cX6_defines 20 = .ok (.aload_n 0, 1) := by decide +kernel
theorem dX6_defines_21 : decode cX6_defines 21 = .ok (.getfield 15, 3) := by decide +kernel
theorem dX6_defines_24 : decode cX6_defines 24 = .ok (.iload_n 2, 1) := by decide +kernel
theorem dX6_defines_25 : decode cX6_defines 25 = .ok (.iaload, 1) := by decide +kernel
theorem dX6_defines_26 : decode cX6_defines 26 = .ok (.iload_n 1, 1) := by decide +kernel
theorem dX6_defines_27 : decode cX6_defines 27 = .ok (.if_icmp .ne 5, 3) := by decide +kernel
theorem dX6_defines_30 : decode cX6_defines 30 = .ok (.iconst 1, 1) := by decide +kernel
theorem dX6_defines_31 : decode cX6_defines 31 = .ok (.ireturn, 1) := by decide +kernel
theorem dX6_defines_32 : decode cX6_defines 32 = .ok (.iinc 2 1, 3) := by decide +kernel
theorem dX6_defines_35 : decode cX6_defines 35 = .ok (.goto (-33), 3) := by decide +kernel
theorem dX6_defines_38 : decode cX6_defines 38 = .ok (.iconst 0, 1) := by decide +kernel
theorem dX6_defines_39 : decode cX6_defines 39 = .ok (.ireturn, 1) := by decide +kernel
theorem dX6_clear_0 : decode cX6_clear 0 = .ok (.aload_n 0, 1) := by decide +kernel
theorem dX6_clear_1 : decode cX6_clear 1 = .ok (.iconst 0, 1) := by decide +kernel
theorem dX6_clear_2 : decode cX6_clear 2 = .ok (.putfield 21, 3) := by decide +kernel
theorem dX6_clear_5 : decode cX6_clear 5 = .ok (.return_, 1) := by decide +kernel
theorem dX6_putForm_0 : decode cX6_putForm 0 = .ok (.aload_n 0, 1) := by decide +kernel
theorem dX6_putForm_1 : decode cX6_putForm 1 = .ok (.iload_n 1, 1) := by decide +kernel
theorem dX6_putForm_2 : decode cX6_putForm 2 = .ok (.invokevirtual 29, 3) := by decide +kernel
theorem dX6_putForm_5 : decode cX6_putForm 5 = .ok (.ifCond .eq 10, 3) := by decide +kernel
theorem dX6_putForm_8 : decode cX6_putForm 8 = .ok (.aload_n 0, 1) := by decide +kernel
theorem dX6_putForm_9 : decode cX6_putForm 9 = .ok (.getfield 18, 3) := by decide +kernel
theorem dX6_putForm_12 : decode cX6_putForm 12 = .ok (.iload_n 1, 1) := by decide +kernel
theorem dX6_putForm_13 : decode cX6_putForm 13 = .ok (.iload_n 2, 1) := by decide +kernel
theorem dX6_putForm_14 : decode cX6_putForm 14 = .ok (.iastore, 1) := by decide +kernel
theorem dX6_putForm_15 : decode cX6_putForm 15 = .ok (.return_, 1) := by decide +kernel
theorem dX6_putAt_0 : decode cX6_putAt 0 = .ok (.aload_n 0, 1) := by decide +kernel
theorem dX6_putAt_1 : decode cX6_putAt 1 = .ok (.invokevirtual 33, 3) := by decide +kernel
theorem dX6_putAt_4 : decode cX6_putAt 4 = .ok (.ifCond .ne 15, 3) := by decide +kernel
theorem dX6_putAt_7 : decode cX6_putAt 7 = .ok (.iload_n 1, 1) := by decide +kernel
theorem dX6_putAt_8 : decode cX6_putAt 8 = .ok (.ifCond .lt 11, 3) := by decide +kernel
theorem dX6_putAt_11 : decode cX6_putAt 11 = .ok (.iload_n 1, 1) := by decide +kernel
theorem dX6_putAt_12 : decode cX6_putAt 12 = .ok (.aload_n 0, 1) := by decide +kernel
theorem dX6_putAt_13 : decode cX6_putAt 13 = .ok (.getfield 21, 3) := by decide +kernel
theorem dX6_putAt_16 : decode cX6_putAt 16 = .ok (.if_icmp .le 4, 3) := by decide +kernel
theorem dX6_putAt_19 : decode cX6_putAt 19 = .ok (.return_, 1) := by decide +kernel
theorem dX6_putAt_20 : decode cX6_putAt 20 = .ok (.aload_n 0, 1) := by decide +kernel
theorem dX6_putAt_21 : decode cX6_putAt 21 = .ok (.getfield 21, 3) := by decide +kernel
theorem dX6_putAt_24 : decode cX6_putAt 24 = .ok (.istore 5, 2) := by decide +kernel
theorem dX6_putAt_26 : decode cX6_putAt 26 = .ok (.iload 5, 2) := by decide +kernel
theorem dX6_putAt_28 : decode cX6_putAt 28 = .ok (.iload_n 1, 1) := by decide +kernel
theorem dX6_putAt_29 : decode cX6_putAt 29 = .ok (.if_icmp .le 57, 3) := by decide +kernel
theorem dX6_putAt_32 : decode cX6_putAt 32 = .ok (.aload_n 0, 1) := by decide +kernel
theorem dX6_putAt_33 : decode cX6_putAt 33 = .ok (.getfield 9, 3) := by decide +kernel
theorem dX6_putAt_36 : decode cX6_putAt 36 = .ok (.iload 5, 2) := by decide +kernel
theorem dX6_putAt_38 : decode cX6_putAt 38 = .ok (.aload_n 0, 1) := by decide +kernel
theorem dX6_putAt_39 : decode cX6_putAt 39 = .ok (.getfield 9, 3) := by decide +kernel
theorem dX6_putAt_42 : decode cX6_putAt 42 = .ok (.iload 5, 2) := by decide +kernel
theorem dX6_putAt_44 : decode cX6_putAt 44 = .ok (.iconst 1, 1) := by decide +kernel
theorem dX6_putAt_45 : decode cX6_putAt 45 = .ok (.isub, 1) := by decide +kernel
theorem dX6_putAt_46 : decode cX6_putAt 46 = .ok (.iaload, 1) := by decide +kernel
theorem dX6_putAt_47 : decode cX6_putAt 47 = .ok (.iastore, 1) := by decide +kernel
theorem dX6_putAt_48 : decode cX6_putAt 48 = .ok (.aload_n 0, 1) := by decide +kernel
theorem dX6_putAt_49 : decode cX6_putAt 49 = .ok (.getfield 15, 3) := by decide +kernel
theorem dX6_putAt_52 : decode cX6_putAt 52 = .ok (.iload 5, 2) := by decide +kernel
theorem dX6_putAt_54 : decode cX6_putAt 54 = .ok (.aload_n 0, 1) := by decide +kernel
theorem dX6_putAt_55 : decode cX6_putAt 55 = .ok (.getfield 15, 3) := by decide +kernel
theorem dX6_putAt_58 : decode cX6_putAt 58 = .ok (.iload 5, 2) := by decide +kernel
theorem dX6_putAt_60 : decode cX6_putAt 60 = .ok (.iconst 1, 1) := by decide +kernel
theorem dX6_putAt_61 : decode cX6_putAt 61 = .ok (.isub, 1) := by decide +kernel
theorem dX6_putAt_62 : decode cX6_putAt 62 = .ok (.iaload, 1) := by decide +kernel
theorem dX6_putAt_63 : decode cX6_putAt 63 = .ok (.iastore, 1) := by decide +kernel
theorem dX6_putAt_64 : decode cX6_putAt 64 = .ok (.aload_n 0, 1) := by decide +kernel
theorem dX6_putAt_65 : decode cX6_putAt 65 = .ok (.getfield 18, 3) := by decide +kernel
theorem dX6_putAt_68 : decode cX6_putAt 68 = .ok (.iload 5, 2) := by decide +kernel
theorem dX6_putAt_70 : decode cX6_putAt 70 = .ok (.aload_n 0, 1) := by decide +kernel
theorem dX6_putAt_71 : decode cX6_putAt 71 = .ok (.getfield 18, 3) := by decide +kernel
theorem dX6_putAt_74 : decode cX6_putAt 74 = .ok (.iload 5, 2) := by decide +kernel
theorem dX6_putAt_76 : decode cX6_putAt 76 = .ok (.iconst 1, 1) := by decide +kernel
theorem dX6_putAt_77 : decode cX6_putAt 77 = .ok (.isub, 1) := by decide +kernel
theorem dX6_putAt_78 : decode cX6_putAt 78 = .ok (.iaload, 1) := by decide +kernel
theorem dX6_putAt_79 : decode cX6_putAt 79 = .ok (.iastore, 1) := by decide +kernel
theorem dX6_putAt_80 : decode cX6_putAt 80 = .ok (.iinc 5 (-1), 3) := by decide +kernel
theorem dX6_putAt_83 : decode cX6_putAt 83 = .ok (.goto (-57), 3) := by decide +kernel
theorem dX6_putAt_86 : decode cX6_putAt 86 = .ok (.aload_n 0, 1) := by decide +kernel
theorem dX6_putAt_87 : decode cX6_putAt 87 = .ok (.getfield 9, 3) := by decide +kernel
theorem dX6_putAt_90 : decode cX6_putAt 90 = .ok (.iload_n 1, 1) := by decide +kernel
theorem dX6_putAt_91 : decode cX6_putAt 91 = .ok (.iload_n 2, 1) := by decide +kernel
theorem dX6_putAt_92 : decode cX6_putAt 92 = .ok (.iastore, 1) := by decide +kernel
theorem dX6_putAt_93 : decode cX6_putAt 93 = .ok (.aload_n 0, 1) := by decide +kernel
theorem dX6_putAt_94 : decode cX6_putAt 94 = .ok (.getfield 15, 3) := by decide +kernel
theorem dX6_putAt_97 : decode cX6_putAt 97 = .ok (.iload_n 1, 1) := by decide +kernel
theorem dX6_putAt_98 : decode cX6_putAt 98 = .ok (.iload_n 3, 1) := by decide +kernel
theorem dX6_putAt_99 : decode cX6_putAt 99 = .ok (.iastore, 1) := by decide +kernel
theorem dX6_putAt_100 : decode cX6_putAt 100 = .ok (.aload_n 0, 1) := by decide +kernel
theorem dX6_putAt_101 : decode cX6_putAt 101 = .ok (.getfield 18, 3) := by decide +kernel
theorem dX6_putAt_104 : decode cX6_putAt 104 = .ok (.iload_n 1, 1) := by decide +kernel
theorem dX6_putAt_105 : decode cX6_putAt 105 = .ok (.iload 4, 2) := by decide +kernel
theorem dX6_putAt_107 : decode cX6_putAt 107 = .ok (.iastore, 1) := by decide +kernel
theorem dX6_putAt_108 : decode cX6_putAt 108 = .ok (.aload_n 0, 1) := by decide +kernel
theorem dX6_putAt_109 : decode cX6_putAt 109 = .ok (.dup, 1) := by decide +kernel
theorem dX6_putAt_110 : decode cX6_putAt 110 = .ok (.getfield 21, 3) := by decide +kernel
theorem dX6_putAt_113 : decode cX6_putAt 113 = .ok (.iconst 1, 1) := by decide +kernel
theorem dX6_putAt_114 : decode cX6_putAt 114 = .ok (.iadd, 1) := by decide +kernel
theorem dX6_putAt_115 : decode cX6_putAt 115 = .ok (.putfield 21, 3) := by decide +kernel
theorem dX6_putAt_118 : decode cX6_putAt 118 = .ok (.return_, 1) := by decide +kernel
theorem dX6_takeOut_0 : decode cX6_takeOut 0 = .ok (.aload_n 0, 1) := by decide +kernel
theorem dX6_takeOut_1 : decode cX6_takeOut 1 = .ok (.iload_n 1, 1) := by decide +kernel
theorem dX6_takeOut_2 : decode cX6_takeOut 2 = .ok (.invokevirtual 29, 3) := by decide +kernel
theorem dX6_takeOut_5 : decode cX6_takeOut 5 = .ok (.ifCond .ne 4, 3) := by decide +kernel
theorem dX6_takeOut_8 : decode cX6_takeOut 8 = .ok (.return_, 1) := by decide +kernel
theorem dX6_takeOut_9 : decode cX6_takeOut 9 = .ok (.iload_n 1, 1) := by decide +kernel
theorem dX6_takeOut_10 : decode cX6_takeOut 10 = .ok (.istore_n 2, 1) := by decide +kernel
theorem dX6_takeOut_11 : decode cX6_takeOut 11 = .ok (.iload_n 2, 1) := by decide +kernel
theorem dX6_takeOut_12 : decode cX6_takeOut 12 = .ok (.aload_n 0, 1) := by decide +kernel
theorem dX6_takeOut_13 : decode cX6_takeOut 13 = .ok (.getfield 21, 3) := by decide +kernel
theorem dX6_takeOut_16 : decode cX6_takeOut 16 = .ok (.iconst 1, 1) := by decide +kernel
theorem dX6_takeOut_17 : decode cX6_takeOut 17 = .ok (.isub, 1) := by decide +kernel
theorem dX6_takeOut_18 : decode cX6_takeOut 18 = .ok (.if_icmp .ge 51, 3) := by decide +kernel
theorem dX6_takeOut_21 : decode cX6_takeOut 21 = .ok (.aload_n 0, 1) := by decide +kernel
theorem dX6_takeOut_22 : decode cX6_takeOut 22 = .ok (.getfield 9, 3) := by decide +kernel
theorem dX6_takeOut_25 : decode cX6_takeOut 25 = .ok (.iload_n 2, 1) := by decide +kernel
theorem dX6_takeOut_26 : decode cX6_takeOut 26 = .ok (.aload_n 0, 1) := by decide +kernel
theorem dX6_takeOut_27 : decode cX6_takeOut 27 = .ok (.getfield 9, 3) := by decide +kernel
theorem dX6_takeOut_30 : decode cX6_takeOut 30 = .ok (.iload_n 2, 1) := by decide +kernel
theorem dX6_takeOut_31 : decode cX6_takeOut 31 = .ok (.iconst 1, 1) := by decide +kernel
theorem dX6_takeOut_32 : decode cX6_takeOut 32 = .ok (.iadd, 1) := by decide +kernel
theorem dX6_takeOut_33 : decode cX6_takeOut 33 = .ok (.iaload, 1) := by decide +kernel
theorem dX6_takeOut_34 : decode cX6_takeOut 34 = .ok (.iastore, 1) := by decide +kernel
theorem dX6_takeOut_35 : decode cX6_takeOut 35 = .ok (.aload_n 0, 1) := by decide +kernel
theorem dX6_takeOut_36 : decode cX6_takeOut 36 = .ok (.getfield 15, 3) := by decide +kernel
theorem dX6_takeOut_39 : decode cX6_takeOut 39 = .ok (.iload_n 2, 1) := by decide +kernel
theorem dX6_takeOut_40 : decode cX6_takeOut 40 = .ok (.aload_n 0, 1) := by decide +kernel
theorem dX6_takeOut_41 : decode cX6_takeOut 41 = .ok (.getfield 15, 3) := by decide +kernel
theorem dX6_takeOut_44 : decode cX6_takeOut 44 = .ok (.iload_n 2, 1) := by decide +kernel
theorem dX6_takeOut_45 : decode cX6_takeOut 45 = .ok (.iconst 1, 1) := by decide +kernel
theorem dX6_takeOut_46 : decode cX6_takeOut 46 = .ok (.iadd, 1) := by decide +kernel
theorem dX6_takeOut_47 : decode cX6_takeOut 47 = .ok (.iaload, 1) := by decide +kernel
theorem dX6_takeOut_48 : decode cX6_takeOut 48 = .ok (.iastore, 1) := by decide +kernel
theorem dX6_takeOut_49 : decode cX6_takeOut 49 = .ok (.aload_n 0, 1) := by decide +kernel
theorem dX6_takeOut_50 : decode cX6_takeOut 50 = .ok (.getfield 18, 3) := by decide +kernel
theorem dX6_takeOut_53 : decode cX6_takeOut 53 = .ok (.iload_n 2, 1) := by decide +kernel
theorem dX6_takeOut_54 : decode cX6_takeOut 54 = .ok (.aload_n 0, 1) := by decide +kernel
theorem dX6_takeOut_55 : decode cX6_takeOut 55 = .ok (.getfield 18, 3) := by decide +kernel
theorem dX6_takeOut_58 : decode cX6_takeOut 58 = .ok (.iload_n 2, 1) := by decide +kernel
theorem dX6_takeOut_59 : decode cX6_takeOut 59 = .ok (.iconst 1, 1) := by decide +kernel
theorem dX6_takeOut_60 : decode cX6_takeOut 60 = .ok (.iadd, 1) := by decide +kernel
theorem dX6_takeOut_61 : decode cX6_takeOut 61 = .ok (.iaload, 1) := by decide +kernel
theorem dX6_takeOut_62 : decode cX6_takeOut 62 = .ok (.iastore, 1) := by decide +kernel
theorem dX6_takeOut_63 : decode cX6_takeOut 63 = .ok (.iinc 2 1, 3) := by decide +kernel
theorem dX6_takeOut_66 : decode cX6_takeOut 66 = .ok (.goto (-55), 3) := by decide +kernel
theorem dX6_takeOut_69 : decode cX6_takeOut 69 = .ok (.aload_n 0, 1) := by decide +kernel
theorem dX6_takeOut_70 : decode cX6_takeOut 70 = .ok (.dup, 1) := by decide +kernel
theorem dX6_takeOut_71 : decode cX6_takeOut 71 = .ok (.getfield 21, 3) := by decide +kernel
theorem dX6_takeOut_74 : decode cX6_takeOut 74 = .ok (.iconst 1, 1) := by decide +kernel
theorem dX6_takeOut_75 : decode cX6_takeOut 75 = .ok (.isub, 1) := by decide +kernel
theorem dX6_takeOut_76 : decode cX6_takeOut 76 = .ok (.putfield 21, 3) := by decide +kernel
theorem dX6_takeOut_79 : decode cX6_takeOut 79 = .ok (.return_, 1) := by decide +kernel
theorem dX6_copyFrom_0 : decode cX6_copyFrom 0 = .ok (.iconst 0, 1) := by decide +kernel
theorem dX6_copyFrom_1 : decode cX6_copyFrom 1 = .ok (.istore_n 2, 1) := by decide +kernel
theorem dX6_copyFrom_2 : decode cX6_copyFrom 2 = .ok (.iload_n 2, 1) := by decide +kernel
theorem dX6_copyFrom_3 : decode cX6_copyFrom 3 = .ok (.aload_n 1, 1) := by decide +kernel
theorem dX6_copyFrom_4 : decode cX6_copyFrom 4 = .ok (.getfield 21, 3) := by decide +kernel
theorem dX6_copyFrom_7 : decode cX6_copyFrom 7 = .ok (.if_icmp .ge 45, 3) := by decide +kernel
theorem dX6_copyFrom_10 : decode cX6_copyFrom 10 = .ok (.aload_n 0, 1) := by decide +kernel
theorem dX6_copyFrom_11 : decode cX6_copyFrom 11 = .ok (.getfield 9, 3) := by decide +kernel
theorem dX6_copyFrom_14 : decode cX6_copyFrom 14 = .ok (.iload_n 2, 1) := by decide +kernel
theorem dX6_copyFrom_15 : decode cX6_copyFrom 15 = .ok (.aload_n 1, 1) := by decide +kernel
theorem dX6_copyFrom_16 : decode cX6_copyFrom 16 = .ok (.getfield 9, 3) := by decide +kernel
theorem dX6_copyFrom_19 : decode cX6_copyFrom 19 = .ok (.iload_n 2, 1) := by decide +kernel
theorem dX6_copyFrom_20 : decode cX6_copyFrom 20 = .ok (.iaload, 1) := by decide +kernel
theorem dX6_copyFrom_21 : decode cX6_copyFrom 21 = .ok (.iastore, 1) := by decide +kernel
theorem dX6_copyFrom_22 : decode cX6_copyFrom 22 = .ok (.aload_n 0, 1) := by decide +kernel
theorem dX6_copyFrom_23 : decode cX6_copyFrom 23 = .ok (.getfield 15, 3) := by decide +kernel
theorem dX6_copyFrom_26 : decode cX6_copyFrom 26 = .ok (.iload_n 2, 1) := by decide +kernel
theorem dX6_copyFrom_27 : decode cX6_copyFrom 27 = .ok (.aload_n 1, 1) := by decide +kernel
theorem dX6_copyFrom_28 : decode cX6_copyFrom 28 = .ok (.getfield 15, 3) := by decide +kernel
theorem dX6_copyFrom_31 : decode cX6_copyFrom 31 = .ok (.iload_n 2, 1) := by decide +kernel
theorem dX6_copyFrom_32 : decode cX6_copyFrom 32 = .ok (.iaload, 1) := by decide +kernel
theorem dX6_copyFrom_33 : decode cX6_copyFrom 33 = .ok (.iastore, 1) := by decide +kernel
theorem dX6_copyFrom_34 : decode cX6_copyFrom 34 = .ok (.aload_n 0, 1) := by decide +kernel
theorem dX6_copyFrom_35 : decode cX6_copyFrom 35 = .ok (.getfield 18, 3) := by decide +kernel
theorem dX6_copyFrom_38 : decode cX6_copyFrom 38 = .ok (.iload_n 2, 1) := by decide +kernel
theorem dX6_copyFrom_39 : decode cX6_copyFrom 39 = .ok (.aload_n 1, 1) := by decide +kernel
theorem dX6_copyFrom_40 : decode cX6_copyFrom 40 = .ok (.getfield 18, 3) := by decide +kernel
theorem dX6_copyFrom_43 : decode cX6_copyFrom 43 = .ok (.iload_n 2, 1) := by decide +kernel
theorem dX6_copyFrom_44 : decode cX6_copyFrom 44 = .ok (.iaload, 1) := by decide +kernel
theorem dX6_copyFrom_45 : decode cX6_copyFrom 45 = .ok (.iastore, 1) := by decide +kernel
theorem dX6_copyFrom_46 : decode cX6_copyFrom 46 = .ok (.iinc 2 1, 3) := by decide +kernel
theorem dX6_copyFrom_49 : decode cX6_copyFrom 49 = .ok (.goto (-47), 3) := by decide +kernel
theorem dX6_copyFrom_52 : decode cX6_copyFrom 52 = .ok (.aload_n 0, 1) := by decide +kernel
theorem dX6_copyFrom_53 : decode cX6_copyFrom 53 = .ok (.aload_n 1, 1) := by decide +kernel
theorem dX6_copyFrom_54 : decode cX6_copyFrom 54 = .ok (.getfield 21, 3) := by decide +kernel
theorem dX6_copyFrom_57 : decode cX6_copyFrom 57 = .ok (.putfield 21, 3) := by decide +kernel
theorem dX6_copyFrom_60 : decode cX6_copyFrom 60 = .ok (.return_, 1) := by decide +kernel
