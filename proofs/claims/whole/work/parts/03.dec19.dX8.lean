theorem dX8_init_0 : decode cX8_init 0 = .ok (.aload_n 0, 1) := by decide +kernel
theorem dX8_init_1 : decode cX8_init 1 = .ok (.invokespecial 3, 3) := by decide +kernel
theorem dX8_init_4 : decode cX8_init 4 = .ok (.aload_n 0, 1) := by decide +kernel
theorem dX8_init_5 : decode cX8_init 5 = .ok (.new 9, 3) := by decide +kernel
theorem dX8_init_8 : decode cX8_init 8 = .ok (.dup, 1) := by decide +kernel
theorem dX8_init_9 : decode cX8_init 9 = .ok (.invokespecial 11, 3) := by decide +kernel
theorem dX8_init_12 : decode cX8_init 12 = .ok (.putfield 12, 3) := by decide +kernel
theorem dX8_init_15 : decode cX8_init 15 = .ok (.aload_n 0, 1) := by decide +kernel
theorem dX8_init_16 : decode cX8_init 16 = .ok (.new 9, 3) := by decide +kernel
theorem dX8_init_19 : decode cX8_init 19 = .ok (.dup, 1) := by decide +kernel
theorem dX8_init_20 : decode cX8_init 20 = .ok (.invokespecial 11, 3) := by decide +kernel
theorem dX8_init_23 : decode cX8_init 23 = .ok (.putfield 16, 3) := by decide +kernel
theorem dX8_init_26 : decode cX8_init 26 = .ok (.aload_n 0, 1) := by decide +kernel
theorem dX8_init_27 : decode cX8_init 27 = .ok (.new 19, 3) := by decide +kernel
theorem dX8_init_30 : decode cX8_init 30 = .ok (.dup, 1) := by decide +kernel
theorem dX8_init_31 : decode cX8_init 31 = .ok (.invokespecial 21, 3) := by decide +kernel
theorem dX8_init_34 : decode cX8_init 34 = .ok (.putfield 22, 3) := by decide +kernel
theorem dX8_init_37 : decode cX8_init 37 = .ok (.aload_n 0, 1) := by decide +kernel
theorem dX8_init_38 : decode cX8_init 38 = .ok (.new 26, 3) := by decide +kernel
theorem dX8_init_41 : decode cX8_init 41 = .ok (.dup, 1) := by decide +kernel
theorem dX8_init_42 : decode cX8_init 42 = .ok (.invokespecial 28, 3) := by decide +kernel
theorem dX8_init_45 : decode cX8_init 45 = .ok (.putfield 29, 3) := by decide +kernel
theorem dX8_init_48 : decode cX8_init 48 = .ok (.aload_n 0, 1) := by decide +kernel
theorem dX8_init_49 : decode cX8_init 49 = .ok (.new 33, 3) := by decide +kernel
theorem dX8_init_52 : decode cX8_init 52 = .ok (.dup, 1) := by decide +kernel
theorem dX8_init_53 : decode cX8_init 53 = .ok (.aload_n 0, 1) := by decide +kernel
theorem dX8_init_54 : decode cX8_init 54 = .ok (.getfield 12, 3) := by decide +kernel
theorem dX8_init_57 : decode cX8_init 57 = .ok (.invokespecial 35, 3) := by decide +kernel
theorem dX8_init_60 : decode cX8_init 60 = .ok (.putfield 38, 3) := by decide +kernel
theorem dX8_init_63 : decode cX8_init 63 = .ok (.aload_n 0, 1) := by decide +kernel
theorem dX8_init_64 : decode cX8_init 64 = .ok (.new 42, 3) := by decide +kernel
theorem dX8_init_67 : decode cX8_init 67 = .ok (.dup, 1) := by decide +kernel
theorem dX8_init_68 : decode cX8_init 68 = .ok (.aload_n 0, 1) := by decide +kernel
theorem dX8_init_69 : decode cX8_init 69 = .ok (.getfield 12, 3) := by decide +kernel
theorem dX8_init_72 : decode cX8_init 72 = .ok (.aload_n 0, 1) := by decide +kernel
theorem dX8_init_73 : decode cX8_init 73 = .ok (.getfield 38, 3) := by decide +kernel
theorem dX8_init_76 : decode cX8_init 76 = .ok (.invokespecial 44, 3) := by decide +kernel
theorem dX8_init_79 : decode cX8_init 79 = .ok (.putfield 47, 3) := by decide +kernel
theorem dX8_init_82 : decode cX8_init 82 = .ok (.aload_n 0, 1) := by decide +kernel
theorem dX8_init_83 : decode cX8_init 83 = .ok (.new 51, 3) := by decide +kernel
theorem dX8_init_86 : decode cX8_init 86 = .ok (.dup, 1) := by decide +kernel
theorem dX8_init_87 : decode cX8_init 87 = .ok (.aload_n 0, 1) := by decide +kernel
theorem dX8_init_88 : decode cX8_init 88 = .ok (.getfield 12, 3) := by decide +kernel
theorem dX8_init_91 : decode cX8_init 91 = .ok (.aload_n 0, 1) := by decide +kernel
theorem dX8_init_92 : decode cX8_init 92 = .ok (.getfield 38, 3) := by decide +kernel
theorem dX8_init_95 : decode cX8_init 95 = .ok (.aload_n 0, 1) := by decide +kernel
theorem dX8_init_96 : decode cX8_init 96 = .ok (.getfield 47, 3) := by decide +kernel
theorem dX8_init_99 : decode cX8_init 99 = .ok (.invokespecial 53, 3) := by decide +kernel
theorem dX8_init_102 : decode cX8_init 102 = .ok (.putfield 56, 3) := by decide +kernel
theorem dX8_init_105 : decode cX8_init 105 = .ok (.aload_n 0, 1) := by decide +kernel
theorem dX8_init_106 : decode cX8_init 106 = .ok (.new 60, 3) := by decide +kernel
theorem dX8_init_109 : decode cX8_init 109 = .ok (.dup, 1) := by decide +kernel
theorem dX8_init_110 : decode cX8_init 110 = .ok (.aload_n 0, 1) := by decide +kernel
theorem dX8_init_111 : decode cX8_init 111 = .ok (.getfield 12, 3) := by decide +kernel
theorem dX8_init_114 : decode cX8_init 114 = .ok (.aload_n 0, 1) := by decide +kernel
theorem dX8_init_115 : decode cX8_init 115 = .ok (.getfield 38, 3) := by decide +kernel
theorem dX8_init_118 : decode cX8_init 118 = .ok (.aload_n 0, 1) := by decide +kernel
theorem dX8_init_119 : decode cX8_init 119 = .ok (.getfield 47, 3) := by decide +kernel
theorem dX8_init_122 : decode cX8_init 122 = .ok (.invokespecial 62, 3) := by decide +kernel
theorem dX8_init_125 : decode cX8_init 125 = .ok (.putfield 63, 3) := by decide +kernel
theorem dX8_init_128 : decode cX8_init 128 = .ok (.aload_n 0, 1) := by decide +kernel
theorem dX8_init_129 : decode cX8_init 129 = .ok (.new 67, 3) := by decide +kernel
theorem dX8_init_132 : decode cX8_init 132 = .ok (.dup, 1) := by decide +kernel
theorem dX8_init_133 : decode cX8_init 133 = .ok (.aload_n 0, 1) := by decide +kernel
theorem dX8_init_134 : decode cX8_init 134 = .ok (.getfield 12, 3) := by decide +kernel
theorem dX8_init_137 : decode cX8_init 137 = .ok (.aload_n 0, 1) := by decide +kernel
theorem dX8_init_138 : decode cX8_init 138 = .ok (.getfield 47, 3) := by decide +kernel
theorem dX8_init_141 : decode cX8_init 141 = .ok (.invokespecial 69, 3) := by decide +kernel
theorem dX8_init_144 : decode cX8_init 144 = .ok (.putfield 72, 3) := by decide +kernel
theorem dX8_init_147 : decode cX8_init 147 = .ok (.aload_n 0, 1) := by decide +kernel
theorem dX8_init_148 : decode cX8_init 148 = .ok (.iconst 0, 1) := by decide +kernel
theorem dX8_init_149 : decode cX8_init 149 = .ok (.putfield 76, 3) := by decide +kernel
theorem dX8_init_152 : decode cX8_init 152 = .ok (.aload_n 0, 1) := by decide +kernel
theorem dX8_init_153 : decode cX8_init 153 = .ok (.iconst (-1), 1) := by decide +kernel
theorem dX8_init_154 : decode cX8_init 154 = .ok (.putfield 80, 3) := by decide +kernel
theorem dX8_init_157 : decode cX8_init 157 = .ok (.return_, 1) := by decide +kernel
theorem dX8_reset_0 : decode cX8_reset 0 = .ok (.aload_n 0, 1) := by decide +kernel
theorem dX8_reset_1 : decode cX8_reset 1 = .ok (.getfield 12, 3) := by decide +kernel
theorem dX8_reset_4 : decode cX8_reset 4 = .ok (.invokevirtual 84, 3) := by decide +kernel
theorem dX8_reset_7 : decode cX8_reset 7 = .ok (.istore_n 1, 1) := by decide +kernel
theorem dX8_reset_8 : decode cX8_reset 8 = .ok (.aload_n 0, 1) := by decide +kernel
theorem dX8_reset_9 : decode cX8_reset 9 = .ok (.getfield 12, 3) := by decide +kernel
theorem dX8_reset_12 : decode cX8_reset 12 = .ok (.invokevirtual 88, 3) := by decide +kernel
theorem dX8_reset_15 : decode cX8_reset 15 = .ok (.aload_n 0, 1) := by decide +kernel
theorem dX8_reset_16 : decode cX8_reset 16 = .ok (.getfield 22, 3) := by decide +kernel
theorem dX8_reset_19 : decode cX8_reset 19 = .ok (.invokevirtual 91, 3) := by decide +kernel
theorem dX8_reset_22 : decode cX8_reset 22 = .ok (.iload_n 1, 1) := by decide +kernel
theorem dX8_reset_23 : decode cX8_reset 23 = .ok (.ireturn, 1) := by decide +kernel
theorem dX8_itemCount_0 : decode cX8_itemCount 0 = .ok (.aload_n 0, 1) := by decide +kernel
theorem dX8_itemCount_1 : decode cX8_itemCount 1 = .ok (.getfield 12, 3) := by decide +kernel
theorem dX8_itemCount_4 : decode cX8_itemCount 4 = .ok (.invokevirtual 84, 3) := by decide +kernel
theorem dX8_itemCount_7 : decode cX8_itemCount 7 = .ok (.ireturn, 1) := by decide +kernel
theorem dX8_append_0 : decode cX8_append 0 = .ok (.iload_n 1, 1) := by decide +kernel
theorem dX8_append_1 : decode cX8_append 1 = .ok (.bipush 32, 2) := by decide +kernel
theorem dX8_append_3 : decode cX8_append 3 = .ok (.if_icmp .lt 9, 3) := by decide +kernel
theorem dX8_append_6 : decode cX8_append 6 = .ok (.iload_n 1, 1) := by decide +kernel
theorem dX8_append_7 : decode cX8_append 7 = .ok (.bipush 126, 2) := by decide +kernel
theorem dX8_append_9 : decode cX8_append 9 = .ok (.if_icmp .le 13, 3) := by decide +kernel
theorem dX8_append_12 : decode cX8_append 12 = .ok (.new 94, 3) := by decide +kernel
theorem dX8_append_15 : decode cX8_append 15 = .ok (.dup, 1) := by decide +kernel
theorem dX8_append_16 : decode cX8_append 16 = .ok (.ldc 96, 2) := by decide +kernel
theorem dX8_append_18 : decode cX8_append 18 = .ok (.invokespecial 98, 3) := by decide +kernel
theorem dX8_append_21 : decode cX8_append 21 = .ok (.athrow, 1) := by decide +kernel
theorem dX8_append_22 : decode cX8_append 22 = .ok (.aload_n 0, 1) := by decide +kernel
theorem dX8_append_23 : decode cX8_append 23 = .ok (.getfield 29, 3) := by decide +kernel
theorem dX8_append_26 : decode cX8_append 26 = .ok (.invokevirtual 101, 3) := by decide +kernel
theorem dX8_append_29 : decode cX8_append 29 = .ok (.ifCond .eq 13, 3) := by decide +kernel
theorem dX8_append_32 : decode cX8_append 32 = .ok (.new 105, 3) := by decide +kernel
theorem dX8_append_35 : decode cX8_append 35 = .ok (.dup, 1) := by decide +kernel
theorem dX8_append_36 : decode cX8_append 36 = .ok (.ldc 107, 2) := by decide +kernel
theorem dX8_append_38 : decode cX8_append 38 = .ok (.invokespecial 109, 3) := by decide +kernel
theorem dX8_append_41 : decode cX8_append 41 = .ok (.athrow, 1) := by decide +kernel
theorem dX8_append_42 : decode cX8_append 42 = .ok (.aload_n 0, 1) := by decide +kernel
theorem dX8_append_43 : decode cX8_append 43 = .ok (.getfield 29, 3) := by decide +kernel
theorem dX8_append_46 : decode cX8_append 46 = .ok (.iload_n 1, 1) := by decide +kernel
theorem dX8_append_47 : decode cX8_append 47 = .ok (.invokevirtual 110, 3) := by decide +kernel
theorem dX8_append_50 : decode cX8_append 50 = .ok (.ireturn, 1) := by decide +kernel
theorem dX8_insert_0 : decode cX8_insert 0 = .ok (.aload_n 0, 1) := by decide +kernel
theorem dX8_insert_1 : decode cX8_insert 1 = .ok (.getfield 29, 3) := by decide +kernel
theorem dX8_insert_4 : decode cX8_insert 4 = .ok (.invokevirtual 114, 3) := by decide +kernel
theorem dX8_insert_7 : decode cX8_insert 7 = .ok (.iload_n 1, 1) := by decide +kernel
theorem dX8_insert_8 : decode cX8_insert 8 = .ok (.ifCond .lt 14, 3) := by decide +kernel
theorem dX8_insert_11 : decode cX8_insert 11 = .ok (.iload_n 1, 1) := by decide +kernel
theorem dX8_insert_12 : decode cX8_insert 12 = .ok (.aload_n 0, 1) := by decide +kernel
theorem dX8_insert_13 : decode cX8_insert 13 = .ok (.getfield 12, 3) := by decide +kernel
theorem dX8_insert_16 : decode cX8_insert 16 = .ok (.invokevirtual 84, 3) := by decide +kernel
theorem dX8_insert_19 : decode cX8_insert 19 = .ok (.if_icmp .le 13, 3) := by decide +kernel
theorem dX8_insert_22 : decode cX8_insert 22 = .ok (.new 117, 3) := by decide +kernel
theorem dX8_insert_25 : decode cX8_insert 25 = .ok (.dup, 1) := by decide +kernel
theorem dX8_insert_26 : decode cX8_insert 26 = .ok (.ldc 119, 2) := by decide +kernel
theorem dX8_insert_28 : decode cX8_insert 28 = .ok (.invokespecial 121, 3) := by decide +kernel
theorem dX8_insert_31 : decode cX8_insert 31 = .ok (.athrow, 1) := by decide +kernel
theorem dX8_insert_32 : decode cX8_insert 32 = .ok (.aload_n 0, 1) := by decide +kernel
theorem dX8_insert_33 : decode cX8_insert 33 = .ok (.getfield 29, 3) := by decide +kernel
theorem dX8_insert_36 : decode cX8_insert 36 = .ok (.invokevirtual 122, 3) := by decide +kernel
theorem dX8_insert_39 : decode cX8_insert 39 = .ok (.ifCond .ne 24, 3) := by decide +kernel
theorem dX8_insert_42 : decode cX8_insert 42 = .ok (.aload_n 0, 1) := by decide +kernel
theorem dX8_insert_43 : decode cX8_insert 43 = .ok (.aload_n 0, 1) := by decide +kernel
theorem dX8_insert_44 : decode cX8_insert 44 = .ok (.getfield 29, 3) := by decide +kernel
theorem dX8_insert_47 : decode cX8_insert 47 = .ok (.invokevirtual 125, 3) := by decide +kernel
theorem dX8_insert_50 : decode cX8_insert 50 = .ok (.putfield 80, 3) := by decide +kernel
theorem dX8_insert_53 : decode cX8_insert 53 = .ok (.new 94, 3) := by decide +kernel
theorem dX8_insert_56 : decode cX8_insert 56 = .ok (.dup, 1) := by decide +kernel
theorem dX8_insert_57 : decode cX8_insert 57 = .ok (.ldc 128, 2) := by decide +kernel
theorem dX8_insert_59 : decode cX8_insert 59 = .ok (.invokespecial 98, 3) := by decide +kernel
theorem dX8_insert_62 : decode cX8_insert 62 = .ok (.athrow, 1) := by decide +kernel
theorem dX8_insert_63 : decode cX8_insert 63 = .ok (.aload_n 0, 1) := by decide +kernel
theorem dX8_insert_64 : decode cX8_insert 64 = .ok (.getfield 29, 3) := by decide +kernel
theorem dX8_insert_67 : decode cX8_insert 67 = .ok (.invokevirtual 130, 3) := by decide +kernel
theorem dX8_insert_70 : decode cX8_insert 70 = .ok (.istore_n 2, 1) := by decide +kernel
theorem dX8_insert_71 : decode cX8_insert 71 = .ok (.aload_n 0, 1) := by decide +kernel
theorem dX8_insert_72 : decode cX8_insert 72 = .ok (.getfield 29, 3) := by decide +kernel
theorem dX8_insert_75 : decode cX8_insert 75 = .ok (.invokevirtual 133, 3) := by decide +kernel
theorem dX8_insert_78 : decode cX8_insert 78 = .ok (.istore_n 3, 1) := by decide +kernel
theorem dX8_insert_79 : decode cX8_insert 79 = .ok (.iload_n 2, 1) := by decide +kernel
theorem dX8_insert_80 : decode cX8_insert 80 = .ok (.iload_n 3, 1) := by decide +kernel
theorem dX8_insert_81 : decode cX8_insert 81 = .ok (.invokestatic 136, 3) := by decide +kernel
theorem dX8_insert_84 : decode cX8_insert 84 = .ok (.ifCond .ne 13, 3) := by decide +kernel
theorem dX8_insert_87 : decode cX8_insert 87 = .ok (.new 94, 3) := by decide +kernel
theorem dX8_insert_90 : decode cX8_insert 90 = .ok (.dup, 1) := by decide +kernel
theorem dX8_insert_91 : decode cX8_insert 91 = .ok (.ldc 140, 2) := by decide +kernel
theorem dX8_insert_93 : decode cX8_insert 93 = .ok (.invokespecial 98, 3) := by decide +kernel
theorem dX8_insert_96 : decode cX8_insert 96 = .ok (.athrow, 1) := by decide +kernel
theorem dX8_insert_97 : decode cX8_insert 97 = .ok (.aload_n 0, 1) := by decide +kernel
theorem dX8_insert_98 : decode cX8_insert 98 = .ok (.getfield 12, 3) := by decide +kernel
theorem dX8_insert_101 : decode cX8_insert 101 = .ok (.invokevirtual 142, 3) := by decide +kernel
theorem dX8_insert_104 : decode cX8_insert 104 = .ok (.ifCond .ne 19, 3) := by decide +kernel
theorem dX8_insert_107 : decode cX8_insert 107 = .ok (.iload_n 2, 1) := by decide +kernel
theorem dX8_insert_108 : decode cX8_insert 108 = .ok (.iconst 2, 1) := by decide +kernel
theorem dX8_insert_109 : decode cX8_insert 109 = .ok (.if_icmp .ne 24, 3) := by decide +kernel
theorem dX8_insert_112 : decode cX8_insert 112 = .ok (.aload_n 0, 1) := by decide +kernel
theorem dX8_insert_113 : decode cX8_insert 113 = .ok (.getfield 12, 3) := by decide +kernel
theorem dX8_insert_116 : decode cX8_insert 116 = .ok (.iload_n 3, 1) := by decide +kernel
theorem dX8_insert_117 : decode cX8_insert 117 = .ok (.invokevirtual 143, 3) := by decide +kernel
theorem dX8_insert_120 : decode cX8_insert 120 = .ok (.ifCond .eq 13, 3) := by decide +kernel
theorem dX8_insert_123 : decode cX8_insert 123 = .ok (.new 105, 3) := by decide +kernel
theorem dX8_insert_126 : decode cX8_insert 126 = .ok (.dup, 1) := by decide +kernel
theorem dX8_insert_127 : decode cX8_insert 127 = .ok (.ldc 147, 2) := by decide +kernel
theorem dX8_insert_129 : decode cX8_insert 129 = .ok (.invokespecial 109, 3) := by decide +kernel
theorem dX8_insert_132 : decode cX8_insert 132 = .ok (.athrow, 1) := by decide +kernel
theorem dX8_insert_133 : decode cX8_insert 133 = .ok (.aload_n 0, 1) := by decide +kernel
theorem dX8_insert_134 : decode cX8_insert 134 = .ok (.getfield 22, 3) := by decide +kernel
theorem dX8_insert_137 : decode cX8_insert 137 = .ok (.aload_n 0, 1) := by decide +kernel
theorem dX8_insert_138 : decode cX8_insert 138 = .ok (.getfield 12, 3) := by decide +kernel
theorem dX8_insert_141 : decode cX8_insert 141 = .ok (.invokevirtual 149, 3) := by decide +kernel
theorem dX8_insert_144 : decode cX8_insert 144 = .ok (.aload_n 0, 1) := by decide +kernel
theorem dX8_insert_145 : decode cX8_insert 145 = .ok (.getfield 12, 3) := by decide +kernel
theorem dX8_insert_148 : decode cX8_insert 148 = .ok (.iload_n 1, 1) := by decide +kernel
theorem dX8_insert_149 : decode cX8_insert 149 = .ok (.iload_n 2, 1) := by decide +kernel
theorem dX8_insert_150 : decode cX8_insert 150 = .ok (.iload_n 3, 1) := by decide +kernel
theorem dX8_insert_151 : decode cX8_insert 151 = .ok (.iconst 0, 1) := by decide +kernel
theorem dX8_insert_152 : decode cX8_insert 152 = .ok (.invokevirtual 152, 3) := by decide +kernel
theorem dX8_insert_155 : decode cX8_insert 155 = .ok (.iload_n 2, 1) := by decide +kernel
theorem dX8_insert_156 : decode cX8_insert 156 = .ok (.ireturn, 1) := by decide +kernel
theorem dX8_errorPosition_0 : decode cX8_errorPosition 0 = .ok (.aload_n 0, 1) := by decide +kernel
theorem dX8_errorPosition_1 : decode cX8_errorPosition 1 = .ok (.getfield 80, 3) := by decide +kernel
theorem dX8_errorPosition_4 : decode cX8_errorPosition 4 = .ok (.iconst (-1), 1) := by decide +kernel
theorem dX8_errorPosition_5 : decode cX8_errorPosition 5 = .ok (.if_icmp .ne 13, 3) := by decide +kernel
theorem dX8_errorPosition_8 : decode cX8_errorPosition 8 = .ok (.new 156, 3) := by decide +kernel
theorem dX8_errorPosition_11 : decode cX8_errorPosition 11 = .ok (.dup, 1) := by decide +kernel
theorem dX8_errorPosition_12 : decode cX8_errorPosition 12 = .ok (.ldc 158, 2) := by decide +kernel
theorem dX8_errorPosition_14 : decode cX8_errorPosition 14 = .ok (.invokespecial 160, 3) := by decide +kernel
theorem dX8_errorPosition_17 : decode cX8_errorPosition 17 = .ok (.athrow, 1) := by decide +kernel
theorem dX8_errorPosition_18 : decode cX8_errorPosition 18 = .ok (.aload_n 0, 1) := by decide +kernel
theorem dX8_errorPosition_19 : decode cX8_errorPosition 19 = .ok (.getfield 80, 3) := by decide +kernel
theorem dX8_errorPosition_22 : decode cX8_errorPosition 22 = .ok (.ireturn, 1) := by decide +kernel
theorem dX8_remove_0 : decode cX8_remove 0 = .ok (.aload_n 0, 1) := by decide +kernel
theorem dX8_remove_1 : decode cX8_remove 1 = .ok (.iload_n 1, 1) := by decide +kernel
theorem dX8_remove_2 : decode cX8_remove 2 = .ok (.invokevirtual 161, 3) := by decide +kernel
theorem dX8_remove_5 : decode cX8_remove 5 = .ok (.aload_n 0, 1) := by decide +kernel
theorem dX8_remove_6 : decode cX8_remove 6 = .ok (.getfield 22, 3) := by decide +kernel
theorem dX8_remove_9 : decode cX8_remove 9 = .ok (.aload_n 0, 1) := by decide +kernel
theorem dX8_remove_10 : decode cX8_remove 10 = .ok (.getfield 12, 3) := by decide +kernel
theorem dX8_remove_13 : decode cX8_remove 13 = .ok (.invokevirtual 149, 3) := by decide +kernel
theorem dX8_remove_16 : decode cX8_remove 16 = .ok (.aload_n 0, 1) := by decide +kernel
theorem dX8_remove_17 : decode cX8_remove 17 = .ok (.getfield 12, 3) := by decide +kernel
theorem dX8_remove_20 : decode cX8_remove 20 = .ok (.iload_n 1, 1) := by decide +kernel
theorem dX8_remove_21 : decode cX8_remove 21 = .ok (.invokevirtual 165, 3) := by decide +kernel
theorem dX8_remove_24 : decode cX8_remove 24 = .ok (.aload_n 0, 1) := by decide +kernel
theorem dX8_remove_25 : decode cX8_remove 25 = .ok (.getfield 12, 3) := by decide +kernel
theorem dX8_remove_28 : decode cX8_remove 28 = .ok (.invokevirtual 84, 3) := by decide +kernel
theorem dX8_remove_31 : decode cX8_remove 31 = .ok (.ireturn, 1) := by decide +kernel
theorem dX8_move_0 : decode cX8_move 0 = .ok (.aload_n 0, 1) := by decide +kernel
theorem dX8_move_1 : decode cX8_move 1 = .ok (.iload_n 1, 1) := by decide +kernel
theorem dX8_move_2 : decode cX8_move 2 = .ok (.invokevirtual 161, 3) := by decide +kernel
theorem dX8_move_5 : decode cX8_move 5 = .ok (.aload_n 0, 1) := by decide +kernel
theorem dX8_move_6 : decode cX8_move 6 = .ok (.iload_n 2, 1) := by decide +kernel
theorem dX8_move_7 : decode cX8_move 7 = .ok (.invokevirtual 161, 3) := by decide +kernel
theorem dX8_move_10 : decode cX8_move 10 = .ok (.aload_n 0, 1) := by decide +kernel
theorem dX8_move_11 : decode cX8_move 11 = .ok (.getfield 22, 3) := by decide +kernel
theorem dX8_move_14 : decode cX8_move 14 = .ok (.aload_n 0, 1) := by decide +kernel
theorem dX8_move_15 : decode cX8_move 15 = .ok (.getfield 12, 3) := by decide +kernel
theorem dX8_move_18 : decode cX8_move 18 = .ok (.invokevirtual 149, 3) := by decide +kernel
theorem dX8_move_21 : decode cX8_move 21 = .ok (.aload_n 0, 1) := by decide +kernel
theorem dX8_move_22 : decode cX8_move 22 = .ok (.getfield 12, 3) := by decide +kernel
theorem dX8_move_25 : decode cX8_move 25 = .ok (.iload_n 1, 1) := by decide +kernel
theorem dX8_move_26 : decode cX8_move 26 = .ok (.invokevirtual 168, 3) := by decide +kernel
theorem dX8_move_29 : decode cX8_move 29 = .ok (.istore_n 3, 1) := by decide +kernel
theorem dX8_move_30 : decode cX8_move 30 = .ok (.aload_n 0, 1) := by decide +kernel
theorem dX8_move_31 : decode cX8_move 31 = .ok (.getfield 12, 3) := by decide +kernel
theorem dX8_move_34 : decode cX8_move 34 = .ok (.iload_n 1, 1) := by decide +kernel
theorem dX8_move_35 : decode cX8_move 35 = .ok (.invokevirtual 172, 3) := by decide +kernel
theorem dX8_move_38 : decode cX8_move 38 = .ok (.istore 4, 2) := by decide +kernel
theorem dX8_move_40 : decode cX8_move 40 = .ok (.aload_n 0, 1) := by decide +kernel
theorem dX8_move_41 : decode cX8_move 41 = .ok (.getfield 12, 3) := by decide +kernel
theorem dX8_move_44 : decode cX8_move 44 = .ok (.iload_n 1, 1) := by decide +kernel
theorem dX8_move_45 : decode cX8_move 45 = .ok (.invokevirtual 175, 3) := by decide +kernel
theorem dX8_move_48 : decode cX8_move 48 = .ok (.istore 5, 2) := by decide +kernel
theorem dX8_move_50 : decode cX8_move 50 = .ok (.aload_n 0, 1) := by decide +kernel
theorem dX8_move_51 : decode cX8_move 51 = .ok (.getfield 12, 3) := by decide +kernel
theorem dX8_move_54 : decode cX8_move 54 = .ok (.iload_n 1, 1) := by decide +kernel
theorem dX8_move_55 : decode cX8_move 55 = .ok (.invokevirtual 165, 3) := by decide +kernel
theorem dX8_move_58 : decode cX8_move 58 = .ok (.aload_n 0, 1) := by decide +kernel
theorem dX8_move_59 : decode cX8_move 59 = .ok (.getfield 12, 3) := by decide +kernel
theorem dX8_move_62 : decode cX8_move 62 = .ok (.iload_n 2, 1) := by decide +kernel
theorem dX8_move_63 : decode cX8_move 63 = .ok (.iload_n 3, 1) := by decide +kernel
theorem dX8_move_64 : decode cX8_move 64 = .ok (.iload 4, 2) := by decide +kernel
theorem dX8_move_66 : decode cX8_move 66 = .ok (.iload 5, 2) := by decide +kernel
theorem dX8_move_68 : decode cX8_move 68 = .ok (.invokevirtual 152, 3) := by decide +kernel
theorem dX8_move_71 : decode cX8_move 71 = .ok (.iload_n 3, 1) := by decide +kernel
theorem dX8_move_72 : decode cX8_move 72 = .ok (.ireturn, 1) := by decide +kernel
theorem dX8_item_0 : decode cX8_item 0 = .ok (.aload_n 0, 1) := by decide +kernel
theorem dX8_item_1 : decode cX8_item 1 = .ok (.iload_n 1, 1) := by decide +kernel
theorem dX8_item_2 : decode cX8_item 2 = .ok (.invokevirtual 161, 3) := by decide +kernel
theorem dX8_item_5 : decode cX8_item 5 = .ok (.iload_n 2, 1) := by decide +kernel
theorem dX8_item_6 : decode cX8_item 6 = .ok (.tableswitch 79 0 4 #[34, 43, 52, 61, 70], 34) := by decide +kernel
theorem dX8_item_40 : decode cX8_item 40 = .ok (.aload_n 0, 1) := by decide +kernel
theorem dX8_item_41 : decode cX8_item 41 = .ok (.getfield 12, 3) := by decide +kernel
theorem dX8_item_44 : decode cX8_item 44 = .ok (.iload_n 1, 1) := by decide +kernel
theorem dX8_item_45 : decode cX8_item 45 = .ok (.invokevirtual 168, 3) := by decide +kernel
theorem dX8_item_48 : decode cX8_item 48 = .ok (.ireturn, 1) := by decide +kernel
theorem dX8_item_49 : decode cX8_item 49 = .ok (.aload_n 0, 1) := by decide +kernel
theorem dX8_item_50 : decode cX8_item 50 = .ok (.getfield 12, 3) := by decide +kernel
theorem dX8_item_53 : decode cX8_item 53 = .ok (.iload_n 1, 1) := by decide +kernel
theorem dX8_item_54 : decode cX8_item 54 = .ok (.invokevirtual 172, 3) := by decide +kernel
theorem dX8_item_57 : decode cX8_item 57 = .ok (.ireturn, 1) := by decide +kernel
theorem dX8_item_58 : decode cX8_item 58 = .ok (.aload_n 0, 1) := by decide +kernel
theorem dX8_item_59 : decode cX8_item 59 = .ok (.getfield 12, 3) := by decide +kernel
theorem dX8_item_62 : decode cX8_item 62 = .ok (.iload_n 1, 1) := by decide +kernel
theorem dX8_item_63 : decode cX8_item 63 = .ok (.invokevirtual 175, 3) := by decide +kernel
theorem dX8_item_66 : decode cX8_item 66 = .ok (.ireturn, 1) := by decide +kernel
theorem dX8_item_67 : decode cX8_item 67 = .ok (.aload_n 0, 1) := by decide +kernel
theorem dX8_item_68 : decode cX8_item 68 = .ok (.invokevirtual 178, 3) := by decide +kernel
theorem dX8_item_71 : decode cX8_item 71 = .ok (.iload_n 1, 1) := by decide +kernel
theorem dX8_item_72 : decode cX8_item 72 = .ok (.invokevirtual 182, 3) := by decide +kernel
theorem dX8_item_75 : decode cX8_item 75 = .ok (.ireturn, 1) := by decide +kernel
theorem dX8_item_76 : decode cX8_item 76 = .ok (.aload_n 0, 1) := by decide +kernel
theorem dX8_item_77 : decode cX8_item 77 = .ok (.invokevirtual 178, 3) := by decide +kernel
theorem dX8_item_80 : decode cX8_item 80 = .ok (.iload_n 1, 1) := by decide +kernel
theorem dX8_item_81 : decode cX8_item 81 = .ok (.invokevirtual 185, 3) := by decide +kernel
theorem dX8_item_84 : decode cX8_item 84 = .ok (.ireturn, 1) := by decide +kernel
theorem dX8_item_85 : decode cX8_item 85 = .ok (.new 94, 3) := by decide +kernel
theorem dX8_item_88 : decode cX8_item 88 = .ok (.dup, 1) := by decide +kernel
theorem dX8_item_89 : decode cX8_item 89 = .ok (.ldc 188, 2) := by decide +kernel
theorem dX8_item_91 : decode cX8_item 91 = .ok (.invokespecial 98, 3) := by decide +kernel
theorem dX8_item_94 : decode cX8_item 94 = .ok (.athrow, 1) := by decide +kernel
theorem dX8_nameCharacter_0 : decode cX8_nameCharacter 0 = .ok (.aload_n 0, 1) := by decide +kernel
theorem dX8_nameCharacter_1 : decode cX8_nameCharacter 1 = .ok (.iload_n 1, 1) := by decide +kernel
theorem dX8_nameCharacter_2 : decode cX8_nameCharacter 2 = .ok (.invokevirtual 161, 3) := by decide +kernel
theorem dX8_nameCharacter_5 : decode cX8_nameCharacter 5 = .ok (.aload_n 0, 1) := by decide +kernel
theorem dX8_nameCharacter_6 : decode cX8_nameCharacter 6 = .ok (.getfield 12, 3) := by decide +kernel
theorem dX8_nameCharacter_9 : decode cX8_nameCharacter 9 = .ok (.iload_n 1, 1) := by decide +kernel
theorem dX8_nameCharacter_10 : decode cX8_nameCharacter 10 = .ok (.invokevirtual 168, 3) := by decide +kernel
theorem dX8_nameCharacter_13 : decode cX8_nameCharacter 13 = .ok (.invokestatic 190, 3) := by decide +kernel
theorem dX8_nameCharacter_16 : decode cX8_nameCharacter 16 = .ok (.astore_n 3, 1) := by decide +kernel
theorem dX8_nameCharacter_17 : decode cX8_nameCharacter 17 = .ok (.iload_n 2, 1) := by decide +kernel
theorem dX8_nameCharacter_18 : decode cX8_nameCharacter 18 = .ok (.ifCond .lt 11, 3) := by decide +kernel
theorem dX8_nameCharacter_21 : decode cX8_nameCharacter 21 = .ok (.iload_n 2, 1) := by decide +kernel
theorem dX8_nameCharacter_22 : decode cX8_nameCharacter 22 = .ok (.aload_n 3, 1) := by decide +kernel
theorem dX8_nameCharacter_23 : decode cX8_nameCharacter 23 = .ok (.invokevirtual 194, 3) := by decide +kernel
theorem dX8_nameCharacter_26 : decode cX8_nameCharacter 26 = .ok (.if_icmp .lt 13, 3) := by decide +kernel
theorem dX8_nameCharacter_29 : decode cX8_nameCharacter 29 = .ok (.new 156, 3) := by decide +kernel
theorem dX8_nameCharacter_32 : decode cX8_nameCharacter 32 = .ok (.dup, 1) := by decide +kernel
theorem dX8_nameCharacter_33 : decode cX8_nameCharacter 33 = .ok (.ldc 199, 2) := by decide +kernel
theorem dX8_nameCharacter_35 : decode cX8_nameCharacter 35 = .ok (.invokespecial 160, 3) := by decide +kernel
theorem dX8_nameCharacter_38 : decode cX8_nameCharacter 38 = .ok (.athrow, 1) := by decide +kernel
theorem dX8_nameCharacter_39 : decode cX8_nameCharacter 39 = .ok (.aload_n 3, 1) := by decide +kernel
theorem dX8_nameCharacter_40 : decode cX8_nameCharacter 40 = .ok (.iload_n 2, 1) := by decide +kernel
theorem dX8_nameCharacter_41 : decode cX8_nameCharacter 41 = .ok (.invokevirtual 201, 3) := by decide +kernel
theorem dX8_nameCharacter_44 : decode cX8_nameCharacter 44 = .ok (.ireturn, 1) := by decide +kernel
theorem dX8_setForm_0 : decode cX8_setForm 0 = .ok (.aload_n 0, 1) := by decide +kernel
theorem dX8_setForm_1 : decode cX8_setForm 1 = .ok (.iload_n 1, 1) := by decide +kernel
theorem dX8_setForm_2 : decode cX8_setForm 2 = .ok (.invokevirtual 161, 3) := by decide +kernel
theorem dX8_setForm_5 : decode cX8_setForm 5 = .ok (.aload_n 0, 1) := by decide +kernel
theorem dX8_setForm_6 : decode cX8_setForm 6 = .ok (.iload_n 1, 1) := by decide +kernel
theorem dX8_setForm_7 : decode cX8_setForm 7 = .ok (.invokevirtual 205, 3) := by decide +kernel
theorem dX8_setForm_10 : decode cX8_setForm 10 = .ok (.aload_n 0, 1) := by decide +kernel
theorem dX8_setForm_11 : decode cX8_setForm 11 = .ok (.iload_n 2, 1) := by decide +kernel
theorem dX8_setForm_12 : decode cX8_setForm 12 = .ok (.invokevirtual 208, 3) := by decide +kernel
theorem dX8_setForm_15 : decode cX8_setForm 15 = .ok (.aload_n 0, 1) := by decide +kernel
theorem dX8_setForm_16 : decode cX8_setForm 16 = .ok (.getfield 22, 3) := by decide +kernel
theorem dX8_setForm_19 : decode cX8_setForm 19 = .ok (.aload_n 0, 1) := by decide +kernel
theorem dX8_setForm_20 : decode cX8_setForm 20 = .ok (.getfield 12, 3) := by decide +kernel
theorem dX8_setForm_23 : decode cX8_setForm 23 = .ok (.invokevirtual 149, 3) := by decide +kernel
theorem dX8_setForm_26 : decode cX8_setForm 26 = .ok (.aload_n 0, 1) := by decide +kernel
theorem dX8_setForm_27 : decode cX8_setForm 27 = .ok (.getfield 12, 3) := by decide +kernel
theorem dX8_setForm_30 : decode cX8_setForm 30 = .ok (.iload_n 1, 1) := by decide +kernel
theorem dX8_setForm_31 : decode cX8_setForm 31 = .ok (.invokevirtual 175, 3) := by decide +kernel
theorem dX8_setForm_34 : decode cX8_setForm 34 = .ok (.istore_n 3, 1) := by decide +kernel
theorem dX8_setForm_35 : decode cX8_setForm 35 = .ok (.aload_n 0, 1) := by decide +kernel
theorem dX8_setForm_36 : decode cX8_setForm 36 = .ok (.getfield 12, 3) := by decide +kernel
theorem dX8_setForm_39 : decode cX8_setForm 39 = .ok (.iload_n 1, 1) := by decide +kernel
theorem dX8_setForm_40 : decode cX8_setForm 40 = .ok (.iload_n 2, 1) := by decide +kernel
theorem dX8_setForm_41 : decode cX8_setForm 41 = .ok (.invokevirtual 211, 3) := by decide +kernel
theorem dX8_setForm_44 : decode cX8_setForm 44 = .ok (.iload_n 3, 1) := by decide +kernel
theorem dX8_setForm_45 : decode cX8_setForm 45 = .ok (.ireturn, 1) := by decide +kernel
theorem dX8_totalSize_0 : decode cX8_totalSize 0 = .ok (.aload_n 0, 1) := by decide +kernel
theorem dX8_totalSize_1 : decode cX8_totalSize 1 = .ok (.invokevirtual 178, 3) := by decide +kernel
theorem dX8_totalSize_4 : decode cX8_totalSize 4 = .ok (.invokevirtual 215, 3) := by decide +kernel
theorem dX8_totalSize_7 : decode cX8_totalSize 7 = .ok (.ireturn, 1) := by decide +kernel
theorem dX8_padding_0 : decode cX8_padding 0 = .ok (.aload_n 0, 1) := by decide +kernel
theorem dX8_padding_1 : decode cX8_padding 1 = .ok (.invokevirtual 178, 3) := by decide +kernel
theorem dX8_padding_4 : decode cX8_padding 4 = .ok (.invokevirtual 218, 3) := by decide +kernel
theorem dX8_padding_7 : decode cX8_padding 7 = .ok (.ireturn, 1) := by decide +kernel
theorem dX8_labelAddress_0 : decode cX8_labelAddress 0 = .ok (.iload_n 1, 1) := by decide +kernel
theorem dX8_labelAddress_1 : decode cX8_labelAddress 1 = .ok (.ifCond .lt 9, 3) := by decide +kernel
theorem dX8_labelAddress_4 : decode cX8_labelAddress 4 = .ok (.iload_n 1, 1) := by decide +kernel
theorem dX8_labelAddress_5 : decode cX8_labelAddress 5 = .ok (.bipush 10, 2) := by decide +kernel
theorem dX8_labelAddress_7 : decode cX8_labelAddress 7 = .ok (.if_icmp .lt 13, 3) := by decide +kernel
theorem dX8_labelAddress_10 : decode cX8_labelAddress 10 = .ok (.new 117, 3) := by decide +kernel
theorem dX8_labelAddress_13 : decode cX8_labelAddress 13 = .ok (.dup, 1) := by decide +kernel
theorem dX8_labelAddress_14 : decode cX8_labelAddress 14 = .ok (.ldc 221, 2) := by decide +kernel
theorem dX8_labelAddress_16 : decode cX8_labelAddress 16 = .ok (.invokespecial 121, 3) := by decide +kernel
theorem dX8_labelAddress_19 : decode cX8_labelAddress 19 = .ok (.athrow, 1) := by decide +kernel
theorem dX8_labelAddress_20 : decode cX8_labelAddress 20 = .ok (.aload_n 0, 1) := by decide +kernel
theorem dX8_labelAddress_21 : decode cX8_labelAddress 21 = .ok (.invokevirtual 178, 3) := by decide +kernel
theorem dX8_labelAddress_24 : decode cX8_labelAddress 24 = .ok (.pop, 1) := by decide +kernel
theorem dX8_labelAddress_25 : decode cX8_labelAddress 25 = .ok (.aload_n 0, 1) := by decide +kernel
theorem dX8_labelAddress_26 : decode cX8_labelAddress 26 = .ok (.getfield 38, 3) := by decide +kernel
theorem dX8_labelAddress_29 : decode cX8_labelAddress 29 = .ok (.iload_n 1, 1) := by decide +kernel
theorem dX8_labelAddress_30 : decode cX8_labelAddress 30 = .ok (.invokevirtual 223, 3) := by decide +kernel
theorem dX8_labelAddress_33 : decode cX8_labelAddress 33 = .ok (.istore_n 2, 1) := by decide +kernel
theorem dX8_labelAddress_34 : decode cX8_labelAddress 34 = .ok (.iload_n 2, 1) := by decide +kernel
theorem dX8_labelAddress_35 : decode cX8_labelAddress 35 = .ok (.iconst (-1), 1) := by decide +kernel
theorem dX8_labelAddress_36 : decode cX8_labelAddress 36 = .ok (.if_icmp .ne 13, 3) := by decide +kernel
theorem dX8_labelAddress_39 : decode cX8_labelAddress 39 = .ok (.new 156, 3) := by decide +kernel
theorem dX8_labelAddress_42 : decode cX8_labelAddress 42 = .ok (.dup, 1) := by decide +kernel
theorem dX8_labelAddress_43 : decode cX8_labelAddress 43 = .ok (.ldc 226, 2) := by decide +kernel
theorem dX8_labelAddress_45 : decode cX8_labelAddress 45 = .ok (.invokespecial 160, 3) := by decide +kernel
theorem dX8_labelAddress_48 : decode cX8_labelAddress 48 = .ok (.athrow, 1) := by decide +kernel
theorem dX8_labelAddress_49 : decode cX8_labelAddress 49 = .ok (.aload_n 0, 1) := by decide +kernel
theorem dX8_labelAddress_50 : decode cX8_labelAddress 50 = .ok (.getfield 47, 3) := by decide +kernel
theorem dX8_labelAddress_53 : decode cX8_labelAddress 53 = .ok (.iload_n 2, 1) := by decide +kernel
theorem dX8_labelAddress_54 : decode cX8_labelAddress 54 = .ok (.invokevirtual 185, 3) := by decide +kernel
theorem dX8_labelAddress_57 : decode cX8_labelAddress 57 = .ok (.ireturn, 1) := by decide +kernel
theorem dX8_itemAt_0 : decode cX8_itemAt 0 = .ok (.aload_n 0, 1) := by decide +kernel
theorem dX8_itemAt_1 : decode cX8_itemAt 1 = .ok (.invokevirtual 178, 3) := by decide +kernel
theorem dX8_itemAt_4 : decode cX8_itemAt 4 = .ok (.pop, 1) := by decide +kernel
theorem dX8_itemAt_5 : decode cX8_itemAt 5 = .ok (.iload_n 1, 1) := by decide +kernel
theorem dX8_itemAt_6 : decode cX8_itemAt 6 = .ok (.ifCond .lt 14, 3) := by decide +kernel
theorem dX8_itemAt_9 : decode cX8_itemAt 9 = .ok (.iload_n 1, 1) := by decide +kernel
theorem dX8_itemAt_10 : decode cX8_itemAt 10 = .ok (.aload_n 0, 1) := by decide +kernel
theorem dX8_itemAt_11 : decode cX8_itemAt 11 = .ok (.getfield 47, 3) := by decide +kernel
theorem dX8_itemAt_14 : decode cX8_itemAt 14 = .ok (.invokevirtual 228, 3) := by decide +kernel
theorem dX8_itemAt_17 : decode cX8_itemAt 17 = .ok (.if_icmp .lt 13, 3) := by decide +kernel
theorem dX8_itemAt_20 : decode cX8_itemAt 20 = .ok (.new 117, 3) := by decide +kernel
theorem dX8_itemAt_23 : decode cX8_itemAt 23 = .ok (.dup, 1) := by decide +kernel
theorem dX8_itemAt_24 : decode cX8_itemAt 24 = .ok (.ldc 231, 2) := by decide +kernel
theorem dX8_itemAt_26 : decode cX8_itemAt 26 = .ok (.invokespecial 121, 3) := by decide +kernel
theorem dX8_itemAt_29 : decode cX8_itemAt 29 = .ok (.athrow, 1) := by decide +kernel
theorem dX8_itemAt_30 : decode cX8_itemAt 30 = .ok (.aload_n 0, 1) := by decide +kernel
theorem dX8_itemAt_31 : decode cX8_itemAt 31 = .ok (.getfield 47, 3) := by decide +kernel
theorem dX8_itemAt_34 : decode cX8_itemAt 34 = .ok (.iload_n 1, 1) := by decide +kernel
theorem dX8_itemAt_35 : decode cX8_itemAt 35 = .ok (.invokevirtual 233, 3) := by decide +kernel
theorem dX8_itemAt_38 : decode cX8_itemAt 38 = .ok (.ireturn, 1) := by decide +kernel
theorem dX8_addressIf_0 : decode cX8_addressIf 0 = .ok (.aload_n 0, 1) := by decide +kernel
theorem dX8_addressIf_1 : decode cX8_addressIf 1 = .ok (.iload_n 1, 1) := by decide +kernel
theorem dX8_addressIf_2 : decode cX8_addressIf 2 = .ok (.invokevirtual 161, 3) := by decide +kernel
theorem dX8_addressIf_5 : decode cX8_addressIf 5 = .ok (.aload_n 0, 1) := by decide +kernel
theorem dX8_addressIf_6 : decode cX8_addressIf 6 = .ok (.iload_n 2, 1) := by decide +kernel
theorem dX8_addressIf_7 : decode cX8_addressIf 7 = .ok (.invokevirtual 208, 3) := by decide +kernel
theorem dX8_addressIf_10 : decode cX8_addressIf 10 = .ok (.aload_n 0, 1) := by decide +kernel
theorem dX8_addressIf_11 : decode cX8_addressIf 11 = .ok (.getfield 38, 3) := by decide +kernel
theorem dX8_addressIf_14 : decode cX8_addressIf 14 = .ok (.invokevirtual 236, 3) := by decide +kernel
theorem dX8_addressIf_17 : decode cX8_addressIf 17 = .ok (.aload_n 0, 1) := by decide +kernel
theorem dX8_addressIf_18 : decode cX8_addressIf 18 = .ok (.getfield 47, 3) := by decide +kernel
theorem dX8_addressIf_21 : decode cX8_addressIf 21 = .ok (.iload_n 1, 1) := by decide +kernel
theorem dX8_addressIf_22 : decode cX8_addressIf 22 = .ok (.iload_n 2, 1) := by decide +kernel
theorem dX8_addressIf_23 : decode cX8_addressIf 23 = .ok (.invokevirtual 237, 3) := by decide +kernel
theorem dX8_addressIf_26 : decode cX8_addressIf 26 = .ok (.ireturn, 1) := by decide +kernel
theorem dX8_possibleAddresses_0 : decode cX8_possibleAddresses 0 = .ok (.aload_n 0, 1) := by decide +kernel
theorem dX8_possibleAddresses_1 : decode cX8_possibleAddresses 1 = .ok (.iload_n 1, 1) := by decide +kernel
theorem dX8_possibleAddresses_2 : decode cX8_possibleAddresses 2 = .ok (.invokevirtual 161, 3) := by decide +kernel
theorem dX8_possibleAddresses_5 : decode cX8_possibleAddresses 5 = .ok (.aload_n 0, 1) := by decide +kernel
theorem dX8_possibleAddresses_6 : decode cX8_possibleAddresses 6 = .ok (.getfield 38, 3) := by decide +kernel
theorem dX8_possibleAddresses_9 : decode cX8_possibleAddresses 9 = .ok (.invokevirtual 236, 3) := by decide +kernel
theorem dX8_possibleAddresses_12 : decode cX8_possibleAddresses 12 = .ok (.aload_n 0, 1) := by decide +kernel
theorem dX8_possibleAddresses_13 : decode cX8_possibleAddresses 13 = .ok (.getfield 72, 3) := by decide +kernel
theorem dX8_possibleAddresses_16 : decode cX8_possibleAddresses 16 = .ok (.iload_n 1, 1) := by decide +kernel
theorem dX8_possibleAddresses_17 : decode cX8_possibleAddresses 17 = .ok (.invokevirtual 241, 3) := by decide +kernel
theorem dX8_possibleAddresses_20 : decode cX8_possibleAddresses 20 = .ok (.ireturn, 1) := by decide +kernel
theorem dX8_transferCount_0 : decode cX8_transferCount 0 = .ok (.aload_n 0, 1) := by decide +kernel
theorem dX8_transferCount_1 : decode cX8_transferCount 1 = .ok (.getfield 56, 3) := by decide +kernel
theorem dX8_transferCount_4 : decode cX8_transferCount 4 = .ok (.invokevirtual 244, 3) := by decide +kernel
theorem dX8_transferCount_7 : decode cX8_transferCount 7 = .ok (.ireturn, 1) := by decide +kernel
theorem dX8_formCount_0 : decode cX8_formCount 0 = .ok (.aload_n 0, 1) := by decide +kernel
theorem dX8_formCount_1 : decode cX8_formCount 1 = .ok (.iload_n 1, 1) := by decide +kernel
theorem dX8_formCount_2 : decode cX8_formCount 2 = .ok (.invokevirtual 208, 3) := by decide +kernel
theorem dX8_formCount_5 : decode cX8_formCount 5 = .ok (.aload_n 0, 1) := by decide +kernel
theorem dX8_formCount_6 : decode cX8_formCount 6 = .ok (.getfield 56, 3) := by decide +kernel
theorem dX8_formCount_9 : decode cX8_formCount 9 = .ok (.iload_n 1, 1) := by decide +kernel
theorem dX8_formCount_10 : decode cX8_formCount 10 = .ok (.invokevirtual 247, 3) := by decide +kernel
theorem dX8_formCount_13 : decode cX8_formCount 13 = .ok (.ireturn, 1) := by decide +kernel
theorem dX8_undefinedCount_0 : decode cX8_undefinedCount 0 = .ok (.aload_n 0, 1) := by decide +kernel
theorem dX8_undefinedCount_1 : decode cX8_undefinedCount 1 = .ok (.getfield 38, 3) := by decide +kernel
theorem dX8_undefinedCount_4 : decode cX8_undefinedCount 4 = .ok (.invokevirtual 236, 3) := by decide +kernel
theorem dX8_undefinedCount_7 : decode cX8_undefinedCount 7 = .ok (.aload_n 0, 1) := by decide +kernel
theorem dX8_undefinedCount_8 : decode cX8_undefinedCount 8 = .ok (.getfield 56, 3) := by decide +kernel
theorem dX8_undefinedCount_11 : decode cX8_undefinedCount 11 = .ok (.invokevirtual 250, 3) := by decide +kernel
theorem dX8_undefinedCount_14 : decode cX8_undefinedCount 14 = .ok (.ireturn, 1) := by decide +kernel
theorem dX8_displacement_0 : decode cX8_displacement 0 = .ok (.aload_n 0, 1) := by decide +kernel
theorem dX8_displacement_1 : decode cX8_displacement 1 = .ok (.iload_n 1, 1) := by decide +kernel
theorem dX8_displacement_2 : decode cX8_displacement 2 = .ok (.invokevirtual 253, 3) := by decide +kernel
theorem dX8_displacement_5 : decode cX8_displacement 5 = .ok (.aload_n 0, 1) := by decide +kernel
theorem dX8_displacement_6 : decode cX8_displacement 6 = .ok (.getfield 56, 3) := by decide +kernel
theorem dX8_displacement_9 : decode cX8_displacement 9 = .ok (.iload_n 1, 1) := by decide +kernel
theorem dX8_displacement_10 : decode cX8_displacement 10 = .ok (.invokevirtual 256, 3) := by decide +kernel
theorem dX8_displacement_13 : decode cX8_displacement 13 = .ok (.ireturn, 1) := by decide +kernel
theorem dX8_fits_0 : decode cX8_fits 0 = .ok (.aload_n 0, 1) := by decide +kernel
theorem dX8_fits_1 : decode cX8_fits 1 = .ok (.iload_n 1, 1) := by decide +kernel
theorem dX8_fits_2 : decode cX8_fits 2 = .ok (.invokevirtual 253, 3) := by decide +kernel
theorem dX8_fits_5 : decode cX8_fits 5 = .ok (.aload_n 0, 1) := by decide +kernel
theorem dX8_fits_6 : decode cX8_fits 6 = .ok (.getfield 56, 3) := by decide +kernel
theorem dX8_fits_9 : decode cX8_fits 9 = .ok (.iload_n 1, 1) := by decide +kernel
theorem dX8_fits_10 : decode cX8_fits 10 = .ok (.invokevirtual 259, 3) := by decide +kernel
theorem dX8_fits_13 : decode cX8_fits 13 = .ok (.ireturn, 1) := by decide +kernel
theorem dX8_misfits_0 : decode cX8_misfits 0 = .ok (.aload_n 0, 1) := by decide +kernel
theorem dX8_misfits_1 : decode cX8_misfits 1 = .ok (.invokevirtual 262, 3) := by decide +kernel
theorem dX8_misfits_4 : decode cX8_misfits 4 = .ok (.aload_n 0, 1) := by decide +kernel
theorem dX8_misfits_5 : decode cX8_misfits 5 = .ok (.getfield 47, 3) := by decide +kernel
theorem dX8_misfits_8 : decode cX8_misfits 8 = .ok (.invokevirtual 265, 3) := by decide +kernel
theorem dX8_misfits_11 : decode cX8_misfits 11 = .ok (.aload_n 0, 1) := by decide +kernel
theorem dX8_misfits_12 : decode cX8_misfits 12 = .ok (.getfield 56, 3) := by decide +kernel
theorem dX8_misfits_15 : decode cX8_misfits 15 = .ok (.invokevirtual 268, 3) := by decide +kernel
theorem dX8_misfits_18 : decode cX8_misfits 18 = .ok (.ireturn, 1) := by decide +kernel
theorem dX8_neededForm_0 : decode cX8_neededForm 0 = .ok (.aload_n 0, 1) := by decide +kernel
theorem dX8_neededForm_1 : decode cX8_neededForm 1 = .ok (.iload_n 1, 1) := by decide +kernel
theorem dX8_neededForm_2 : decode cX8_neededForm 2 = .ok (.invokevirtual 253, 3) := by decide +kernel
theorem dX8_neededForm_5 : decode cX8_neededForm 5 = .ok (.aload_n 0, 1) := by decide +kernel
theorem dX8_neededForm_6 : decode cX8_neededForm 6 = .ok (.getfield 56, 3) := by decide +kernel
theorem dX8_neededForm_9 : decode cX8_neededForm 9 = .ok (.iload_n 1, 1) := by decide +kernel
theorem dX8_neededForm_10 : decode cX8_neededForm 10 = .ok (.invokevirtual 256, 3) := by decide +kernel
theorem dX8_neededForm_13 : decode cX8_neededForm 13 = .ok (.invokestatic 271, 3) := by decide +kernel
theorem dX8_neededForm_16 : decode cX8_neededForm 16 = .ok (.ireturn, 1) := by decide +kernel
theorem dX8_relax_0 : decode cX8_relax 0 = .ok (.aload_n 0, 1) := by decide +kernel
theorem dX8_relax_1 : decode cX8_relax 1 = .ok (.invokevirtual 262, 3) := by decide +kernel
theorem dX8_relax_4 : decode cX8_relax 4 = .ok (.aload_n 0, 1) := by decide +kernel
theorem dX8_relax_5 : decode cX8_relax 5 = .ok (.getfield 22, 3) := by decide +kernel
theorem dX8_relax_8 : decode cX8_relax 8 = .ok (.aload_n 0, 1) := by decide +kernel
theorem dX8_relax_9 : decode cX8_relax 9 = .ok (.getfield 12, 3) := by decide +kernel
theorem dX8_relax_12 : decode cX8_relax 12 = .ok (.invokevirtual 149, 3) := by decide +kernel
theorem dX8_relax_15 : decode cX8_relax 15 = .ok (.aload_n 0, 1) := by decide +kernel
theorem dX8_relax_16 : decode cX8_relax 16 = .ok (.getfield 56, 3) := by decide +kernel
theorem dX8_relax_19 : decode cX8_relax 19 = .ok (.invokevirtual 274, 3) := by decide +kernel
theorem dX8_relax_22 : decode cX8_relax 22 = .ok (.ireturn, 1) := by decide +kernel
theorem dX8_shrink_0 : decode cX8_shrink 0 = .ok (.aload_n 0, 1) := by decide +kernel
theorem dX8_shrink_1 : decode cX8_shrink 1 = .ok (.invokevirtual 262, 3) := by decide +kernel
theorem dX8_shrink_4 : decode cX8_shrink 4 = .ok (.aload_n 0, 1) := by decide +kernel
theorem dX8_shrink_5 : decode cX8_shrink 5 = .ok (.getfield 47, 3) := by decide +kernel
theorem dX8_shrink_8 : decode cX8_shrink 8 = .ok (.invokevirtual 265, 3) := by decide +kernel
theorem dX8_shrink_11 : decode cX8_shrink 11 = .ok (.aload_n 0, 1) := by decide +kernel
theorem dX8_shrink_12 : decode cX8_shrink 12 = .ok (.getfield 56, 3) := by decide +kernel
theorem dX8_shrink_15 : decode cX8_shrink 15 = .ok (.invokevirtual 268, 3) := by decide +kernel
theorem dX8_shrink_18 : decode cX8_shrink 18 = .ok (.ifCond .le 14, 3) := by decide +kernel
theorem dX8_shrink_21 : decode cX8_shrink 21 = .ok (.new 105, 3) := by decide +kernel
theorem dX8_shrink_24 : decode cX8_shrink 24 = .ok (.dup, 1) := by decide +kernel
theorem dX8_shrink_25 : decode cX8_shrink 25 = .ok (.ldc_w 277, 3) := by decide +kernel
theorem dX8_shrink_28 : decode cX8_shrink 28 = .ok (.invokespecial 109, 3) := by decide +kernel
theorem dX8_shrink_31 : decode cX8_shrink 31 = .ok (.athrow, 1) := by decide +kernel
theorem dX8_shrink_32 : decode cX8_shrink 32 = .ok (.aload_n 0, 1) := by decide +kernel
theorem dX8_shrink_33 : decode cX8_shrink 33 = .ok (.getfield 22, 3) := by decide +kernel
theorem dX8_shrink_36 : decode cX8_shrink 36 = .ok (.aload_n 0, 1) := by decide +kernel
theorem dX8_shrink_37 : decode cX8_shrink 37 = .ok (.getfield 12, 3) := by decide +kernel
theorem dX8_shrink_40 : decode cX8_shrink 40 = .ok (.invokevirtual 149, 3) := by decide +kernel
theorem dX8_shrink_43 : decode cX8_shrink 43 = .ok (.aload_n 0, 1) := by decide +kernel
theorem dX8_shrink_44 : decode cX8_shrink 44 = .ok (.getfield 56, 3) := by decide +kernel
theorem dX8_shrink_47 : decode cX8_shrink 47 = .ok (.invokevirtual 279, 3) := by decide +kernel
theorem dX8_shrink_50 : decode cX8_shrink 50 = .ok (.ireturn, 1) := by decide +kernel
theorem dX8_leastSize_0 : decode cX8_leastSize 0 = .ok (.aload_n 0, 1) := by decide +kernel
theorem dX8_leastSize_1 : decode cX8_leastSize 1 = .ok (.invokevirtual 282, 3) := by decide +kernel
theorem dX8_leastSize_4 : decode cX8_leastSize 4 = .ok (.aload_n 0, 1) := by decide +kernel
theorem dX8_leastSize_5 : decode cX8_leastSize 5 = .ok (.getfield 63, 3) := by decide +kernel
theorem dX8_leastSize_8 : decode cX8_leastSize 8 = .ok (.invokevirtual 285, 3) := by decide +kernel
theorem dX8_leastSize_11 : decode cX8_leastSize 11 = .ok (.aload_n 0, 1) := by decide +kernel
theorem dX8_leastSize_12 : decode cX8_leastSize 12 = .ok (.getfield 63, 3) := by decide +kernel
theorem dX8_leastSize_15 : decode cX8_leastSize 15 = .ok (.invokevirtual 288, 3) := by decide +kernel
theorem dX8_leastSize_18 : decode cX8_leastSize 18 = .ok (.ireturn, 1) := by decide +kernel
theorem dX8_optimize_0 : decode cX8_optimize 0 = .ok (.aload_n 0, 1) := by decide +kernel
theorem dX8_optimize_1 : decode cX8_optimize 1 = .ok (.invokevirtual 282, 3) := by decide +kernel
theorem dX8_optimize_4 : decode cX8_optimize 4 = .ok (.aload_n 0, 1) := by decide +kernel
theorem dX8_optimize_5 : decode cX8_optimize 5 = .ok (.getfield 22, 3) := by decide +kernel
theorem dX8_optimize_8 : decode cX8_optimize 8 = .ok (.aload_n 0, 1) := by decide +kernel
theorem dX8_optimize_9 : decode cX8_optimize 9 = .ok (.getfield 12, 3) := by decide +kernel
theorem dX8_optimize_12 : decode cX8_optimize 12 = .ok (.invokevirtual 149, 3) := by decide +kernel
theorem dX8_optimize_15 : decode cX8_optimize 15 = .ok (.aload_n 0, 1) := by decide +kernel
theorem dX8_optimize_16 : decode cX8_optimize 16 = .ok (.getfield 63, 3) := by decide +kernel
theorem dX8_optimize_19 : decode cX8_optimize 19 = .ok (.invokevirtual 285, 3) := by decide +kernel
theorem dX8_optimize_22 : decode cX8_optimize 22 = .ok (.aload_n 0, 1) := by decide +kernel
theorem dX8_optimize_23 : decode cX8_optimize 23 = .ok (.getfield 63, 3) := by decide +kernel
theorem dX8_optimize_26 : decode cX8_optimize 26 = .ok (.invokevirtual 291, 3) := by decide +kernel
theorem dX8_optimize_29 : decode cX8_optimize 29 = .ok (.aload_n 0, 1) := by decide +kernel
theorem dX8_optimize_30 : decode cX8_optimize 30 = .ok (.getfield 63, 3) := by decide +kernel
theorem dX8_optimize_33 : decode cX8_optimize 33 = .ok (.invokevirtual 288, 3) := by decide +kernel
theorem dX8_optimize_36 : decode cX8_optimize 36 = .ok (.ireturn, 1) := by decide +kernel
theorem dX8_consistentChoices_0 : decode cX8_consistentChoices 0 = .ok (.aload_n 0, 1) := by decide +kernel
theorem dX8_consistentChoices_1 : decode cX8_consistentChoices 1 = .ok (.invokevirtual 282, 3) := by decide +kernel
theorem dX8_consistentChoices_4 : decode cX8_consistentChoices 4 = .ok (.aload_n 0, 1) := by decide +kernel
theorem dX8_consistentChoices_5 : decode cX8_consistentChoices 5 = .ok (.getfield 63, 3) := by decide +kernel
theorem dX8_consistentChoices_8 : decode cX8_consistentChoices 8 = .ok (.invokevirtual 285, 3) := by decide +kernel
theorem dX8_consistentChoices_11 : decode cX8_consistentChoices 11 = .ok (.aload_n 0, 1) := by decide +kernel
theorem dX8_consistentChoices_12 : decode cX8_consistentChoices 12 = .ok (.getfield 63, 3) := by decide +kernel
theorem dX8_consistentChoices_15 : decode cX8_consistentChoices 15 = .ok (.invokevirtual 294, 3) := by decide +kernel
theorem dX8_consistentChoices_18 : decode cX8_consistentChoices 18 = .ok (.ireturn, 1) := by decide +kernel
theorem dX8_averageForm_0 : decode cX8_averageForm 0 = .ok (.aload_n 0, 1) := by decide +kernel
theorem dX8_averageForm_1 : decode cX8_averageForm 1 = .ok (.getfield 56, 3) := by decide +kernel
theorem dX8_averageForm_4 : decode cX8_averageForm 4 = .ok (.invokevirtual 244, 3) := by decide +kernel
theorem dX8_averageForm_7 : decode cX8_averageForm 7 = .ok (.istore_n 1, 1) := by decide +kernel
theorem dX8_averageForm_8 : decode cX8_averageForm 8 = .ok (.iload_n 1, 1) := by decide +kernel
theorem dX8_averageForm_9 : decode cX8_averageForm 9 = .ok (.ifCond .ne 14, 3) := by decide +kernel
theorem dX8_averageForm_12 : decode cX8_averageForm 12 = .ok (.new 297, 3) := by decide +kernel
theorem dX8_averageForm_15 : decode cX8_averageForm 15 = .ok (.dup, 1) := by decide +kernel
theorem dX8_averageForm_16 : decode cX8_averageForm 16 = .ok (.ldc_w 299, 3) := by decide +kernel
theorem dX8_averageForm_19 : decode cX8_averageForm 19 = .ok (.invokespecial 301, 3) := by decide +kernel
theorem dX8_averageForm_22 : decode cX8_averageForm 22 = .ok (.athrow, 1) := by decide +kernel
theorem dX8_averageForm_23 : decode cX8_averageForm 23 = .ok (.aload_n 0, 1) := by decide +kernel
theorem dX8_averageForm_24 : decode cX8_averageForm 24 = .ok (.getfield 56, 3) := by decide +kernel
theorem dX8_averageForm_27 : decode cX8_averageForm 27 = .ok (.invokevirtual 302, 3) := by decide +kernel
theorem dX8_averageForm_30 : decode cX8_averageForm 30 = .ok (.i2d, 1) := by decide +kernel
theorem dX8_averageForm_31 : decode cX8_averageForm 31 = .ok (.iload_n 1, 1) := by decide +kernel
theorem dX8_averageForm_32 : decode cX8_averageForm 32 = .ok (.i2d, 1) := by decide +kernel
theorem dX8_averageForm_33 : decode cX8_averageForm 33 = .ok (.ddiv, 1) := by decide +kernel
theorem dX8_averageForm_34 : decode cX8_averageForm 34 = .ok (.dreturn, 1) := by decide +kernel
theorem dX8_poolCount_0 : decode cX8_poolCount 0 = .ok (.aload_n 0, 1) := by decide +kernel
theorem dX8_poolCount_1 : decode cX8_poolCount 1 = .ok (.getfield 38, 3) := by decide +kernel
theorem dX8_poolCount_4 : decode cX8_poolCount 4 = .ok (.invokevirtual 236, 3) := by decide +kernel
theorem dX8_poolCount_7 : decode cX8_poolCount 7 = .ok (.aload_n 0, 1) := by decide +kernel
theorem dX8_poolCount_8 : decode cX8_poolCount 8 = .ok (.getfield 38, 3) := by decide +kernel
theorem dX8_poolCount_11 : decode cX8_poolCount 11 = .ok (.invokevirtual 305, 3) := by decide +kernel
theorem dX8_poolCount_14 : decode cX8_poolCount 14 = .ok (.ireturn, 1) := by decide +kernel
theorem dX8_literalCount_0 : decode cX8_literalCount 0 = .ok (.aload_n 0, 1) := by decide +kernel
theorem dX8_literalCount_1 : decode cX8_literalCount 1 = .ok (.iload_n 1, 1) := by decide +kernel
theorem dX8_literalCount_2 : decode cX8_literalCount 2 = .ok (.invokevirtual 308, 3) := by decide +kernel
theorem dX8_literalCount_5 : decode cX8_literalCount 5 = .ok (.aload_n 0, 1) := by decide +kernel
theorem dX8_literalCount_6 : decode cX8_literalCount 6 = .ok (.getfield 38, 3) := by decide +kernel
theorem dX8_literalCount_9 : decode cX8_literalCount 9 = .ok (.iload_n 1, 1) := by decide +kernel
theorem dX8_literalCount_10 : decode cX8_literalCount 10 = .ok (.invokevirtual 311, 3) := by decide +kernel
theorem dX8_literalCount_13 : decode cX8_literalCount 13 = .ok (.ireturn, 1) := by decide +kernel
theorem dX8_literal_0 : decode cX8_literal 0 = .ok (.aload_n 0, 1) := by decide +kernel
theorem dX8_literal_1 : decode cX8_literal 1 = .ok (.iload_n 1, 1) := by decide +kernel
theorem dX8_literal_2 : decode cX8_literal 2 = .ok (.iload_n 2, 1) := by decide +kernel
theorem dX8_literal_3 : decode cX8_literal 3 = .ok (.invokevirtual 314, 3) := by decide +kernel
theorem dX8_literal_6 : decode cX8_literal 6 = .ok (.aload_n 0, 1) := by decide +kernel
theorem dX8_literal_7 : decode cX8_literal 7 = .ok (.getfield 38, 3) := by decide +kernel
theorem dX8_literal_10 : decode cX8_literal 10 = .ok (.iload_n 1, 1) := by decide +kernel
theorem dX8_literal_11 : decode cX8_literal 11 = .ok (.iload_n 2, 1) := by decide +kernel
theorem dX8_literal_12 : decode cX8_literal 12 = .ok (.invokevirtual 317, 3) := by decide +kernel
theorem dX8_literal_15 : decode cX8_literal 15 = .ok (.ireturn, 1) := by decide +kernel
theorem dX8_literalAddress_0 : decode cX8_literalAddress 0 = .ok (.aload_n 0, 1) := by decide +kernel
theorem dX8_literalAddress_1 : decode cX8_literalAddress 1 = .ok (.iload_n 1, 1) := by decide +kernel
theorem dX8_literalAddress_2 : decode cX8_literalAddress 2 = .ok (.iload_n 2, 1) := by decide +kernel
