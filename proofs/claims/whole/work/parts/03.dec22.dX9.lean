theorem dX9_reset_8 : decode cX9_reset 8 = .ok (.istore_n 2, 1) := by decide +kernel
theorem dX9_reset_9 : decode cX9_reset 9 = .ok (.iload_n 2, 1) := by decide +kernel
theorem dX9_reset_10 : decode cX9_reset 10 = .ok (.bipush 121, 2) := by decide +kernel
theorem dX9_reset_12 : decode cX9_reset 12 = .ok (.if_icmp .ge 16, 3) := by decide +kernel
theorem dX9_reset_15 : decode cX9_reset 15 = .ok (.aload_n 0, 1) := by decide +kernel
theorem dX9_reset_16 : decode cX9_reset 16 = .ok (.getfield 7, 3) := by decide +kernel
theorem dX9_reset_19 : decode cX9_reset 19 = .ok (.iload_n 2, 1) := by decide +kernel
theorem dX9_reset_20 : decode cX9_reset 20 = .ok (.iconst 0, 1) := by decide +kernel
theorem dX9_reset_21 : decode cX9_reset 21 = .ok (.iastore, 1) := by decide +kernel
theorem dX9_reset_22 : decode cX9_reset 22 = .ok (.iinc 2 1, 3) := by decide +kernel
theorem dX9_reset_25 : decode cX9_reset 25 = .ok (.goto (-16), 3) := by decide +kernel
theorem dX9_reset_28 : decode cX9_reset 28 = .ok (.aload_n 0, 1) := by decide +kernel
theorem dX9_reset_29 : decode cX9_reset 29 = .ok (.iconst 0, 1) := by decide +kernel
theorem dX9_reset_30 : decode cX9_reset 30 = .ok (.putfield 57, 3) := by decide +kernel
theorem dX9_reset_33 : decode cX9_reset 33 = .ok (.aload_n 0, 1) := by decide +kernel
theorem dX9_reset_34 : decode cX9_reset 34 = .ok (.iload_n 1, 1) := by decide +kernel
theorem dX9_reset_35 : decode cX9_reset 35 = .ok (.invokevirtual 90, 3) := by decide +kernel
theorem dX9_reset_38 : decode cX9_reset 38 = .ok (.ireturn, 1) := by decide +kernel
theorem dX9_itemCount_0 : decode cX9_itemCount 0 = .ok (.aload_n 0, 1) := by decide +kernel
theorem dX9_itemCount_1 : decode cX9_itemCount 1 = .ok (.aload_n 0, 1) := by decide +kernel
theorem dX9_itemCount_2 : decode cX9_itemCount 2 = .ok (.getfield 7, 3) := by decide +kernel
theorem dX9_itemCount_5 : decode cX9_itemCount 5 = .ok (.iconst 0, 1) := by decide +kernel
theorem dX9_itemCount_6 : decode cX9_itemCount 6 = .ok (.iaload, 1) := by decide +kernel
theorem dX9_itemCount_7 : decode cX9_itemCount 7 = .ok (.invokevirtual 90, 3) := by decide +kernel
theorem dX9_itemCount_10 : decode cX9_itemCount 10 = .ok (.ireturn, 1) := by decide +kernel
theorem dX9_append_0 : decode cX9_append 0 = .ok (.iload_n 1, 1) := by decide +kernel
theorem dX9_append_1 : decode cX9_append 1 = .ok (.bipush 32, 2) := by decide +kernel
theorem dX9_append_3 : decode cX9_append 3 = .ok (.bipush 126, 2) := by decide +kernel
theorem dX9_append_5 : decode cX9_append 5 = .ok (.invokestatic 49, 3) := by decide +kernel
theorem dX9_append_8 : decode cX9_append 8 = .ok (.ifCond .ne 9, 3) := by decide +kernel
theorem dX9_append_11 : decode cX9_append 11 = .ok (.aload_n 0, 1) := by decide +kernel
theorem dX9_append_12 : decode cX9_append 12 = .ok (.iconst 1, 1) := by decide +kernel
theorem dX9_append_13 : decode cX9_append 13 = .ok (.invokevirtual 93, 3) := by decide +kernel
theorem dX9_append_16 : decode cX9_append 16 = .ok (.ireturn, 1) := by decide +kernel
theorem dX9_append_17 : decode cX9_append 17 = .ok (.aload_n 0, 1) := by decide +kernel
theorem dX9_append_18 : decode cX9_append 18 = .ok (.getfield 96, 3) := by decide +kernel
theorem dX9_append_21 : decode cX9_append 21 = .ok (.bipush 12, 2) := by decide +kernel
theorem dX9_append_23 : decode cX9_append 23 = .ok (.if_icmp .ne 9, 3) := by decide +kernel
theorem dX9_append_26 : decode cX9_append 26 = .ok (.aload_n 0, 1) := by decide +kernel
theorem dX9_append_27 : decode cX9_append 27 = .ok (.iconst 2, 1) := by decide +kernel
theorem dX9_append_28 : decode cX9_append 28 = .ok (.invokevirtual 93, 3) := by decide +kernel
theorem dX9_append_31 : decode cX9_append 31 = .ok (.ireturn, 1) := by decide +kernel
theorem dX9_append_32 : decode cX9_append 32 = .ok (.aload_n 0, 1) := by decide +kernel
theorem dX9_append_33 : decode cX9_append 33 = .ok (.getfield 19, 3) := by decide +kernel
theorem dX9_append_36 : decode cX9_append 36 = .ok (.aload_n 0, 1) := by decide +kernel
theorem dX9_append_37 : decode cX9_append 37 = .ok (.getfield 96, 3) := by decide +kernel
theorem dX9_append_40 : decode cX9_append 40 = .ok (.iload_n 1, 1) := by decide +kernel
theorem dX9_append_41 : decode cX9_append 41 = .ok (.castore, 1) := by decide +kernel
theorem dX9_append_42 : decode cX9_append 42 = .ok (.aload_n 0, 1) := by decide +kernel
theorem dX9_append_43 : decode cX9_append 43 = .ok (.dup, 1) := by decide +kernel
theorem dX9_append_44 : decode cX9_append 44 = .ok (.getfield 96, 3) := by decide +kernel
theorem dX9_append_47 : decode cX9_append 47 = .ok (.iconst 1, 1) := by decide +kernel
theorem dX9_append_48 : decode cX9_append 48 = .ok (.iadd, 1) := by decide +kernel
theorem dX9_append_49 : decode cX9_append 49 = .ok (.putfield 96, 3) := by decide +kernel
theorem dX9_append_52 : decode cX9_append 52 = .ok (.aload_n 0, 1) := by decide +kernel
theorem dX9_append_53 : decode cX9_append 53 = .ok (.aload_n 0, 1) := by decide +kernel
theorem dX9_append_54 : decode cX9_append 54 = .ok (.getfield 96, 3) := by decide +kernel
theorem dX9_append_57 : decode cX9_append 57 = .ok (.invokevirtual 90, 3) := by decide +kernel
theorem dX9_append_60 : decode cX9_append 60 = .ok (.ireturn, 1) := by decide +kernel
theorem dX9_nameSize_0 : decode cX9_nameSize 0 = .ok (.bipush 6, 2) := by decide +kernel
theorem dX9_nameSize_2 : decode cX9_nameSize 2 = .ok (.istore_n 2, 1) := by decide +kernel
theorem dX9_nameSize_3 : decode cX9_nameSize 3 = .ok (.aload_n 0, 1) := by decide +kernel
theorem dX9_nameSize_4 : decode cX9_nameSize 4 = .ok (.getfield 33, 3) := by decide +kernel
theorem dX9_nameSize_7 : decode cX9_nameSize 7 = .ok (.bipush 6, 2) := by decide +kernel
theorem dX9_nameSize_9 : decode cX9_nameSize 9 = .ok (.iload_n 1, 1) := by decide +kernel
theorem dX9_nameSize_10 : decode cX9_nameSize 10 = .ok (.imul, 1) := by decide +kernel
theorem dX9_nameSize_11 : decode cX9_nameSize 11 = .ok (.iload_n 2, 1) := by decide +kernel
theorem dX9_nameSize_12 : decode cX9_nameSize 12 = .ok (.iadd, 1) := by decide +kernel
theorem dX9_nameSize_13 : decode cX9_nameSize 13 = .ok (.iconst 1, 1) := by decide +kernel
theorem dX9_nameSize_14 : decode cX9_nameSize 14 = .ok (.isub, 1) := by decide +kernel
theorem dX9_nameSize_15 : decode cX9_nameSize 15 = .ok (.iaload, 1) := by decide +kernel
theorem dX9_nameSize_16 : decode cX9_nameSize 16 = .ok (.bipush 32, 2) := by decide +kernel
theorem dX9_nameSize_18 : decode cX9_nameSize 18 = .ok (.if_icmp .ne 9, 3) := by decide +kernel
theorem dX9_nameSize_21 : decode cX9_nameSize 21 = .ok (.iinc 2 (-1), 3) := by decide +kernel
theorem dX9_nameSize_24 : decode cX9_nameSize 24 = .ok (.goto (-21), 3) := by decide +kernel
theorem dX9_nameSize_27 : decode cX9_nameSize 27 = .ok (.iload_n 2, 1) := by decide +kernel
theorem dX9_nameSize_28 : decode cX9_nameSize 28 = .ok (.ireturn, 1) := by decide +kernel
theorem dX9_isFigure_0 : decode cX9_isFigure 0 = .ok (.iload_n 1, 1) := by decide +kernel
theorem dX9_isFigure_1 : decode cX9_isFigure 1 = .ok (.aload_n 0, 1) := by decide +kernel
theorem dX9_isFigure_2 : decode cX9_isFigure 2 = .ok (.getfield 96, 3) := by decide +kernel
theorem dX9_isFigure_5 : decode cX9_isFigure 5 = .ok (.if_icmp .ge 23, 3) := by decide +kernel
theorem dX9_isFigure_8 : decode cX9_isFigure 8 = .ok (.aload_n 0, 1) := by decide +kernel
theorem dX9_isFigure_9 : decode cX9_isFigure 9 = .ok (.getfield 19, 3) := by decide +kernel
theorem dX9_isFigure_12 : decode cX9_isFigure 12 = .ok (.iload_n 1, 1) := by decide +kernel
theorem dX9_isFigure_13 : decode cX9_isFigure 13 = .ok (.caload, 1) := by decide +kernel
theorem dX9_isFigure_14 : decode cX9_isFigure 14 = .ok (.bipush 48, 2) := by decide +kernel
theorem dX9_isFigure_16 : decode cX9_isFigure 16 = .ok (.bipush 57, 2) := by decide +kernel
theorem dX9_isFigure_18 : decode cX9_isFigure 18 = .ok (.invokestatic 49, 3) := by decide +kernel
theorem dX9_isFigure_21 : decode cX9_isFigure 21 = .ok (.ifCond .eq 7, 3) := by decide +kernel
theorem dX9_isFigure_24 : decode cX9_isFigure 24 = .ok (.iconst 1, 1) := by decide +kernel
theorem dX9_isFigure_25 : decode cX9_isFigure 25 = .ok (.goto 4, 3) := by decide +kernel
theorem dX9_isFigure_28 : decode cX9_isFigure 28 = .ok (.iconst 0, 1) := by decide +kernel
theorem dX9_isFigure_29 : decode cX9_isFigure 29 = .ok (.ireturn, 1) := by decide +kernel
theorem dX9_goes_0 : decode cX9_goes 0 = .ok (.aload_n 0, 1) := by decide +kernel
theorem dX9_goes_1 : decode cX9_goes 1 = .ok (.iload_n 1, 1) := by decide +kernel
theorem dX9_goes_2 : decode cX9_goes 2 = .ok (.invokevirtual 99, 3) := by decide +kernel
theorem dX9_goes_5 : decode cX9_goes 5 = .ok (.istore_n 2, 1) := by decide +kernel
theorem dX9_goes_6 : decode cX9_goes 6 = .ok (.aload_n 0, 1) := by decide +kernel
theorem dX9_goes_7 : decode cX9_goes 7 = .ok (.iconst 0, 1) := by decide +kernel
theorem dX9_goes_8 : decode cX9_goes 8 = .ok (.putfield 102, 3) := by decide +kernel
theorem dX9_goes_11 : decode cX9_goes 11 = .ok (.aload_n 0, 1) := by decide +kernel
theorem dX9_goes_12 : decode cX9_goes 12 = .ok (.iconst 0, 1) := by decide +kernel
theorem dX9_goes_13 : decode cX9_goes 13 = .ok (.putfield 106, 3) := by decide +kernel
theorem dX9_goes_16 : decode cX9_goes 16 = .ok (.iconst 0, 1) := by decide +kernel
theorem dX9_goes_17 : decode cX9_goes 17 = .ok (.istore_n 3, 1) := by decide +kernel
theorem dX9_goes_18 : decode cX9_goes 18 = .ok (.iload_n 3, 1) := by decide +kernel
theorem dX9_goes_19 : decode cX9_goes 19 = .ok (.iload_n 2, 1) := by decide +kernel
theorem dX9_goes_20 : decode cX9_goes 20 = .ok (.if_icmp .ge 37, 3) := by decide +kernel
theorem dX9_goes_23 : decode cX9_goes 23 = .ok (.iload_n 3, 1) := by decide +kernel
theorem dX9_goes_24 : decode cX9_goes 24 = .ok (.aload_n 0, 1) := by decide +kernel
theorem dX9_goes_25 : decode cX9_goes 25 = .ok (.getfield 96, 3) := by decide +kernel
theorem dX9_goes_28 : decode cX9_goes 28 = .ok (.if_icmp .ge 29, 3) := by decide +kernel
theorem dX9_goes_31 : decode cX9_goes 31 = .ok (.aload_n 0, 1) := by decide +kernel
theorem dX9_goes_32 : decode cX9_goes 32 = .ok (.getfield 19, 3) := by decide +kernel
theorem dX9_goes_35 : decode cX9_goes 35 = .ok (.iload_n 3, 1) := by decide +kernel
theorem dX9_goes_36 : decode cX9_goes 36 = .ok (.caload, 1) := by decide +kernel
theorem dX9_goes_37 : decode cX9_goes 37 = .ok (.aload_n 0, 1) := by decide +kernel
theorem dX9_goes_38 : decode cX9_goes 38 = .ok (.getfield 33, 3) := by decide +kernel
theorem dX9_goes_41 : decode cX9_goes 41 = .ok (.bipush 6, 2) := by decide +kernel
theorem dX9_goes_43 : decode cX9_goes 43 = .ok (.iload_n 1, 1) := by decide +kernel
theorem dX9_goes_44 : decode cX9_goes 44 = .ok (.imul, 1) := by decide +kernel
theorem dX9_goes_45 : decode cX9_goes 45 = .ok (.iload_n 3, 1) := by decide +kernel
theorem dX9_goes_46 : decode cX9_goes 46 = .ok (.iadd, 1) := by decide +kernel
theorem dX9_goes_47 : decode cX9_goes 47 = .ok (.iaload, 1) := by decide +kernel
theorem dX9_goes_48 : decode cX9_goes 48 = .ok (.if_icmp .ne 9, 3) := by decide +kernel
theorem dX9_goes_51 : decode cX9_goes 51 = .ok (.iinc 3 1, 3) := by decide +kernel
theorem dX9_goes_54 : decode cX9_goes 54 = .ok (.goto (-36), 3) := by decide +kernel
theorem dX9_goes_57 : decode cX9_goes 57 = .ok (.iload_n 3, 1) := by decide +kernel
theorem dX9_goes_58 : decode cX9_goes 58 = .ok (.iload_n 2, 1) := by decide +kernel
theorem dX9_goes_59 : decode cX9_goes 59 = .ok (.if_icmp .lt 9, 3) := by decide +kernel
theorem dX9_goes_62 : decode cX9_goes 62 = .ok (.iload_n 1, 1) := by decide +kernel
theorem dX9_goes_63 : decode cX9_goes 63 = .ok (.bipush 7, 2) := by decide +kernel
theorem dX9_goes_65 : decode cX9_goes 65 = .ok (.if_icmp .ne 27, 3) := by decide +kernel
theorem dX9_goes_68 : decode cX9_goes 68 = .ok (.aload_n 0, 1) := by decide +kernel
theorem dX9_goes_69 : decode cX9_goes 69 = .ok (.iload_n 3, 1) := by decide +kernel
theorem dX9_goes_70 : decode cX9_goes 70 = .ok (.iload_n 2, 1) := by decide +kernel
theorem dX9_goes_71 : decode cX9_goes 71 = .ok (.if_icmp .ne 15, 3) := by decide +kernel
theorem dX9_goes_74 : decode cX9_goes 74 = .ok (.iload_n 3, 1) := by decide +kernel
theorem dX9_goes_75 : decode cX9_goes 75 = .ok (.aload_n 0, 1) := by decide +kernel
theorem dX9_goes_76 : decode cX9_goes 76 = .ok (.getfield 96, 3) := by decide +kernel
theorem dX9_goes_79 : decode cX9_goes 79 = .ok (.if_icmp .ne 7, 3) := by decide +kernel
theorem dX9_goes_82 : decode cX9_goes 82 = .ok (.iconst 1, 1) := by decide +kernel
theorem dX9_goes_83 : decode cX9_goes 83 = .ok (.goto 4, 3) := by decide +kernel
theorem dX9_goes_86 : decode cX9_goes 86 = .ok (.iconst 0, 1) := by decide +kernel
theorem dX9_goes_87 : decode cX9_goes 87 = .ok (.putfield 102, 3) := by decide +kernel
theorem dX9_goes_90 : decode cX9_goes 90 = .ok (.iload_n 3, 1) := by decide +kernel
theorem dX9_goes_91 : decode cX9_goes 91 = .ok (.ireturn, 1) := by decide +kernel
theorem dX9_goes_92 : decode cX9_goes 92 = .ok (.iload_n 3, 1) := by decide +kernel
theorem dX9_goes_93 : decode cX9_goes 93 = .ok (.aload_n 0, 1) := by decide +kernel
theorem dX9_goes_94 : decode cX9_goes 94 = .ok (.getfield 96, 3) := by decide +kernel
theorem dX9_goes_97 : decode cX9_goes 97 = .ok (.if_icmp .eq 14, 3) := by decide +kernel
theorem dX9_goes_100 : decode cX9_goes 100 = .ok (.aload_n 0, 1) := by decide +kernel
theorem dX9_goes_101 : decode cX9_goes 101 = .ok (.getfield 19, 3) := by decide +kernel
theorem dX9_goes_104 : decode cX9_goes 104 = .ok (.iload_n 3, 1) := by decide +kernel
theorem dX9_goes_105 : decode cX9_goes 105 = .ok (.caload, 1) := by decide +kernel
theorem dX9_goes_106 : decode cX9_goes 106 = .ok (.bipush 32, 2) := by decide +kernel
theorem dX9_goes_108 : decode cX9_goes 108 = .ok (.if_icmp .eq 5, 3) := by decide +kernel
theorem dX9_goes_111 : decode cX9_goes 111 = .ok (.iload_n 3, 1) := by decide +kernel
theorem dX9_goes_112 : decode cX9_goes 112 = .ok (.ireturn, 1) := by decide +kernel
theorem dX9_goes_113 : decode cX9_goes 113 = .ok (.iinc 3 1, 3) := by decide +kernel
theorem dX9_goes_116 : decode cX9_goes 116 = .ok (.iconst 0, 1) := by decide +kernel
theorem dX9_goes_117 : decode cX9_goes 117 = .ok (.istore 4, 2) := by decide +kernel
theorem dX9_goes_119 : decode cX9_goes 119 = .ok (.iload 4, 2) := by decide +kernel
theorem dX9_goes_121 : decode cX9_goes 121 = .ok (.iconst 2, 1) := by decide +kernel
theorem dX9_goes_122 : decode cX9_goes 122 = .ok (.if_icmp .ge 46, 3) := by decide +kernel
theorem dX9_goes_125 : decode cX9_goes 125 = .ok (.aload_n 0, 1) := by decide +kernel
theorem dX9_goes_126 : decode cX9_goes 126 = .ok (.iload_n 3, 1) := by decide +kernel
theorem dX9_goes_127 : decode cX9_goes 127 = .ok (.invokevirtual 109, 3) := by decide +kernel
theorem dX9_goes_130 : decode cX9_goes 130 = .ok (.ifCond .eq 38, 3) := by decide +kernel
theorem dX9_goes_133 : decode cX9_goes 133 = .ok (.aload_n 0, 1) := by decide +kernel
theorem dX9_goes_134 : decode cX9_goes 134 = .ok (.bipush 10, 2) := by decide +kernel
theorem dX9_goes_136 : decode cX9_goes 136 = .ok (.aload_n 0, 1) := by decide +kernel
theorem dX9_goes_137 : decode cX9_goes 137 = .ok (.getfield 106, 3) := by decide +kernel
theorem dX9_goes_140 : decode cX9_goes 140 = .ok (.imul, 1) := by decide +kernel
theorem dX9_goes_141 : decode cX9_goes 141 = .ok (.aload_n 0, 1) := by decide +kernel
theorem dX9_goes_142 : decode cX9_goes 142 = .ok (.getfield 19, 3) := by decide +kernel
theorem dX9_goes_145 : decode cX9_goes 145 = .ok (.iload_n 3, 1) := by decide +kernel
theorem dX9_goes_146 : decode cX9_goes 146 = .ok (.caload, 1) := by decide +kernel
theorem dX9_goes_147 : decode cX9_goes 147 = .ok (.iadd, 1) := by decide +kernel
theorem dX9_goes_148 : decode cX9_goes 148 = .ok (.bipush 48, 2) := by decide +kernel
theorem dX9_goes_150 : decode cX9_goes 150 = .ok (.isub, 1) := by decide +kernel
theorem dX9_goes_151 : decode cX9_goes 151 = .ok (.putfield 106, 3) := by decide +kernel
theorem dX9_goes_154 : decode cX9_goes 154 = .ok (.iinc 3 1, 3) := by decide +kernel
theorem dX9_goes_157 : decode cX9_goes 157 = .ok (.aload_n 0, 1) := by decide +kernel
theorem dX9_goes_158 : decode cX9_goes 158 = .ok (.iconst 1, 1) := by decide +kernel
theorem dX9_goes_159 : decode cX9_goes 159 = .ok (.putfield 102, 3) := by decide +kernel
theorem dX9_goes_162 : decode cX9_goes 162 = .ok (.iinc 4 1, 3) := by decide +kernel
theorem dX9_goes_165 : decode cX9_goes 165 = .ok (.goto (-46), 3) := by decide +kernel
theorem dX9_goes_168 : decode cX9_goes 168 = .ok (.aload_n 0, 1) := by decide +kernel
theorem dX9_goes_169 : decode cX9_goes 169 = .ok (.aload_n 0, 1) := by decide +kernel
theorem dX9_goes_170 : decode cX9_goes 170 = .ok (.getfield 102, 3) := by decide +kernel
theorem dX9_goes_173 : decode cX9_goes 173 = .ok (.ifCond .eq 15, 3) := by decide +kernel
theorem dX9_goes_176 : decode cX9_goes 176 = .ok (.iload_n 3, 1) := by decide +kernel
theorem dX9_goes_177 : decode cX9_goes 177 = .ok (.aload_n 0, 1) := by decide +kernel
theorem dX9_goes_178 : decode cX9_goes 178 = .ok (.getfield 96, 3) := by decide +kernel
theorem dX9_goes_181 : decode cX9_goes 181 = .ok (.if_icmp .ne 7, 3) := by decide +kernel
theorem dX9_goes_184 : decode cX9_goes 184 = .ok (.iconst 1, 1) := by decide +kernel
theorem dX9_goes_185 : decode cX9_goes 185 = .ok (.goto 4, 3) := by decide +kernel
theorem dX9_goes_188 : decode cX9_goes 188 = .ok (.iconst 0, 1) := by decide +kernel
theorem dX9_goes_189 : decode cX9_goes 189 = .ok (.putfield 102, 3) := by decide +kernel
theorem dX9_goes_192 : decode cX9_goes 192 = .ok (.iload_n 3, 1) := by decide +kernel
theorem dX9_goes_193 : decode cX9_goes 193 = .ok (.ireturn, 1) := by decide +kernel
theorem dX9_isOperand_0 : decode cX9_isOperand 0 = .ok (.iload_n 0, 1) := by decide +kernel
theorem dX9_isOperand_1 : decode cX9_isOperand 1 = .ok (.tableswitch 80 0 7 #[47, 55, 80, 63, 80, 80, 70, 78], 47) := by decide +kernel
theorem dX9_isOperand_48 : decode cX9_isOperand 48 = .ok (.iload_n 1, 1) := by decide +kernel
theorem dX9_isOperand_49 : decode cX9_isOperand 49 = .ok (.iconst 1, 1) := by decide +kernel
theorem dX9_isOperand_50 : decode cX9_isOperand 50 = .ok (.bipush 9, 2) := by decide +kernel
theorem dX9_isOperand_52 : decode cX9_isOperand 52 = .ok (.invokestatic 49, 3) := by decide +kernel
theorem dX9_isOperand_55 : decode cX9_isOperand 55 = .ok (.ireturn, 1) := by decide +kernel
theorem dX9_isOperand_56 : decode cX9_isOperand 56 = .ok (.iload_n 1, 1) := by decide +kernel
theorem dX9_isOperand_57 : decode cX9_isOperand 57 = .ok (.iconst 1, 1) := by decide +kernel
theorem dX9_isOperand_58 : decode cX9_isOperand 58 = .ok (.bipush 50, 2) := by decide +kernel
theorem dX9_isOperand_60 : decode cX9_isOperand 60 = .ok (.invokestatic 49, 3) := by decide +kernel
theorem dX9_isOperand_63 : decode cX9_isOperand 63 = .ok (.ireturn, 1) := by decide +kernel
theorem dX9_isOperand_64 : decode cX9_isOperand 64 = .ok (.iload_n 1, 1) := by decide +kernel
theorem dX9_isOperand_65 : decode cX9_isOperand 65 = .ok (.iconst 1, 1) := by decide +kernel
theorem dX9_isOperand_66 : decode cX9_isOperand 66 = .ok (.iconst 4, 1) := by decide +kernel
theorem dX9_isOperand_67 : decode cX9_isOperand 67 = .ok (.invokestatic 49, 3) := by decide +kernel
theorem dX9_isOperand_70 : decode cX9_isOperand 70 = .ok (.ireturn, 1) := by decide +kernel
theorem dX9_isOperand_71 : decode cX9_isOperand 71 = .ok (.iload_n 1, 1) := by decide +kernel
theorem dX9_isOperand_72 : decode cX9_isOperand 72 = .ok (.iconst 0, 1) := by decide +kernel
theorem dX9_isOperand_73 : decode cX9_isOperand 73 = .ok (.bipush 99, 2) := by decide +kernel
theorem dX9_isOperand_75 : decode cX9_isOperand 75 = .ok (.invokestatic 49, 3) := by decide +kernel
theorem dX9_isOperand_78 : decode cX9_isOperand 78 = .ok (.ireturn, 1) := by decide +kernel
theorem dX9_isOperand_79 : decode cX9_isOperand 79 = .ok (.iconst 1, 1) := by decide +kernel
theorem dX9_isOperand_80 : decode cX9_isOperand 80 = .ok (.ireturn, 1) := by decide +kernel
theorem dX9_isOperand_81 : decode cX9_isOperand 81 = .ok (.iload_n 1, 1) := by decide +kernel
theorem dX9_isOperand_82 : decode cX9_isOperand 82 = .ok (.iconst 0, 1) := by decide +kernel
theorem dX9_isOperand_83 : decode cX9_isOperand 83 = .ok (.bipush 9, 2) := by decide +kernel
theorem dX9_isOperand_85 : decode cX9_isOperand 85 = .ok (.invokestatic 49, 3) := by decide +kernel
theorem dX9_isOperand_88 : decode cX9_isOperand 88 = .ok (.ireturn, 1) := by decide +kernel
theorem dX9_opens_0 : decode cX9_opens 0 = .ok (.aload_n 0, 1) := by decide +kernel
theorem dX9_opens_1 : decode cX9_opens 1 = .ok (.getfield 7, 3) := by decide +kernel
theorem dX9_opens_4 : decode cX9_opens 4 = .ok (.iconst 0, 1) := by decide +kernel
theorem dX9_opens_5 : decode cX9_opens 5 = .ok (.iaload, 1) := by decide +kernel
theorem dX9_opens_6 : decode cX9_opens 6 = .ok (.istore_n 2, 1) := by decide +kernel
theorem dX9_opens_7 : decode cX9_opens 7 = .ok (.iload_n 2, 1) := by decide +kernel
theorem dX9_opens_8 : decode cX9_opens 8 = .ok (.iload_n 1, 1) := by decide +kernel
theorem dX9_opens_9 : decode cX9_opens 9 = .ok (.if_icmp .le 52, 3) := by decide +kernel
theorem dX9_opens_12 : decode cX9_opens 12 = .ok (.aload_n 0, 1) := by decide +kernel
theorem dX9_opens_13 : decode cX9_opens 13 = .ok (.getfield 7, 3) := by decide +kernel
theorem dX9_opens_16 : decode cX9_opens 16 = .ok (.iconst 1, 1) := by decide +kernel
theorem dX9_opens_17 : decode cX9_opens 17 = .ok (.iload_n 2, 1) := by decide +kernel
theorem dX9_opens_18 : decode cX9_opens 18 = .ok (.iadd, 1) := by decide +kernel
theorem dX9_opens_19 : decode cX9_opens 19 = .ok (.aload_n 0, 1) := by decide +kernel
theorem dX9_opens_20 : decode cX9_opens 20 = .ok (.iload_n 2, 1) := by decide +kernel
theorem dX9_opens_21 : decode cX9_opens 21 = .ok (.iconst 1, 1) := by decide +kernel
theorem dX9_opens_22 : decode cX9_opens 22 = .ok (.isub, 1) := by decide +kernel
theorem dX9_opens_23 : decode cX9_opens 23 = .ok (.invokevirtual 53, 3) := by decide +kernel
theorem dX9_opens_26 : decode cX9_opens 26 = .ok (.iastore, 1) := by decide +kernel
theorem dX9_opens_27 : decode cX9_opens 27 = .ok (.aload_n 0, 1) := by decide +kernel
theorem dX9_opens_28 : decode cX9_opens 28 = .ok (.getfield 7, 3) := by decide +kernel
theorem dX9_opens_31 : decode cX9_opens 31 = .ok (.bipush 41, 2) := by decide +kernel
theorem dX9_opens_33 : decode cX9_opens 33 = .ok (.iload_n 2, 1) := by decide +kernel
theorem dX9_opens_34 : decode cX9_opens 34 = .ok (.iadd, 1) := by decide +kernel
theorem dX9_opens_35 : decode cX9_opens 35 = .ok (.aload_n 0, 1) := by decide +kernel
theorem dX9_opens_36 : decode cX9_opens 36 = .ok (.iload_n 2, 1) := by decide +kernel
theorem dX9_opens_37 : decode cX9_opens 37 = .ok (.iconst 1, 1) := by decide +kernel
theorem dX9_opens_38 : decode cX9_opens 38 = .ok (.isub, 1) := by decide +kernel
theorem dX9_opens_39 : decode cX9_opens 39 = .ok (.invokevirtual 63, 3) := by decide +kernel
theorem dX9_opens_42 : decode cX9_opens 42 = .ok (.iastore, 1) := by decide +kernel
theorem dX9_opens_43 : decode cX9_opens 43 = .ok (.aload_n 0, 1) := by decide +kernel
theorem dX9_opens_44 : decode cX9_opens 44 = .ok (.iload_n 2, 1) := by decide +kernel
theorem dX9_opens_45 : decode cX9_opens 45 = .ok (.aload_n 0, 1) := by decide +kernel
theorem dX9_opens_46 : decode cX9_opens 46 = .ok (.iload_n 2, 1) := by decide +kernel
theorem dX9_opens_47 : decode cX9_opens 47 = .ok (.iconst 1, 1) := by decide +kernel
theorem dX9_opens_48 : decode cX9_opens 48 = .ok (.isub, 1) := by decide +kernel
theorem dX9_opens_49 : decode cX9_opens 49 = .ok (.invokevirtual 83, 3) := by decide +kernel
theorem dX9_opens_52 : decode cX9_opens 52 = .ok (.invokevirtual 113, 3) := by decide +kernel
theorem dX9_opens_55 : decode cX9_opens 55 = .ok (.iinc 2 (-1), 3) := by decide +kernel
theorem dX9_opens_58 : decode cX9_opens 58 = .ok (.goto (-51), 3) := by decide +kernel
theorem dX9_opens_61 : decode cX9_opens 61 = .ok (.aload_n 0, 1) := by decide +kernel
theorem dX9_opens_62 : decode cX9_opens 62 = .ok (.getfield 7, 3) := by decide +kernel
theorem dX9_opens_65 : decode cX9_opens 65 = .ok (.iconst 0, 1) := by decide +kernel
theorem dX9_opens_66 : decode cX9_opens 66 = .ok (.dup2, 1) := by decide +kernel
theorem dX9_opens_67 : decode cX9_opens 67 = .ok (.iaload, 1) := by decide +kernel
theorem dX9_opens_68 : decode cX9_opens 68 = .ok (.iconst 1, 1) := by decide +kernel
theorem dX9_opens_69 : decode cX9_opens 69 = .ok (.iadd, 1) := by decide +kernel
theorem dX9_opens_70 : decode cX9_opens 70 = .ok (.iastore, 1) := by decide +kernel
theorem dX9_opens_71 : decode cX9_opens 71 = .ok (.return_, 1) := by decide +kernel
theorem dX9_puts_0 : decode cX9_puts 0 = .ok (.aload_n 0, 1) := by decide +kernel
theorem dX9_puts_1 : decode cX9_puts 1 = .ok (.getfield 7, 3) := by decide +kernel
theorem dX9_puts_4 : decode cX9_puts 4 = .ok (.iconst 1, 1) := by decide +kernel
theorem dX9_puts_5 : decode cX9_puts 5 = .ok (.iload_n 1, 1) := by decide +kernel
theorem dX9_puts_6 : decode cX9_puts 6 = .ok (.iadd, 1) := by decide +kernel
theorem dX9_puts_7 : decode cX9_puts 7 = .ok (.iload_n 2, 1) := by decide +kernel
theorem dX9_puts_8 : decode cX9_puts 8 = .ok (.iastore, 1) := by decide +kernel
theorem dX9_puts_9 : decode cX9_puts 9 = .ok (.aload_n 0, 1) := by decide +kernel
theorem dX9_puts_10 : decode cX9_puts 10 = .ok (.getfield 7, 3) := by decide +kernel
theorem dX9_puts_13 : decode cX9_puts 13 = .ok (.bipush 41, 2) := by decide +kernel
theorem dX9_puts_15 : decode cX9_puts 15 = .ok (.iload_n 1, 1) := by decide +kernel
theorem dX9_puts_16 : decode cX9_puts 16 = .ok (.iadd, 1) := by decide +kernel
theorem dX9_puts_17 : decode cX9_puts 17 = .ok (.iload_n 3, 1) := by decide +kernel
theorem dX9_puts_18 : decode cX9_puts 18 = .ok (.iastore, 1) := by decide +kernel
theorem dX9_puts_19 : decode cX9_puts 19 = .ok (.aload_n 0, 1) := by decide +kernel
theorem dX9_puts_20 : decode cX9_puts 20 = .ok (.iload_n 1, 1) := by decide +kernel
theorem dX9_puts_21 : decode cX9_puts 21 = .ok (.iload 4, 2) := by decide +kernel
theorem dX9_puts_23 : decode cX9_puts 23 = .ok (.invokevirtual 113, 3) := by decide +kernel
theorem dX9_puts_26 : decode cX9_puts 26 = .ok (.return_, 1) := by decide +kernel
theorem dX9_closes_0 : decode cX9_closes 0 = .ok (.aload_n 0, 1) := by decide +kernel
theorem dX9_closes_1 : decode cX9_closes 1 = .ok (.getfield 7, 3) := by decide +kernel
theorem dX9_closes_4 : decode cX9_closes 4 = .ok (.iconst 0, 1) := by decide +kernel
theorem dX9_closes_5 : decode cX9_closes 5 = .ok (.dup2, 1) := by decide +kernel
theorem dX9_closes_6 : decode cX9_closes 6 = .ok (.iaload, 1) := by decide +kernel
theorem dX9_closes_7 : decode cX9_closes 7 = .ok (.iconst 1, 1) := by decide +kernel
theorem dX9_closes_8 : decode cX9_closes 8 = .ok (.isub, 1) := by decide +kernel
theorem dX9_closes_9 : decode cX9_closes 9 = .ok (.iastore, 1) := by decide +kernel
theorem dX9_closes_10 : decode cX9_closes 10 = .ok (.iload_n 1, 1) := by decide +kernel
theorem dX9_closes_11 : decode cX9_closes 11 = .ok (.istore_n 2, 1) := by decide +kernel
theorem dX9_closes_12 : decode cX9_closes 12 = .ok (.iload_n 2, 1) := by decide +kernel
theorem dX9_closes_13 : decode cX9_closes 13 = .ok (.aload_n 0, 1) := by decide +kernel
theorem dX9_closes_14 : decode cX9_closes 14 = .ok (.getfield 7, 3) := by decide +kernel
theorem dX9_closes_17 : decode cX9_closes 17 = .ok (.iconst 0, 1) := by decide +kernel
theorem dX9_closes_18 : decode cX9_closes 18 = .ok (.iaload, 1) := by decide +kernel
theorem dX9_closes_19 : decode cX9_closes 19 = .ok (.if_icmp .ge 35, 3) := by decide +kernel
theorem dX9_closes_22 : decode cX9_closes 22 = .ok (.aload_n 0, 1) := by decide +kernel
theorem dX9_closes_23 : decode cX9_closes 23 = .ok (.iload_n 2, 1) := by decide +kernel
theorem dX9_closes_24 : decode cX9_closes 24 = .ok (.aload_n 0, 1) := by decide +kernel
theorem dX9_closes_25 : decode cX9_closes 25 = .ok (.iload_n 2, 1) := by decide +kernel
theorem dX9_closes_26 : decode cX9_closes 26 = .ok (.iconst 1, 1) := by decide +kernel
theorem dX9_closes_27 : decode cX9_closes 27 = .ok (.iadd, 1) := by decide +kernel
theorem dX9_closes_28 : decode cX9_closes 28 = .ok (.invokevirtual 53, 3) := by decide +kernel
theorem dX9_closes_31 : decode cX9_closes 31 = .ok (.aload_n 0, 1) := by decide +kernel
theorem dX9_closes_32 : decode cX9_closes 32 = .ok (.iload_n 2, 1) := by decide +kernel
theorem dX9_closes_33 : decode cX9_closes 33 = .ok (.iconst 1, 1) := by decide +kernel
theorem dX9_closes_34 : decode cX9_closes 34 = .ok (.iadd, 1) := by decide +kernel
theorem dX9_closes_35 : decode cX9_closes 35 = .ok (.invokevirtual 63, 3) := by decide +kernel
theorem dX9_closes_38 : decode cX9_closes 38 = .ok (.aload_n 0, 1) := by decide +kernel
theorem dX9_closes_39 : decode cX9_closes 39 = .ok (.iload_n 2, 1) := by decide +kernel
theorem dX9_closes_40 : decode cX9_closes 40 = .ok (.iconst 1, 1) := by decide +kernel
theorem dX9_closes_41 : decode cX9_closes 41 = .ok (.iadd, 1) := by decide +kernel
theorem dX9_closes_42 : decode cX9_closes 42 = .ok (.invokevirtual 83, 3) := by decide +kernel
theorem dX9_closes_45 : decode cX9_closes 45 = .ok (.invokevirtual 117, 3) := by decide +kernel
theorem dX9_closes_48 : decode cX9_closes 48 = .ok (.iinc 2 1, 3) := by decide +kernel
theorem dX9_closes_51 : decode cX9_closes 51 = .ok (.goto (-39), 3) := by decide +kernel
theorem dX9_closes_54 : decode cX9_closes 54 = .ok (.return_, 1) := by decide +kernel
theorem dX9_insert_0 : decode cX9_insert 0 = .ok (.iconst 0, 1) := by decide +kernel
theorem dX9_insert_1 : decode cX9_insert 1 = .ok (.istore_n 2, 1) := by decide +kernel
theorem dX9_insert_2 : decode cX9_insert 2 = .ok (.iconst (-1), 1) := by decide +kernel
theorem dX9_insert_3 : decode cX9_insert 3 = .ok (.istore_n 3, 1) := by decide +kernel
theorem dX9_insert_4 : decode cX9_insert 4 = .ok (.iconst 0, 1) := by decide +kernel
theorem dX9_insert_5 : decode cX9_insert 5 = .ok (.istore 4, 2) := by decide +kernel
theorem dX9_insert_7 : decode cX9_insert 7 = .ok (.iconst 0, 1) := by decide +kernel
theorem dX9_insert_8 : decode cX9_insert 8 = .ok (.istore 5, 2) := by decide +kernel
theorem dX9_insert_10 : decode cX9_insert 10 = .ok (.iload 5, 2) := by decide +kernel
theorem dX9_insert_12 : decode cX9_insert 12 = .ok (.bipush 8, 2) := by decide +kernel
theorem dX9_insert_14 : decode cX9_insert 14 = .ok (.if_icmp .ge 62, 3) := by decide +kernel
theorem dX9_insert_17 : decode cX9_insert 17 = .ok (.aload_n 0, 1) := by decide +kernel
theorem dX9_insert_18 : decode cX9_insert 18 = .ok (.iload 5, 2) := by decide +kernel
theorem dX9_insert_20 : decode cX9_insert 20 = .ok (.invokevirtual 121, 3) := by decide +kernel
theorem dX9_insert_23 : decode cX9_insert 23 = .ok (.istore 6, 2) := by decide +kernel
theorem dX9_insert_25 : decode cX9_insert 25 = .ok (.iload 6, 2) := by decide +kernel
theorem dX9_insert_27 : decode cX9_insert 27 = .ok (.iload_n 2, 1) := by decide +kernel
theorem dX9_insert_28 : decode cX9_insert 28 = .ok (.if_icmp .le 8, 3) := by decide +kernel
theorem dX9_insert_31 : decode cX9_insert 31 = .ok (.iload 6, 2) := by decide +kernel
theorem dX9_insert_33 : decode cX9_insert 33 = .ok (.goto 4, 3) := by decide +kernel
theorem dX9_insert_36 : decode cX9_insert 36 = .ok (.iload_n 2, 1) := by decide +kernel
theorem dX9_insert_37 : decode cX9_insert 37 = .ok (.istore_n 2, 1) := by decide +kernel
theorem dX9_insert_38 : decode cX9_insert 38 = .ok (.aload_n 0, 1) := by decide +kernel
theorem dX9_insert_39 : decode cX9_insert 39 = .ok (.getfield 102, 3) := by decide +kernel
theorem dX9_insert_42 : decode cX9_insert 42 = .ok (.ifCond .eq 8, 3) := by decide +kernel
theorem dX9_insert_45 : decode cX9_insert 45 = .ok (.iload 5, 2) := by decide +kernel
theorem dX9_insert_47 : decode cX9_insert 47 = .ok (.goto 4, 3) := by decide +kernel
theorem dX9_insert_50 : decode cX9_insert 50 = .ok (.iload_n 3, 1) := by decide +kernel
theorem dX9_insert_51 : decode cX9_insert 51 = .ok (.istore_n 3, 1) := by decide +kernel
theorem dX9_insert_52 : decode cX9_insert 52 = .ok (.aload_n 0, 1) := by decide +kernel
theorem dX9_insert_53 : decode cX9_insert 53 = .ok (.getfield 102, 3) := by decide +kernel
theorem dX9_insert_56 : decode cX9_insert 56 = .ok (.ifCond .eq 10, 3) := by decide +kernel
theorem dX9_insert_59 : decode cX9_insert 59 = .ok (.aload_n 0, 1) := by decide +kernel
theorem dX9_insert_60 : decode cX9_insert 60 = .ok (.getfield 106, 3) := by decide +kernel
theorem dX9_insert_63 : decode cX9_insert 63 = .ok (.goto 5, 3) := by decide +kernel
theorem dX9_insert_66 : decode cX9_insert 66 = .ok (.iload 4, 2) := by decide +kernel
theorem dX9_insert_68 : decode cX9_insert 68 = .ok (.istore 4, 2) := by decide +kernel
theorem dX9_insert_70 : decode cX9_insert 70 = .ok (.iinc 5 1, 3) := by decide +kernel
theorem dX9_insert_73 : decode cX9_insert 73 = .ok (.goto (-63), 3) := by decide +kernel
theorem dX9_insert_76 : decode cX9_insert 76 = .ok (.aload_n 0, 1) := by decide +kernel
theorem dX9_insert_77 : decode cX9_insert 77 = .ok (.iconst 0, 1) := by decide +kernel
theorem dX9_insert_78 : decode cX9_insert 78 = .ok (.putfield 96, 3) := by decide +kernel
theorem dX9_insert_81 : decode cX9_insert 81 = .ok (.iload_n 1, 1) := by decide +kernel
theorem dX9_insert_82 : decode cX9_insert 82 = .ok (.iconst 0, 1) := by decide +kernel
theorem dX9_insert_83 : decode cX9_insert 83 = .ok (.aload_n 0, 1) := by decide +kernel
theorem dX9_insert_84 : decode cX9_insert 84 = .ok (.getfield 7, 3) := by decide +kernel
theorem dX9_insert_87 : decode cX9_insert 87 = .ok (.iconst 0, 1) := by decide +kernel
theorem dX9_insert_88 : decode cX9_insert 88 = .ok (.iaload, 1) := by decide +kernel
theorem dX9_insert_89 : decode cX9_insert 89 = .ok (.invokestatic 49, 3) := by decide +kernel
theorem dX9_insert_92 : decode cX9_insert 92 = .ok (.ifCond .ne 9, 3) := by decide +kernel
theorem dX9_insert_95 : decode cX9_insert 95 = .ok (.aload_n 0, 1) := by decide +kernel
theorem dX9_insert_96 : decode cX9_insert 96 = .ok (.iconst 1, 1) := by decide +kernel
theorem dX9_insert_97 : decode cX9_insert 97 = .ok (.invokevirtual 93, 3) := by decide +kernel
theorem dX9_insert_100 : decode cX9_insert 100 = .ok (.ireturn, 1) := by decide +kernel
theorem dX9_insert_101 : decode cX9_insert 101 = .ok (.iload_n 3, 1) := by decide +kernel
theorem dX9_insert_102 : decode cX9_insert 102 = .ok (.iconst (-1), 1) := by decide +kernel
theorem dX9_insert_103 : decode cX9_insert 103 = .ok (.if_icmp .ne 14, 3) := by decide +kernel
theorem dX9_insert_106 : decode cX9_insert 106 = .ok (.aload_n 0, 1) := by decide +kernel
theorem dX9_insert_107 : decode cX9_insert 107 = .ok (.iload_n 2, 1) := by decide +kernel
theorem dX9_insert_108 : decode cX9_insert 108 = .ok (.putfield 23, 3) := by decide +kernel
theorem dX9_insert_111 : decode cX9_insert 111 = .ok (.aload_n 0, 1) := by decide +kernel
theorem dX9_insert_112 : decode cX9_insert 112 = .ok (.iconst 2, 1) := by decide +kernel
theorem dX9_insert_113 : decode cX9_insert 113 = .ok (.invokevirtual 93, 3) := by decide +kernel
theorem dX9_insert_116 : decode cX9_insert 116 = .ok (.ireturn, 1) := by decide +kernel
theorem dX9_insert_117 : decode cX9_insert 117 = .ok (.iload_n 3, 1) := by decide +kernel
theorem dX9_insert_118 : decode cX9_insert 118 = .ok (.iload 4, 2) := by decide +kernel
theorem dX9_insert_120 : decode cX9_insert 120 = .ok (.invokestatic 124, 3) := by decide +kernel
theorem dX9_insert_123 : decode cX9_insert 123 = .ok (.ifCond .ne 9, 3) := by decide +kernel
theorem dX9_insert_126 : decode cX9_insert 126 = .ok (.aload_n 0, 1) := by decide +kernel
theorem dX9_insert_127 : decode cX9_insert 127 = .ok (.iconst 2, 1) := by decide +kernel
theorem dX9_insert_128 : decode cX9_insert 128 = .ok (.invokevirtual 93, 3) := by decide +kernel
theorem dX9_insert_131 : decode cX9_insert 131 = .ok (.ireturn, 1) := by decide +kernel
theorem dX9_insert_132 : decode cX9_insert 132 = .ok (.aload_n 0, 1) := by decide +kernel
theorem dX9_insert_133 : decode cX9_insert 133 = .ok (.getfield 7, 3) := by decide +kernel
theorem dX9_insert_136 : decode cX9_insert 136 = .ok (.iconst 0, 1) := by decide +kernel
theorem dX9_insert_137 : decode cX9_insert 137 = .ok (.iaload, 1) := by decide +kernel
theorem dX9_insert_138 : decode cX9_insert 138 = .ok (.bipush 40, 2) := by decide +kernel
theorem dX9_insert_140 : decode cX9_insert 140 = .ok (.if_icmp .eq 17, 3) := by decide +kernel
theorem dX9_insert_143 : decode cX9_insert 143 = .ok (.iload_n 3, 1) := by decide +kernel
theorem dX9_insert_144 : decode cX9_insert 144 = .ok (.iconst 2, 1) := by decide +kernel
theorem dX9_insert_145 : decode cX9_insert 145 = .ok (.if_icmp .ne 18, 3) := by decide +kernel
theorem dX9_insert_148 : decode cX9_insert 148 = .ok (.aload_n 0, 1) := by decide +kernel
theorem dX9_insert_149 : decode cX9_insert 149 = .ok (.iload 4, 2) := by decide +kernel
theorem dX9_insert_151 : decode cX9_insert 151 = .ok (.invokevirtual 128, 3) := by decide +kernel
theorem dX9_insert_154 : decode cX9_insert 154 = .ok (.ifCond .lt 9, 3) := by decide +kernel
theorem dX9_insert_157 : decode cX9_insert 157 = .ok (.aload_n 0, 1) := by decide +kernel
theorem dX9_insert_158 : decode cX9_insert 158 = .ok (.iconst 3, 1) := by decide +kernel
theorem dX9_insert_159 : decode cX9_insert 159 = .ok (.invokevirtual 93, 3) := by decide +kernel
theorem dX9_insert_162 : decode cX9_insert 162 = .ok (.ireturn, 1) := by decide +kernel
theorem dX9_insert_163 : decode cX9_insert 163 = .ok (.aload_n 0, 1) := by decide +kernel
theorem dX9_insert_164 : decode cX9_insert 164 = .ok (.invokevirtual 131, 3) := by decide +kernel
theorem dX9_insert_167 : decode cX9_insert 167 = .ok (.aload_n 0, 1) := by decide +kernel
theorem dX9_insert_168 : decode cX9_insert 168 = .ok (.iload_n 1, 1) := by decide +kernel
theorem dX9_insert_169 : decode cX9_insert 169 = .ok (.invokevirtual 134, 3) := by decide +kernel
theorem dX9_insert_172 : decode cX9_insert 172 = .ok (.aload_n 0, 1) := by decide +kernel
theorem dX9_insert_173 : decode cX9_insert 173 = .ok (.iload_n 1, 1) := by decide +kernel
theorem dX9_insert_174 : decode cX9_insert 174 = .ok (.iload_n 3, 1) := by decide +kernel
theorem dX9_insert_175 : decode cX9_insert 175 = .ok (.iload 4, 2) := by decide +kernel
theorem dX9_insert_177 : decode cX9_insert 177 = .ok (.iconst 0, 1) := by decide +kernel
theorem dX9_insert_178 : decode cX9_insert 178 = .ok (.invokevirtual 117, 3) := by decide +kernel
theorem dX9_insert_181 : decode cX9_insert 181 = .ok (.aload_n 0, 1) := by decide +kernel
theorem dX9_insert_182 : decode cX9_insert 182 = .ok (.iload_n 3, 1) := by decide +kernel
theorem dX9_insert_183 : decode cX9_insert 183 = .ok (.invokevirtual 90, 3) := by decide +kernel
theorem dX9_insert_186 : decode cX9_insert 186 = .ok (.ireturn, 1) := by decide +kernel
theorem dX9_errorPosition_0 : decode cX9_errorPosition 0 = .ok (.aload_n 0, 1) := by decide +kernel
theorem dX9_errorPosition_1 : decode cX9_errorPosition 1 = .ok (.getfield 23, 3) := by decide +kernel
theorem dX9_errorPosition_4 : decode cX9_errorPosition 4 = .ok (.iconst (-1), 1) := by decide +kernel
theorem dX9_errorPosition_5 : decode cX9_errorPosition 5 = .ok (.if_icmp .ne 11, 3) := by decide +kernel
theorem dX9_errorPosition_8 : decode cX9_errorPosition 8 = .ok (.aload_n 0, 1) := by decide +kernel
theorem dX9_errorPosition_9 : decode cX9_errorPosition 9 = .ok (.iconst 1, 1) := by decide +kernel
theorem dX9_errorPosition_10 : decode cX9_errorPosition 10 = .ok (.invokevirtual 93, 3) := by decide +kernel
theorem dX9_errorPosition_13 : decode cX9_errorPosition 13 = .ok (.goto 11, 3) := by decide +kernel
theorem dX9_errorPosition_16 : decode cX9_errorPosition 16 = .ok (.aload_n 0, 1) := by decide +kernel
theorem dX9_errorPosition_17 : decode cX9_errorPosition 17 = .ok (.aload_n 0, 1) := by decide +kernel
theorem dX9_errorPosition_18 : decode cX9_errorPosition 18 = .ok (.getfield 23, 3) := by decide +kernel
theorem dX9_errorPosition_21 : decode cX9_errorPosition 21 = .ok (.invokevirtual 90, 3) := by decide +kernel
theorem dX9_errorPosition_24 : decode cX9_errorPosition 24 = .ok (.ireturn, 1) := by decide +kernel
theorem dX9_remove_0 : decode cX9_remove 0 = .ok (.aload_n 0, 1) := by decide +kernel
theorem dX9_remove_1 : decode cX9_remove 1 = .ok (.iload_n 1, 1) := by decide +kernel
theorem dX9_remove_2 : decode cX9_remove 2 = .ok (.invokevirtual 137, 3) := by decide +kernel
theorem dX9_remove_5 : decode cX9_remove 5 = .ok (.ifCond .ne 9, 3) := by decide +kernel
theorem dX9_remove_8 : decode cX9_remove 8 = .ok (.aload_n 0, 1) := by decide +kernel
theorem dX9_remove_9 : decode cX9_remove 9 = .ok (.iconst 1, 1) := by decide +kernel
theorem dX9_remove_10 : decode cX9_remove 10 = .ok (.invokevirtual 93, 3) := by decide +kernel
theorem dX9_remove_13 : decode cX9_remove 13 = .ok (.ireturn, 1) := by decide +kernel
theorem dX9_remove_14 : decode cX9_remove 14 = .ok (.aload_n 0, 1) := by decide +kernel
theorem dX9_remove_15 : decode cX9_remove 15 = .ok (.invokevirtual 131, 3) := by decide +kernel
theorem dX9_remove_18 : decode cX9_remove 18 = .ok (.aload_n 0, 1) := by decide +kernel
theorem dX9_remove_19 : decode cX9_remove 19 = .ok (.iload_n 1, 1) := by decide +kernel
theorem dX9_remove_20 : decode cX9_remove 20 = .ok (.invokevirtual 140, 3) := by decide +kernel
theorem dX9_remove_23 : decode cX9_remove 23 = .ok (.aload_n 0, 1) := by decide +kernel
theorem dX9_remove_24 : decode cX9_remove 24 = .ok (.aload_n 0, 1) := by decide +kernel
theorem dX9_remove_25 : decode cX9_remove 25 = .ok (.getfield 7, 3) := by decide +kernel
theorem dX9_remove_28 : decode cX9_remove 28 = .ok (.iconst 0, 1) := by decide +kernel
theorem dX9_remove_29 : decode cX9_remove 29 = .ok (.iaload, 1) := by decide +kernel
theorem dX9_remove_30 : decode cX9_remove 30 = .ok (.invokevirtual 90, 3) := by decide +kernel
theorem dX9_remove_33 : decode cX9_remove 33 = .ok (.ireturn, 1) := by decide +kernel
theorem dX9_move_0 : decode cX9_move 0 = .ok (.aload_n 0, 1) := by decide +kernel
theorem dX9_move_1 : decode cX9_move 1 = .ok (.iload_n 1, 1) := by decide +kernel
theorem dX9_move_2 : decode cX9_move 2 = .ok (.invokevirtual 137, 3) := by decide +kernel
theorem dX9_move_5 : decode cX9_move 5 = .ok (.ifCond .eq 11, 3) := by decide +kernel
theorem dX9_move_8 : decode cX9_move 8 = .ok (.aload_n 0, 1) := by decide +kernel
theorem dX9_move_9 : decode cX9_move 9 = .ok (.iload_n 2, 1) := by decide +kernel
theorem dX9_move_10 : decode cX9_move 10 = .ok (.invokevirtual 137, 3) := by decide +kernel
theorem dX9_move_13 : decode cX9_move 13 = .ok (.ifCond .ne 9, 3) := by decide +kernel
theorem dX9_move_16 : decode cX9_move 16 = .ok (.aload_n 0, 1) := by decide +kernel
theorem dX9_move_17 : decode cX9_move 17 = .ok (.iconst 1, 1) := by decide +kernel
theorem dX9_move_18 : decode cX9_move 18 = .ok (.invokevirtual 93, 3) := by decide +kernel
theorem dX9_move_21 : decode cX9_move 21 = .ok (.ireturn, 1) := by decide +kernel
theorem dX9_move_22 : decode cX9_move 22 = .ok (.aload_n 0, 1) := by decide +kernel
theorem dX9_move_23 : decode cX9_move 23 = .ok (.invokevirtual 131, 3) := by decide +kernel
theorem dX9_move_26 : decode cX9_move 26 = .ok (.aload_n 0, 1) := by decide +kernel
theorem dX9_move_27 : decode cX9_move 27 = .ok (.iload_n 1, 1) := by decide +kernel
theorem dX9_move_28 : decode cX9_move 28 = .ok (.invokevirtual 53, 3) := by decide +kernel
theorem dX9_move_31 : decode cX9_move 31 = .ok (.istore_n 3, 1) := by decide +kernel
theorem dX9_move_32 : decode cX9_move 32 = .ok (.aload_n 0, 1) := by decide +kernel
theorem dX9_move_33 : decode cX9_move 33 = .ok (.iload_n 1, 1) := by decide +kernel
theorem dX9_move_34 : decode cX9_move 34 = .ok (.invokevirtual 63, 3) := by decide +kernel
theorem dX9_move_37 : decode cX9_move 37 = .ok (.istore 4, 2) := by decide +kernel
theorem dX9_move_39 : decode cX9_move 39 = .ok (.aload_n 0, 1) := by decide +kernel
theorem dX9_move_40 : decode cX9_move 40 = .ok (.iload_n 1, 1) := by decide +kernel
theorem dX9_move_41 : decode cX9_move 41 = .ok (.invokevirtual 83, 3) := by decide +kernel
theorem dX9_move_44 : decode cX9_move 44 = .ok (.istore 5, 2) := by decide +kernel
theorem dX9_move_46 : decode cX9_move 46 = .ok (.aload_n 0, 1) := by decide +kernel
theorem dX9_move_47 : decode cX9_move 47 = .ok (.iload_n 1, 1) := by decide +kernel
theorem dX9_move_48 : decode cX9_move 48 = .ok (.invokevirtual 140, 3) := by decide +kernel
theorem dX9_move_51 : decode cX9_move 51 = .ok (.aload_n 0, 1) := by decide +kernel
theorem dX9_move_52 : decode cX9_move 52 = .ok (.iload_n 2, 1) := by decide +kernel
theorem dX9_move_53 : decode cX9_move 53 = .ok (.invokevirtual 134, 3) := by decide +kernel
theorem dX9_move_56 : decode cX9_move 56 = .ok (.aload_n 0, 1) := by decide +kernel
theorem dX9_move_57 : decode cX9_move 57 = .ok (.iload_n 2, 1) := by decide +kernel
theorem dX9_move_58 : decode cX9_move 58 = .ok (.iload_n 3, 1) := by decide +kernel
theorem dX9_move_59 : decode cX9_move 59 = .ok (.iload 4, 2) := by decide +kernel
theorem dX9_move_61 : decode cX9_move 61 = .ok (.iload 5, 2) := by decide +kernel
theorem dX9_move_63 : decode cX9_move 63 = .ok (.invokevirtual 117, 3) := by decide +kernel
theorem dX9_move_66 : decode cX9_move 66 = .ok (.aload_n 0, 1) := by decide +kernel
theorem dX9_move_67 : decode cX9_move 67 = .ok (.iload_n 3, 1) := by decide +kernel
theorem dX9_move_68 : decode cX9_move 68 = .ok (.invokevirtual 90, 3) := by decide +kernel
theorem dX9_move_71 : decode cX9_move 71 = .ok (.ireturn, 1) := by decide +kernel
theorem dX9_item_0 : decode cX9_item 0 = .ok (.aload_n 0, 1) := by decide +kernel
theorem dX9_item_1 : decode cX9_item 1 = .ok (.iload_n 1, 1) := by decide +kernel
theorem dX9_item_2 : decode cX9_item 2 = .ok (.invokevirtual 137, 3) := by decide +kernel
theorem dX9_item_5 : decode cX9_item 5 = .ok (.ifCond .ne 9, 3) := by decide +kernel
theorem dX9_item_8 : decode cX9_item 8 = .ok (.aload_n 0, 1) := by decide +kernel
theorem dX9_item_9 : decode cX9_item 9 = .ok (.iconst 1, 1) := by decide +kernel
theorem dX9_item_10 : decode cX9_item 10 = .ok (.invokevirtual 93, 3) := by decide +kernel
theorem dX9_item_13 : decode cX9_item 13 = .ok (.ireturn, 1) := by decide +kernel
theorem dX9_item_14 : decode cX9_item 14 = .ok (.iload_n 2, 1) := by decide +kernel
theorem dX9_item_15 : decode cX9_item 15 = .ok (.iconst 0, 1) := by decide +kernel
theorem dX9_item_16 : decode cX9_item 16 = .ok (.iconst 4, 1) := by decide +kernel
theorem dX9_item_17 : decode cX9_item 17 = .ok (.invokestatic 49, 3) := by decide +kernel
theorem dX9_item_20 : decode cX9_item 20 = .ok (.ifCond .ne 9, 3) := by decide +kernel
theorem dX9_item_23 : decode cX9_item 23 = .ok (.aload_n 0, 1) := by decide +kernel
theorem dX9_item_24 : decode cX9_item 24 = .ok (.iconst 2, 1) := by decide +kernel
theorem dX9_item_25 : decode cX9_item 25 = .ok (.invokevirtual 93, 3) := by decide +kernel
theorem dX9_item_28 : decode cX9_item 28 = .ok (.ireturn, 1) := by decide +kernel
theorem dX9_item_29 : decode cX9_item 29 = .ok (.aload_n 0, 1) := by decide +kernel
theorem dX9_item_30 : decode cX9_item 30 = .ok (.invokevirtual 143, 3) := by decide +kernel
theorem dX9_item_33 : decode cX9_item 33 = .ok (.aload_n 0, 1) := by decide +kernel
theorem dX9_item_34 : decode cX9_item 34 = .ok (.iload_n 2, 1) := by decide +kernel
theorem dX9_item_35 : decode cX9_item 35 = .ok (.ifCond .ne 11, 3) := by decide +kernel
theorem dX9_item_38 : decode cX9_item 38 = .ok (.aload_n 0, 1) := by decide +kernel
theorem dX9_item_39 : decode cX9_item 39 = .ok (.iload_n 1, 1) := by decide +kernel
theorem dX9_item_40 : decode cX9_item 40 = .ok (.invokevirtual 53, 3) := by decide +kernel
theorem dX9_item_43 : decode cX9_item 43 = .ok (.goto 58, 3) := by decide +kernel
theorem dX9_item_46 : decode cX9_item 46 = .ok (.iload_n 2, 1) := by decide +kernel
theorem dX9_item_47 : decode cX9_item 47 = .ok (.iconst 1, 1) := by decide +kernel
theorem dX9_item_48 : decode cX9_item 48 = .ok (.if_icmp .ne 11, 3) := by decide +kernel
theorem dX9_item_51 : decode cX9_item 51 = .ok (.aload_n 0, 1) := by decide +kernel
theorem dX9_item_52 : decode cX9_item 52 = .ok (.iload_n 1, 1) := by decide +kernel
theorem dX9_item_53 : decode cX9_item 53 = .ok (.invokevirtual 63, 3) := by decide +kernel
theorem dX9_item_56 : decode cX9_item 56 = .ok (.goto 45, 3) := by decide +kernel
theorem dX9_item_59 : decode cX9_item 59 = .ok (.iload_n 2, 1) := by decide +kernel
theorem dX9_item_60 : decode cX9_item 60 = .ok (.iconst 2, 1) := by decide +kernel
theorem dX9_item_61 : decode cX9_item 61 = .ok (.if_icmp .ne 11, 3) := by decide +kernel
theorem dX9_item_64 : decode cX9_item 64 = .ok (.aload_n 0, 1) := by decide +kernel
theorem dX9_item_65 : decode cX9_item 65 = .ok (.iload_n 1, 1) := by decide +kernel
theorem dX9_item_66 : decode cX9_item 66 = .ok (.invokevirtual 83, 3) := by decide +kernel
theorem dX9_item_69 : decode cX9_item 69 = .ok (.goto 32, 3) := by decide +kernel
theorem dX9_item_72 : decode cX9_item 72 = .ok (.iload_n 2, 1) := by decide +kernel
theorem dX9_item_73 : decode cX9_item 73 = .ok (.iconst 3, 1) := by decide +kernel
theorem dX9_item_74 : decode cX9_item 74 = .ok (.if_icmp .ne 21, 3) := by decide +kernel
theorem dX9_item_77 : decode cX9_item 77 = .ok (.aload_n 0, 1) := by decide +kernel
theorem dX9_item_78 : decode cX9_item 78 = .ok (.getfield 27, 3) := by decide +kernel
theorem dX9_item_81 : decode cX9_item 81 = .ok (.iload_n 1, 1) := by decide +kernel
theorem dX9_item_82 : decode cX9_item 82 = .ok (.iconst 1, 1) := by decide +kernel
theorem dX9_item_83 : decode cX9_item 83 = .ok (.iadd, 1) := by decide +kernel
theorem dX9_item_84 : decode cX9_item 84 = .ok (.iaload, 1) := by decide +kernel
theorem dX9_item_85 : decode cX9_item 85 = .ok (.aload_n 0, 1) := by decide +kernel
theorem dX9_item_86 : decode cX9_item 86 = .ok (.getfield 27, 3) := by decide +kernel
theorem dX9_item_89 : decode cX9_item 89 = .ok (.iload_n 1, 1) := by decide +kernel
theorem dX9_item_90 : decode cX9_item 90 = .ok (.iaload, 1) := by decide +kernel
theorem dX9_item_91 : decode cX9_item 91 = .ok (.isub, 1) := by decide +kernel
theorem dX9_item_92 : decode cX9_item 92 = .ok (.goto 9, 3) := by decide +kernel
theorem dX9_item_95 : decode cX9_item 95 = .ok (.aload_n 0, 1) := by decide +kernel
theorem dX9_item_96 : decode cX9_item 96 = .ok (.getfield 27, 3) := by decide +kernel
theorem dX9_item_99 : decode cX9_item 99 = .ok (.iload_n 1, 1) := by decide +kernel
theorem dX9_item_100 : decode cX9_item 100 = .ok (.iaload, 1) := by decide +kernel
theorem dX9_item_101 : decode cX9_item 101 = .ok (.invokevirtual 90, 3) := by decide +kernel
theorem dX9_item_104 : decode cX9_item 104 = .ok (.ireturn, 1) := by decide +kernel
theorem dX9_nameCharacter_0 : decode cX9_nameCharacter 0 = .ok (.aload_n 0, 1) := by decide +kernel
theorem dX9_nameCharacter_1 : decode cX9_nameCharacter 1 = .ok (.aload_n 0, 1) := by decide +kernel
theorem dX9_nameCharacter_2 : decode cX9_nameCharacter 2 = .ok (.iload_n 1, 1) := by decide +kernel
theorem dX9_nameCharacter_3 : decode cX9_nameCharacter 3 = .ok (.invokevirtual 137, 3) := by decide +kernel
theorem dX9_nameCharacter_6 : decode cX9_nameCharacter 6 = .ok (.ifCond .ne 7, 3) := by decide +kernel
theorem dX9_nameCharacter_9 : decode cX9_nameCharacter 9 = .ok (.iconst 1, 1) := by decide +kernel
theorem dX9_nameCharacter_10 : decode cX9_nameCharacter 10 = .ok (.goto 4, 3) := by decide +kernel
theorem dX9_nameCharacter_13 : decode cX9_nameCharacter 13 = .ok (.iconst 0, 1) := by decide +kernel
theorem dX9_nameCharacter_14 : decode cX9_nameCharacter 14 = .ok (.putfield 46, 3) := by decide +kernel
theorem dX9_nameCharacter_17 : decode cX9_nameCharacter 17 = .ok (.aload_n 0, 1) := by decide +kernel
theorem dX9_nameCharacter_18 : decode cX9_nameCharacter 18 = .ok (.getfield 46, 3) := by decide +kernel
theorem dX9_nameCharacter_21 : decode cX9_nameCharacter 21 = .ok (.ifCond .eq 5, 3) := by decide +kernel
theorem dX9_nameCharacter_24 : decode cX9_nameCharacter 24 = .ok (.iconst 0, 1) := by decide +kernel
theorem dX9_nameCharacter_25 : decode cX9_nameCharacter 25 = .ok (.ireturn, 1) := by decide +kernel
theorem dX9_nameCharacter_26 : decode cX9_nameCharacter 26 = .ok (.aload_n 0, 1) := by decide +kernel
theorem dX9_nameCharacter_27 : decode cX9_nameCharacter 27 = .ok (.iload_n 2, 1) := by decide +kernel
theorem dX9_nameCharacter_28 : decode cX9_nameCharacter 28 = .ok (.iconst 0, 1) := by decide +kernel
theorem dX9_nameCharacter_29 : decode cX9_nameCharacter 29 = .ok (.aload_n 0, 1) := by decide +kernel
theorem dX9_nameCharacter_30 : decode cX9_nameCharacter 30 = .ok (.aload_n 0, 1) := by decide +kernel
theorem dX9_nameCharacter_31 : decode cX9_nameCharacter 31 = .ok (.iload_n 1, 1) := by decide +kernel
theorem dX9_nameCharacter_32 : decode cX9_nameCharacter 32 = .ok (.invokevirtual 53, 3) := by decide +kernel
theorem dX9_nameCharacter_35 : decode cX9_nameCharacter 35 = .ok (.invokevirtual 99, 3) := by decide +kernel
theorem dX9_nameCharacter_38 : decode cX9_nameCharacter 38 = .ok (.iconst 1, 1) := by decide +kernel
theorem dX9_nameCharacter_39 : decode cX9_nameCharacter 39 = .ok (.isub, 1) := by decide +kernel
