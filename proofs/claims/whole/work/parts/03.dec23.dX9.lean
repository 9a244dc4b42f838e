theorem dX9_nameCharacter_40 : decode cX9_nameCharacter 40 = .ok (.invokestatic 49, 3) := by decide +kernel
theorem dX9_nameCharacter_43 : decode cX9_nameCharacter 43 = .ok (.ifCond .eq 7, 3) := by decide +kernel
theorem dX9_nameCharacter_46 : decode cX9_nameCharacter 46 = .ok (.iconst 0, 1) := by decide +kernel
theorem dX9_nameCharacter_47 : decode cX9_nameCharacter 47 = .ok (.goto 4, 3) := by decide +kernel
theorem dX9_nameCharacter_50 : decode cX9_nameCharacter 50 = .ok (.iconst 2, 1) := by decide +kernel
theorem dX9_nameCharacter_51 : decode cX9_nameCharacter 51 = .ok (.putfield 46, 3) := by decide +kernel
theorem dX9_nameCharacter_54 : decode cX9_nameCharacter 54 = .ok (.aload_n 0, 1) := by decide +kernel
theorem dX9_nameCharacter_55 : decode cX9_nameCharacter 55 = .ok (.getfield 46, 3) := by decide +kernel
theorem dX9_nameCharacter_58 : decode cX9_nameCharacter 58 = .ok (.ifCond .eq 7, 3) := by decide +kernel
theorem dX9_nameCharacter_61 : decode cX9_nameCharacter 61 = .ok (.iconst 0, 1) := by decide +kernel
theorem dX9_nameCharacter_62 : decode cX9_nameCharacter 62 = .ok (.goto 19, 3) := by decide +kernel
theorem dX9_nameCharacter_65 : decode cX9_nameCharacter 65 = .ok (.aload_n 0, 1) := by decide +kernel
theorem dX9_nameCharacter_66 : decode cX9_nameCharacter 66 = .ok (.getfield 33, 3) := by decide +kernel
theorem dX9_nameCharacter_69 : decode cX9_nameCharacter 69 = .ok (.bipush 6, 2) := by decide +kernel
theorem dX9_nameCharacter_71 : decode cX9_nameCharacter 71 = .ok (.aload_n 0, 1) := by decide +kernel
theorem dX9_nameCharacter_72 : decode cX9_nameCharacter 72 = .ok (.iload_n 1, 1) := by decide +kernel
theorem dX9_nameCharacter_73 : decode cX9_nameCharacter 73 = .ok (.invokevirtual 53, 3) := by decide +kernel
theorem dX9_nameCharacter_76 : decode cX9_nameCharacter 76 = .ok (.imul, 1) := by decide +kernel
theorem dX9_nameCharacter_77 : decode cX9_nameCharacter 77 = .ok (.iload_n 2, 1) := by decide +kernel
theorem dX9_nameCharacter_78 : decode cX9_nameCharacter 78 = .ok (.iadd, 1) := by decide +kernel
theorem dX9_nameCharacter_79 : decode cX9_nameCharacter 79 = .ok (.iaload, 1) := by decide +kernel
theorem dX9_nameCharacter_80 : decode cX9_nameCharacter 80 = .ok (.i2c, 1) := by decide +kernel
theorem dX9_nameCharacter_81 : decode cX9_nameCharacter 81 = .ok (.ireturn, 1) := by decide +kernel
theorem dX9_setForm_0 : decode cX9_setForm 0 = .ok (.aload_n 0, 1) := by decide +kernel
theorem dX9_setForm_1 : decode cX9_setForm 1 = .ok (.iload_n 1, 1) := by decide +kernel
theorem dX9_setForm_2 : decode cX9_setForm 2 = .ok (.invokevirtual 137, 3) := by decide +kernel
theorem dX9_setForm_5 : decode cX9_setForm 5 = .ok (.ifCond .ne 9, 3) := by decide +kernel
theorem dX9_setForm_8 : decode cX9_setForm 8 = .ok (.aload_n 0, 1) := by decide +kernel
theorem dX9_setForm_9 : decode cX9_setForm 9 = .ok (.iconst 1, 1) := by decide +kernel
theorem dX9_setForm_10 : decode cX9_setForm 10 = .ok (.invokevirtual 93, 3) := by decide +kernel
theorem dX9_setForm_13 : decode cX9_setForm 13 = .ok (.ireturn, 1) := by decide +kernel
theorem dX9_setForm_14 : decode cX9_setForm 14 = .ok (.aload_n 0, 1) := by decide +kernel
theorem dX9_setForm_15 : decode cX9_setForm 15 = .ok (.iload_n 1, 1) := by decide +kernel
theorem dX9_setForm_16 : decode cX9_setForm 16 = .ok (.invokevirtual 146, 3) := by decide +kernel
theorem dX9_setForm_19 : decode cX9_setForm 19 = .ok (.ifCond .eq 12, 3) := by decide +kernel
theorem dX9_setForm_22 : decode cX9_setForm 22 = .ok (.iload_n 2, 1) := by decide +kernel
theorem dX9_setForm_23 : decode cX9_setForm 23 = .ok (.iconst 0, 1) := by decide +kernel
theorem dX9_setForm_24 : decode cX9_setForm 24 = .ok (.iconst 2, 1) := by decide +kernel
theorem dX9_setForm_25 : decode cX9_setForm 25 = .ok (.invokestatic 49, 3) := by decide +kernel
theorem dX9_setForm_28 : decode cX9_setForm 28 = .ok (.ifCond .ne 9, 3) := by decide +kernel
theorem dX9_setForm_31 : decode cX9_setForm 31 = .ok (.aload_n 0, 1) := by decide +kernel
theorem dX9_setForm_32 : decode cX9_setForm 32 = .ok (.iconst 2, 1) := by decide +kernel
theorem dX9_setForm_33 : decode cX9_setForm 33 = .ok (.invokevirtual 93, 3) := by decide +kernel
theorem dX9_setForm_36 : decode cX9_setForm 36 = .ok (.ireturn, 1) := by decide +kernel
theorem dX9_setForm_37 : decode cX9_setForm 37 = .ok (.aload_n 0, 1) := by decide +kernel
theorem dX9_setForm_38 : decode cX9_setForm 38 = .ok (.invokevirtual 131, 3) := by decide +kernel
theorem dX9_setForm_41 : decode cX9_setForm 41 = .ok (.aload_n 0, 1) := by decide +kernel
theorem dX9_setForm_42 : decode cX9_setForm 42 = .ok (.iload_n 1, 1) := by decide +kernel
theorem dX9_setForm_43 : decode cX9_setForm 43 = .ok (.invokevirtual 83, 3) := by decide +kernel
theorem dX9_setForm_46 : decode cX9_setForm 46 = .ok (.istore_n 3, 1) := by decide +kernel
theorem dX9_setForm_47 : decode cX9_setForm 47 = .ok (.aload_n 0, 1) := by decide +kernel
theorem dX9_setForm_48 : decode cX9_setForm 48 = .ok (.iload_n 1, 1) := by decide +kernel
theorem dX9_setForm_49 : decode cX9_setForm 49 = .ok (.iload_n 2, 1) := by decide +kernel
theorem dX9_setForm_50 : decode cX9_setForm 50 = .ok (.invokevirtual 113, 3) := by decide +kernel
theorem dX9_setForm_53 : decode cX9_setForm 53 = .ok (.aload_n 0, 1) := by decide +kernel
theorem dX9_setForm_54 : decode cX9_setForm 54 = .ok (.iload_n 3, 1) := by decide +kernel
theorem dX9_setForm_55 : decode cX9_setForm 55 = .ok (.invokevirtual 90, 3) := by decide +kernel
theorem dX9_setForm_58 : decode cX9_setForm 58 = .ok (.ireturn, 1) := by decide +kernel
theorem dX9_totalSize_0 : decode cX9_totalSize 0 = .ok (.aload_n 0, 1) := by decide +kernel
theorem dX9_totalSize_1 : decode cX9_totalSize 1 = .ok (.invokevirtual 143, 3) := by decide +kernel
theorem dX9_totalSize_4 : decode cX9_totalSize 4 = .ok (.aload_n 0, 1) := by decide +kernel
theorem dX9_totalSize_5 : decode cX9_totalSize 5 = .ok (.aload_n 0, 1) := by decide +kernel
theorem dX9_totalSize_6 : decode cX9_totalSize 6 = .ok (.invokevirtual 149, 3) := by decide +kernel
theorem dX9_totalSize_9 : decode cX9_totalSize 9 = .ok (.invokevirtual 90, 3) := by decide +kernel
theorem dX9_totalSize_12 : decode cX9_totalSize 12 = .ok (.ireturn, 1) := by decide +kernel
theorem dX9_padding_0 : decode cX9_padding 0 = .ok (.aload_n 0, 1) := by decide +kernel
theorem dX9_padding_1 : decode cX9_padding 1 = .ok (.invokevirtual 143, 3) := by decide +kernel
theorem dX9_padding_4 : decode cX9_padding 4 = .ok (.iconst 0, 1) := by decide +kernel
theorem dX9_padding_5 : decode cX9_padding 5 = .ok (.istore_n 1, 1) := by decide +kernel
theorem dX9_padding_6 : decode cX9_padding 6 = .ok (.iconst 0, 1) := by decide +kernel
theorem dX9_padding_7 : decode cX9_padding 7 = .ok (.istore_n 2, 1) := by decide +kernel
theorem dX9_padding_8 : decode cX9_padding 8 = .ok (.iload_n 2, 1) := by decide +kernel
theorem dX9_padding_9 : decode cX9_padding 9 = .ok (.aload_n 0, 1) := by decide +kernel
theorem dX9_padding_10 : decode cX9_padding 10 = .ok (.getfield 7, 3) := by decide +kernel
theorem dX9_padding_13 : decode cX9_padding 13 = .ok (.iconst 0, 1) := by decide +kernel
theorem dX9_padding_14 : decode cX9_padding 14 = .ok (.iaload, 1) := by decide +kernel
theorem dX9_padding_15 : decode cX9_padding 15 = .ok (.if_icmp .gt 82, 3) := by decide +kernel
theorem dX9_padding_18 : decode cX9_padding 18 = .ok (.iload_n 2, 1) := by decide +kernel
theorem dX9_padding_19 : decode cX9_padding 19 = .ok (.aload_n 0, 1) := by decide +kernel
theorem dX9_padding_20 : decode cX9_padding 20 = .ok (.getfield 7, 3) := by decide +kernel
theorem dX9_padding_23 : decode cX9_padding 23 = .ok (.iconst 0, 1) := by decide +kernel
theorem dX9_padding_24 : decode cX9_padding 24 = .ok (.iaload, 1) := by decide +kernel
theorem dX9_padding_25 : decode cX9_padding 25 = .ok (.if_icmp .eq 13, 3) := by decide +kernel
theorem dX9_padding_28 : decode cX9_padding 28 = .ok (.aload_n 0, 1) := by decide +kernel
theorem dX9_padding_29 : decode cX9_padding 29 = .ok (.iload_n 2, 1) := by decide +kernel
theorem dX9_padding_30 : decode cX9_padding 30 = .ok (.invokevirtual 53, 3) := by decide +kernel
theorem dX9_padding_33 : decode cX9_padding 33 = .ok (.bipush 7, 2) := by decide +kernel
theorem dX9_padding_35 : decode cX9_padding 35 = .ok (.if_icmp .ne 29, 3) := by decide +kernel
theorem dX9_padding_38 : decode cX9_padding 38 = .ok (.aload_n 0, 1) := by decide +kernel
theorem dX9_padding_39 : decode cX9_padding 39 = .ok (.iload_n 2, 1) := by decide +kernel
theorem dX9_padding_40 : decode cX9_padding 40 = .ok (.aload_n 0, 1) := by decide +kernel
theorem dX9_padding_41 : decode cX9_padding 41 = .ok (.getfield 27, 3) := by decide +kernel
theorem dX9_padding_44 : decode cX9_padding 44 = .ok (.iload_n 2, 1) := by decide +kernel
theorem dX9_padding_45 : decode cX9_padding 45 = .ok (.iaload, 1) := by decide +kernel
theorem dX9_padding_46 : decode cX9_padding 46 = .ok (.invokevirtual 80, 3) := by decide +kernel
theorem dX9_padding_49 : decode cX9_padding 49 = .ok (.istore_n 3, 1) := by decide +kernel
theorem dX9_padding_50 : decode cX9_padding 50 = .ok (.iload_n 1, 1) := by decide +kernel
theorem dX9_padding_51 : decode cX9_padding 51 = .ok (.iload_n 3, 1) := by decide +kernel
theorem dX9_padding_52 : decode cX9_padding 52 = .ok (.iconst 4, 1) := by decide +kernel
theorem dX9_padding_53 : decode cX9_padding 53 = .ok (.aload_n 0, 1) := by decide +kernel
theorem dX9_padding_54 : decode cX9_padding 54 = .ok (.getfield 60, 3) := by decide +kernel
theorem dX9_padding_57 : decode cX9_padding 57 = .ok (.imul, 1) := by decide +kernel
theorem dX9_padding_58 : decode cX9_padding 58 = .ok (.isub, 1) := by decide +kernel
theorem dX9_padding_59 : decode cX9_padding 59 = .ok (.iadd, 1) := by decide +kernel
theorem dX9_padding_60 : decode cX9_padding 60 = .ok (.istore_n 1, 1) := by decide +kernel
theorem dX9_padding_61 : decode cX9_padding 61 = .ok (.goto 30, 3) := by decide +kernel
theorem dX9_padding_64 : decode cX9_padding 64 = .ok (.aload_n 0, 1) := by decide +kernel
theorem dX9_padding_65 : decode cX9_padding 65 = .ok (.iload_n 2, 1) := by decide +kernel
theorem dX9_padding_66 : decode cX9_padding 66 = .ok (.invokevirtual 53, 3) := by decide +kernel
theorem dX9_padding_69 : decode cX9_padding 69 = .ok (.iconst 3, 1) := by decide +kernel
theorem dX9_padding_70 : decode cX9_padding 70 = .ok (.if_icmp .ne 21, 3) := by decide +kernel
theorem dX9_padding_73 : decode cX9_padding 73 = .ok (.iload_n 1, 1) := by decide +kernel
theorem dX9_padding_74 : decode cX9_padding 74 = .ok (.aload_n 0, 1) := by decide +kernel
theorem dX9_padding_75 : decode cX9_padding 75 = .ok (.getfield 27, 3) := by decide +kernel
theorem dX9_padding_78 : decode cX9_padding 78 = .ok (.iload_n 2, 1) := by decide +kernel
theorem dX9_padding_79 : decode cX9_padding 79 = .ok (.iconst 1, 1) := by decide +kernel
theorem dX9_padding_80 : decode cX9_padding 80 = .ok (.iadd, 1) := by decide +kernel
theorem dX9_padding_81 : decode cX9_padding 81 = .ok (.iaload, 1) := by decide +kernel
theorem dX9_padding_82 : decode cX9_padding 82 = .ok (.aload_n 0, 1) := by decide +kernel
theorem dX9_padding_83 : decode cX9_padding 83 = .ok (.getfield 27, 3) := by decide +kernel
theorem dX9_padding_86 : decode cX9_padding 86 = .ok (.iload_n 2, 1) := by decide +kernel
theorem dX9_padding_87 : decode cX9_padding 87 = .ok (.iaload, 1) := by decide +kernel
theorem dX9_padding_88 : decode cX9_padding 88 = .ok (.isub, 1) := by decide +kernel
theorem dX9_padding_89 : decode cX9_padding 89 = .ok (.iadd, 1) := by decide +kernel
theorem dX9_padding_90 : decode cX9_padding 90 = .ok (.istore_n 1, 1) := by decide +kernel
theorem dX9_padding_91 : decode cX9_padding 91 = .ok (.iinc 2 1, 3) := by decide +kernel
theorem dX9_padding_94 : decode cX9_padding 94 = .ok (.goto (-86), 3) := by decide +kernel
theorem dX9_padding_97 : decode cX9_padding 97 = .ok (.aload_n 0, 1) := by decide +kernel
theorem dX9_padding_98 : decode cX9_padding 98 = .ok (.iload_n 1, 1) := by decide +kernel
theorem dX9_padding_99 : decode cX9_padding 99 = .ok (.invokevirtual 90, 3) := by decide +kernel
theorem dX9_padding_102 : decode cX9_padding 102 = .ok (.ireturn, 1) := by decide +kernel
theorem dX9_labelAddress_0 : decode cX9_labelAddress 0 = .ok (.iload_n 1, 1) := by decide +kernel
theorem dX9_labelAddress_1 : decode cX9_labelAddress 1 = .ok (.iconst 0, 1) := by decide +kernel
theorem dX9_labelAddress_2 : decode cX9_labelAddress 2 = .ok (.bipush 9, 2) := by decide +kernel
theorem dX9_labelAddress_4 : decode cX9_labelAddress 4 = .ok (.invokestatic 49, 3) := by decide +kernel
theorem dX9_labelAddress_7 : decode cX9_labelAddress 7 = .ok (.ifCond .ne 9, 3) := by decide +kernel
theorem dX9_labelAddress_10 : decode cX9_labelAddress 10 = .ok (.aload_n 0, 1) := by decide +kernel
theorem dX9_labelAddress_11 : decode cX9_labelAddress 11 = .ok (.iconst 1, 1) := by decide +kernel
theorem dX9_labelAddress_12 : decode cX9_labelAddress 12 = .ok (.invokevirtual 93, 3) := by decide +kernel
theorem dX9_labelAddress_15 : decode cX9_labelAddress 15 = .ok (.ireturn, 1) := by decide +kernel
theorem dX9_labelAddress_16 : decode cX9_labelAddress 16 = .ok (.aload_n 0, 1) := by decide +kernel
theorem dX9_labelAddress_17 : decode cX9_labelAddress 17 = .ok (.iload_n 1, 1) := by decide +kernel
theorem dX9_labelAddress_18 : decode cX9_labelAddress 18 = .ok (.invokevirtual 128, 3) := by decide +kernel
theorem dX9_labelAddress_21 : decode cX9_labelAddress 21 = .ok (.istore_n 2, 1) := by decide +kernel
theorem dX9_labelAddress_22 : decode cX9_labelAddress 22 = .ok (.iload_n 2, 1) := by decide +kernel
theorem dX9_labelAddress_23 : decode cX9_labelAddress 23 = .ok (.iconst (-1), 1) := by decide +kernel
theorem dX9_labelAddress_24 : decode cX9_labelAddress 24 = .ok (.if_icmp .ne 9, 3) := by decide +kernel
theorem dX9_labelAddress_27 : decode cX9_labelAddress 27 = .ok (.aload_n 0, 1) := by decide +kernel
theorem dX9_labelAddress_28 : decode cX9_labelAddress 28 = .ok (.iconst 2, 1) := by decide +kernel
theorem dX9_labelAddress_29 : decode cX9_labelAddress 29 = .ok (.invokevirtual 93, 3) := by decide +kernel
theorem dX9_labelAddress_32 : decode cX9_labelAddress 32 = .ok (.ireturn, 1) := by decide +kernel
theorem dX9_labelAddress_33 : decode cX9_labelAddress 33 = .ok (.aload_n 0, 1) := by decide +kernel
theorem dX9_labelAddress_34 : decode cX9_labelAddress 34 = .ok (.invokevirtual 143, 3) := by decide +kernel
theorem dX9_labelAddress_37 : decode cX9_labelAddress 37 = .ok (.aload_n 0, 1) := by decide +kernel
theorem dX9_labelAddress_38 : decode cX9_labelAddress 38 = .ok (.aload_n 0, 1) := by decide +kernel
theorem dX9_labelAddress_39 : decode cX9_labelAddress 39 = .ok (.getfield 27, 3) := by decide +kernel
theorem dX9_labelAddress_42 : decode cX9_labelAddress 42 = .ok (.iload_n 2, 1) := by decide +kernel
theorem dX9_labelAddress_43 : decode cX9_labelAddress 43 = .ok (.iaload, 1) := by decide +kernel
theorem dX9_labelAddress_44 : decode cX9_labelAddress 44 = .ok (.invokevirtual 90, 3) := by decide +kernel
theorem dX9_labelAddress_47 : decode cX9_labelAddress 47 = .ok (.ireturn, 1) := by decide +kernel
theorem dX9_itemAt_0 : decode cX9_itemAt 0 = .ok (.aload_n 0, 1) := by decide +kernel
theorem dX9_itemAt_1 : decode cX9_itemAt 1 = .ok (.invokevirtual 143, 3) := by decide +kernel
theorem dX9_itemAt_4 : decode cX9_itemAt 4 = .ok (.iload_n 1, 1) := by decide +kernel
theorem dX9_itemAt_5 : decode cX9_itemAt 5 = .ok (.iconst 0, 1) := by decide +kernel
theorem dX9_itemAt_6 : decode cX9_itemAt 6 = .ok (.aload_n 0, 1) := by decide +kernel
theorem dX9_itemAt_7 : decode cX9_itemAt 7 = .ok (.getfield 27, 3) := by decide +kernel
theorem dX9_itemAt_10 : decode cX9_itemAt 10 = .ok (.aload_n 0, 1) := by decide +kernel
theorem dX9_itemAt_11 : decode cX9_itemAt 11 = .ok (.getfield 7, 3) := by decide +kernel
theorem dX9_itemAt_14 : decode cX9_itemAt 14 = .ok (.iconst 0, 1) := by decide +kernel
theorem dX9_itemAt_15 : decode cX9_itemAt 15 = .ok (.iaload, 1) := by decide +kernel
theorem dX9_itemAt_16 : decode cX9_itemAt 16 = .ok (.iaload, 1) := by decide +kernel
theorem dX9_itemAt_17 : decode cX9_itemAt 17 = .ok (.iconst 1, 1) := by decide +kernel
theorem dX9_itemAt_18 : decode cX9_itemAt 18 = .ok (.isub, 1) := by decide +kernel
theorem dX9_itemAt_19 : decode cX9_itemAt 19 = .ok (.invokestatic 49, 3) := by decide +kernel
theorem dX9_itemAt_22 : decode cX9_itemAt 22 = .ok (.ifCond .ne 9, 3) := by decide +kernel
theorem dX9_itemAt_25 : decode cX9_itemAt 25 = .ok (.aload_n 0, 1) := by decide +kernel
theorem dX9_itemAt_26 : decode cX9_itemAt 26 = .ok (.iconst 1, 1) := by decide +kernel
theorem dX9_itemAt_27 : decode cX9_itemAt 27 = .ok (.invokevirtual 93, 3) := by decide +kernel
theorem dX9_itemAt_30 : decode cX9_itemAt 30 = .ok (.ireturn, 1) := by decide +kernel
theorem dX9_itemAt_31 : decode cX9_itemAt 31 = .ok (.aload_n 0, 1) := by decide +kernel
theorem dX9_itemAt_32 : decode cX9_itemAt 32 = .ok (.getfield 7, 3) := by decide +kernel
theorem dX9_itemAt_35 : decode cX9_itemAt 35 = .ok (.iconst 0, 1) := by decide +kernel
theorem dX9_itemAt_36 : decode cX9_itemAt 36 = .ok (.iaload, 1) := by decide +kernel
theorem dX9_itemAt_37 : decode cX9_itemAt 37 = .ok (.iconst 1, 1) := by decide +kernel
theorem dX9_itemAt_38 : decode cX9_itemAt 38 = .ok (.isub, 1) := by decide +kernel
theorem dX9_itemAt_39 : decode cX9_itemAt 39 = .ok (.istore_n 2, 1) := by decide +kernel
theorem dX9_itemAt_40 : decode cX9_itemAt 40 = .ok (.aload_n 0, 1) := by decide +kernel
theorem dX9_itemAt_41 : decode cX9_itemAt 41 = .ok (.getfield 27, 3) := by decide +kernel
theorem dX9_itemAt_44 : decode cX9_itemAt 44 = .ok (.iload_n 2, 1) := by decide +kernel
theorem dX9_itemAt_45 : decode cX9_itemAt 45 = .ok (.iaload, 1) := by decide +kernel
theorem dX9_itemAt_46 : decode cX9_itemAt 46 = .ok (.iload_n 1, 1) := by decide +kernel
theorem dX9_itemAt_47 : decode cX9_itemAt 47 = .ok (.if_icmp .le 9, 3) := by decide +kernel
theorem dX9_itemAt_50 : decode cX9_itemAt 50 = .ok (.iinc 2 (-1), 3) := by decide +kernel
theorem dX9_itemAt_53 : decode cX9_itemAt 53 = .ok (.goto (-13), 3) := by decide +kernel
theorem dX9_itemAt_56 : decode cX9_itemAt 56 = .ok (.aload_n 0, 1) := by decide +kernel
theorem dX9_itemAt_57 : decode cX9_itemAt 57 = .ok (.iload_n 2, 1) := by decide +kernel
theorem dX9_itemAt_58 : decode cX9_itemAt 58 = .ok (.invokevirtual 90, 3) := by decide +kernel
theorem dX9_itemAt_61 : decode cX9_itemAt 61 = .ok (.ireturn, 1) := by decide +kernel
theorem dX9_addressIf_0 : decode cX9_addressIf 0 = .ok (.aload_n 0, 1) := by decide +kernel
theorem dX9_addressIf_1 : decode cX9_addressIf 1 = .ok (.iload_n 1, 1) := by decide +kernel
theorem dX9_addressIf_2 : decode cX9_addressIf 2 = .ok (.invokevirtual 137, 3) := by decide +kernel
theorem dX9_addressIf_5 : decode cX9_addressIf 5 = .ok (.ifCond .ne 9, 3) := by decide +kernel
theorem dX9_addressIf_8 : decode cX9_addressIf 8 = .ok (.aload_n 0, 1) := by decide +kernel
theorem dX9_addressIf_9 : decode cX9_addressIf 9 = .ok (.iconst 1, 1) := by decide +kernel
theorem dX9_addressIf_10 : decode cX9_addressIf 10 = .ok (.invokevirtual 93, 3) := by decide +kernel
theorem dX9_addressIf_13 : decode cX9_addressIf 13 = .ok (.ireturn, 1) := by decide +kernel
theorem dX9_addressIf_14 : decode cX9_addressIf 14 = .ok (.iload_n 2, 1) := by decide +kernel
theorem dX9_addressIf_15 : decode cX9_addressIf 15 = .ok (.iconst 0, 1) := by decide +kernel
theorem dX9_addressIf_16 : decode cX9_addressIf 16 = .ok (.iconst 2, 1) := by decide +kernel
theorem dX9_addressIf_17 : decode cX9_addressIf 17 = .ok (.invokestatic 49, 3) := by decide +kernel
theorem dX9_addressIf_20 : decode cX9_addressIf 20 = .ok (.ifCond .ne 9, 3) := by decide +kernel
theorem dX9_addressIf_23 : decode cX9_addressIf 23 = .ok (.aload_n 0, 1) := by decide +kernel
theorem dX9_addressIf_24 : decode cX9_addressIf 24 = .ok (.iconst 2, 1) := by decide +kernel
theorem dX9_addressIf_25 : decode cX9_addressIf 25 = .ok (.invokevirtual 93, 3) := by decide +kernel
theorem dX9_addressIf_28 : decode cX9_addressIf 28 = .ok (.ireturn, 1) := by decide +kernel
theorem dX9_addressIf_29 : decode cX9_addressIf 29 = .ok (.iconst 0, 1) := by decide +kernel
theorem dX9_addressIf_30 : decode cX9_addressIf 30 = .ok (.istore_n 3, 1) := by decide +kernel
theorem dX9_addressIf_31 : decode cX9_addressIf 31 = .ok (.iconst 0, 1) := by decide +kernel
theorem dX9_addressIf_32 : decode cX9_addressIf 32 = .ok (.istore 4, 2) := by decide +kernel
theorem dX9_addressIf_34 : decode cX9_addressIf 34 = .ok (.iload 4, 2) := by decide +kernel
theorem dX9_addressIf_36 : decode cX9_addressIf 36 = .ok (.iload_n 1, 1) := by decide +kernel
theorem dX9_addressIf_37 : decode cX9_addressIf 37 = .ok (.if_icmp .ge 20, 3) := by decide +kernel
theorem dX9_addressIf_40 : decode cX9_addressIf 40 = .ok (.iload_n 3, 1) := by decide +kernel
theorem dX9_addressIf_41 : decode cX9_addressIf 41 = .ok (.aload_n 0, 1) := by decide +kernel
theorem dX9_addressIf_42 : decode cX9_addressIf 42 = .ok (.iload 4, 2) := by decide +kernel
theorem dX9_addressIf_44 : decode cX9_addressIf 44 = .ok (.iload_n 3, 1) := by decide +kernel
theorem dX9_addressIf_45 : decode cX9_addressIf 45 = .ok (.iload_n 2, 1) := by decide +kernel
theorem dX9_addressIf_46 : decode cX9_addressIf 46 = .ok (.invokevirtual 86, 3) := by decide +kernel
theorem dX9_addressIf_49 : decode cX9_addressIf 49 = .ok (.iadd, 1) := by decide +kernel
theorem dX9_addressIf_50 : decode cX9_addressIf 50 = .ok (.istore_n 3, 1) := by decide +kernel
theorem dX9_addressIf_51 : decode cX9_addressIf 51 = .ok (.iinc 4 1, 3) := by decide +kernel
theorem dX9_addressIf_54 : decode cX9_addressIf 54 = .ok (.goto (-20), 3) := by decide +kernel
theorem dX9_addressIf_57 : decode cX9_addressIf 57 = .ok (.aload_n 0, 1) := by decide +kernel
theorem dX9_addressIf_58 : decode cX9_addressIf 58 = .ok (.iload_n 3, 1) := by decide +kernel
theorem dX9_addressIf_59 : decode cX9_addressIf 59 = .ok (.invokevirtual 90, 3) := by decide +kernel
theorem dX9_addressIf_62 : decode cX9_addressIf 62 = .ok (.ireturn, 1) := by decide +kernel
theorem dX9_goesOn_0 : decode cX9_goesOn 0 = .ok (.iconst 0, 1) := by decide +kernel
theorem dX9_goesOn_1 : decode cX9_goesOn 1 = .ok (.istore_n 2, 1) := by decide +kernel
theorem dX9_goesOn_2 : decode cX9_goesOn 2 = .ok (.iload_n 2, 1) := by decide +kernel
theorem dX9_goesOn_3 : decode cX9_goesOn 3 = .ok (.sipush 3000, 3) := by decide +kernel
theorem dX9_goesOn_6 : decode cX9_goesOn 6 = .ok (.if_icmp .ge 16, 3) := by decide +kernel
theorem dX9_goesOn_9 : decode cX9_goesOn 9 = .ok (.aload_n 0, 1) := by decide +kernel
theorem dX9_goesOn_10 : decode cX9_goesOn 10 = .ok (.getfield 40, 3) := by decide +kernel
theorem dX9_goesOn_13 : decode cX9_goesOn 13 = .ok (.iload_n 2, 1) := by decide +kernel
theorem dX9_goesOn_14 : decode cX9_goesOn 14 = .ok (.iconst 0, 1) := by decide +kernel
theorem dX9_goesOn_15 : decode cX9_goesOn 15 = .ok (.bastore, 1) := by decide +kernel
theorem dX9_goesOn_16 : decode cX9_goesOn 16 = .ok (.iinc 2 1, 3) := by decide +kernel
theorem dX9_goesOn_19 : decode cX9_goesOn 19 = .ok (.goto (-17), 3) := by decide +kernel
theorem dX9_goesOn_22 : decode cX9_goesOn 22 = .ok (.iconst 0, 1) := by decide +kernel
theorem dX9_goesOn_23 : decode cX9_goesOn 23 = .ok (.istore_n 2, 1) := by decide +kernel
theorem dX9_goesOn_24 : decode cX9_goesOn 24 = .ok (.iload_n 2, 1) := by decide +kernel
theorem dX9_goesOn_25 : decode cX9_goesOn 25 = .ok (.sipush 2900, 3) := by decide +kernel
theorem dX9_goesOn_28 : decode cX9_goesOn 28 = .ok (.if_icmp .ge 46, 3) := by decide +kernel
theorem dX9_goesOn_31 : decode cX9_goesOn 31 = .ok (.iconst 0, 1) := by decide +kernel
theorem dX9_goesOn_32 : decode cX9_goesOn 32 = .ok (.istore_n 3, 1) := by decide +kernel
theorem dX9_goesOn_33 : decode cX9_goesOn 33 = .ok (.iload_n 3, 1) := by decide +kernel
theorem dX9_goesOn_34 : decode cX9_goesOn 34 = .ok (.iconst 3, 1) := by decide +kernel
theorem dX9_goesOn_35 : decode cX9_goesOn 35 = .ok (.if_icmp .ge 33, 3) := by decide +kernel
theorem dX9_goesOn_38 : decode cX9_goesOn 38 = .ok (.aload_n 0, 1) := by decide +kernel
theorem dX9_goesOn_39 : decode cX9_goesOn 39 = .ok (.getfield 36, 3) := by decide +kernel
theorem dX9_goesOn_42 : decode cX9_goesOn 42 = .ok (.iload_n 2, 1) := by decide +kernel
theorem dX9_goesOn_43 : decode cX9_goesOn 43 = .ok (.baload, 1) := by decide +kernel
theorem dX9_goesOn_44 : decode cX9_goesOn 44 = .ok (.ifCond .eq 24, 3) := by decide +kernel
theorem dX9_goesOn_47 : decode cX9_goesOn 47 = .ok (.aload_n 0, 1) := by decide +kernel
theorem dX9_goesOn_48 : decode cX9_goesOn 48 = .ok (.getfield 40, 3) := by decide +kernel
theorem dX9_goesOn_51 : decode cX9_goesOn 51 = .ok (.iload_n 2, 1) := by decide +kernel
theorem dX9_goesOn_52 : decode cX9_goesOn 52 = .ok (.aload_n 0, 1) := by decide +kernel
theorem dX9_goesOn_53 : decode cX9_goesOn 53 = .ok (.iload_n 1, 1) := by decide +kernel
theorem dX9_goesOn_54 : decode cX9_goesOn 54 = .ok (.iload_n 2, 1) := by decide +kernel
theorem dX9_goesOn_55 : decode cX9_goesOn 55 = .ok (.iload_n 3, 1) := by decide +kernel
theorem dX9_goesOn_56 : decode cX9_goesOn 56 = .ok (.invokevirtual 86, 3) := by decide +kernel
theorem dX9_goesOn_59 : decode cX9_goesOn 59 = .ok (.iadd, 1) := by decide +kernel
theorem dX9_goesOn_60 : decode cX9_goesOn 60 = .ok (.iconst 1, 1) := by decide +kernel
theorem dX9_goesOn_61 : decode cX9_goesOn 61 = .ok (.bastore, 1) := by decide +kernel
theorem dX9_goesOn_62 : decode cX9_goesOn 62 = .ok (.iinc 3 1, 3) := by decide +kernel
theorem dX9_goesOn_65 : decode cX9_goesOn 65 = .ok (.goto (-32), 3) := by decide +kernel
theorem dX9_goesOn_68 : decode cX9_goesOn 68 = .ok (.iinc 2 1, 3) := by decide +kernel
theorem dX9_goesOn_71 : decode cX9_goesOn 71 = .ok (.goto (-47), 3) := by decide +kernel
theorem dX9_goesOn_74 : decode cX9_goesOn 74 = .ok (.iconst 0, 1) := by decide +kernel
theorem dX9_goesOn_75 : decode cX9_goesOn 75 = .ok (.istore_n 2, 1) := by decide +kernel
theorem dX9_goesOn_76 : decode cX9_goesOn 76 = .ok (.iload_n 2, 1) := by decide +kernel
theorem dX9_goesOn_77 : decode cX9_goesOn 77 = .ok (.sipush 3000, 3) := by decide +kernel
theorem dX9_goesOn_80 : decode cX9_goesOn 80 = .ok (.if_icmp .ge 21, 3) := by decide +kernel
theorem dX9_goesOn_83 : decode cX9_goesOn 83 = .ok (.aload_n 0, 1) := by decide +kernel
theorem dX9_goesOn_84 : decode cX9_goesOn 84 = .ok (.getfield 36, 3) := by decide +kernel
theorem dX9_goesOn_87 : decode cX9_goesOn 87 = .ok (.iload_n 2, 1) := by decide +kernel
theorem dX9_goesOn_88 : decode cX9_goesOn 88 = .ok (.aload_n 0, 1) := by decide +kernel
theorem dX9_goesOn_89 : decode cX9_goesOn 89 = .ok (.getfield 40, 3) := by decide +kernel
theorem dX9_goesOn_92 : decode cX9_goesOn 92 = .ok (.iload_n 2, 1) := by decide +kernel
theorem dX9_goesOn_93 : decode cX9_goesOn 93 = .ok (.baload, 1) := by decide +kernel
theorem dX9_goesOn_94 : decode cX9_goesOn 94 = .ok (.bastore, 1) := by decide +kernel
theorem dX9_goesOn_95 : decode cX9_goesOn 95 = .ok (.iinc 2 1, 3) := by decide +kernel
theorem dX9_goesOn_98 : decode cX9_goesOn 98 = .ok (.goto (-22), 3) := by decide +kernel
theorem dX9_goesOn_101 : decode cX9_goesOn 101 = .ok (.return_, 1) := by decide +kernel
theorem dX9_possibleAddresses_0 : decode cX9_possibleAddresses 0 = .ok (.aload_n 0, 1) := by decide +kernel
theorem dX9_possibleAddresses_1 : decode cX9_possibleAddresses 1 = .ok (.iload_n 1, 1) := by decide +kernel
theorem dX9_possibleAddresses_2 : decode cX9_possibleAddresses 2 = .ok (.invokevirtual 137, 3) := by decide +kernel
theorem dX9_possibleAddresses_5 : decode cX9_possibleAddresses 5 = .ok (.ifCond .ne 9, 3) := by decide +kernel
theorem dX9_possibleAddresses_8 : decode cX9_possibleAddresses 8 = .ok (.aload_n 0, 1) := by decide +kernel
theorem dX9_possibleAddresses_9 : decode cX9_possibleAddresses 9 = .ok (.iconst 1, 1) := by decide +kernel
theorem dX9_possibleAddresses_10 : decode cX9_possibleAddresses 10 = .ok (.invokevirtual 93, 3) := by decide +kernel
theorem dX9_possibleAddresses_13 : decode cX9_possibleAddresses 13 = .ok (.ireturn, 1) := by decide +kernel
theorem dX9_possibleAddresses_14 : decode cX9_possibleAddresses 14 = .ok (.iconst 0, 1) := by decide +kernel
theorem dX9_possibleAddresses_15 : decode cX9_possibleAddresses 15 = .ok (.istore_n 2, 1) := by decide +kernel
theorem dX9_possibleAddresses_16 : decode cX9_possibleAddresses 16 = .ok (.iload_n 2, 1) := by decide +kernel
theorem dX9_possibleAddresses_17 : decode cX9_possibleAddresses 17 = .ok (.sipush 3000, 3) := by decide +kernel
theorem dX9_possibleAddresses_20 : decode cX9_possibleAddresses 20 = .ok (.if_icmp .ge 24, 3) := by decide +kernel
theorem dX9_possibleAddresses_23 : decode cX9_possibleAddresses 23 = .ok (.aload_n 0, 1) := by decide +kernel
theorem dX9_possibleAddresses_24 : decode cX9_possibleAddresses 24 = .ok (.getfield 36, 3) := by decide +kernel
theorem dX9_possibleAddresses_27 : decode cX9_possibleAddresses 27 = .ok (.iload_n 2, 1) := by decide +kernel
theorem dX9_possibleAddresses_28 : decode cX9_possibleAddresses 28 = .ok (.iload_n 2, 1) := by decide +kernel
theorem dX9_possibleAddresses_29 : decode cX9_possibleAddresses 29 = .ok (.ifCond .ne 7, 3) := by decide +kernel
theorem dX9_possibleAddresses_32 : decode cX9_possibleAddresses 32 = .ok (.iconst 1, 1) := by decide +kernel
theorem dX9_possibleAddresses_33 : decode cX9_possibleAddresses 33 = .ok (.goto 4, 3) := by decide +kernel
theorem dX9_possibleAddresses_36 : decode cX9_possibleAddresses 36 = .ok (.iconst 0, 1) := by decide +kernel
theorem dX9_possibleAddresses_37 : decode cX9_possibleAddresses 37 = .ok (.bastore, 1) := by decide +kernel
theorem dX9_possibleAddresses_38 : decode cX9_possibleAddresses 38 = .ok (.iinc 2 1, 3) := by decide +kernel
theorem dX9_possibleAddresses_41 : decode cX9_possibleAddresses 41 = .ok (.goto (-25), 3) := by decide +kernel
theorem dX9_possibleAddresses_44 : decode cX9_possibleAddresses 44 = .ok (.iconst 0, 1) := by decide +kernel
theorem dX9_possibleAddresses_45 : decode cX9_possibleAddresses 45 = .ok (.istore_n 2, 1) := by decide +kernel
theorem dX9_possibleAddresses_46 : decode cX9_possibleAddresses 46 = .ok (.iload_n 2, 1) := by decide +kernel
theorem dX9_possibleAddresses_47 : decode cX9_possibleAddresses 47 = .ok (.iload_n 1, 1) := by decide +kernel
theorem dX9_possibleAddresses_48 : decode cX9_possibleAddresses 48 = .ok (.if_icmp .ge 14, 3) := by decide +kernel
theorem dX9_possibleAddresses_51 : decode cX9_possibleAddresses 51 = .ok (.aload_n 0, 1) := by decide +kernel
theorem dX9_possibleAddresses_52 : decode cX9_possibleAddresses 52 = .ok (.iload_n 2, 1) := by decide +kernel
theorem dX9_possibleAddresses_53 : decode cX9_possibleAddresses 53 = .ok (.invokevirtual 153, 3) := by decide +kernel
theorem dX9_possibleAddresses_56 : decode cX9_possibleAddresses 56 = .ok (.iinc 2 1, 3) := by decide +kernel
theorem dX9_possibleAddresses_59 : decode cX9_possibleAddresses 59 = .ok (.goto (-13), 3) := by decide +kernel
theorem dX9_possibleAddresses_62 : decode cX9_possibleAddresses 62 = .ok (.iconst 0, 1) := by decide +kernel
theorem dX9_possibleAddresses_63 : decode cX9_possibleAddresses 63 = .ok (.istore_n 2, 1) := by decide +kernel
theorem dX9_possibleAddresses_64 : decode cX9_possibleAddresses 64 = .ok (.iconst 0, 1) := by decide +kernel
theorem dX9_possibleAddresses_65 : decode cX9_possibleAddresses 65 = .ok (.istore_n 3, 1) := by decide +kernel
theorem dX9_possibleAddresses_66 : decode cX9_possibleAddresses 66 = .ok (.iload_n 3, 1) := by decide +kernel
theorem dX9_possibleAddresses_67 : decode cX9_possibleAddresses 67 = .ok (.sipush 3000, 3) := by decide +kernel
theorem dX9_possibleAddresses_70 : decode cX9_possibleAddresses 70 = .ok (.if_icmp .ge 26, 3) := by decide +kernel
theorem dX9_possibleAddresses_73 : decode cX9_possibleAddresses 73 = .ok (.iload_n 2, 1) := by decide +kernel
theorem dX9_possibleAddresses_74 : decode cX9_possibleAddresses 74 = .ok (.aload_n 0, 1) := by decide +kernel
theorem dX9_possibleAddresses_75 : decode cX9_possibleAddresses 75 = .ok (.getfield 36, 3) := by decide +kernel
theorem dX9_possibleAddresses_78 : decode cX9_possibleAddresses 78 = .ok (.iload_n 3, 1) := by decide +kernel
theorem dX9_possibleAddresses_79 : decode cX9_possibleAddresses 79 = .ok (.baload, 1) := by decide +kernel
theorem dX9_possibleAddresses_80 : decode cX9_possibleAddresses 80 = .ok (.ifCond .eq 7, 3) := by decide +kernel
theorem dX9_possibleAddresses_83 : decode cX9_possibleAddresses 83 = .ok (.iconst 1, 1) := by decide +kernel
theorem dX9_possibleAddresses_84 : decode cX9_possibleAddresses 84 = .ok (.goto 4, 3) := by decide +kernel
theorem dX9_possibleAddresses_87 : decode cX9_possibleAddresses 87 = .ok (.iconst 0, 1) := by decide +kernel
theorem dX9_possibleAddresses_88 : decode cX9_possibleAddresses 88 = .ok (.iadd, 1) := by decide +kernel
theorem dX9_possibleAddresses_89 : decode cX9_possibleAddresses 89 = .ok (.istore_n 2, 1) := by decide +kernel
theorem dX9_possibleAddresses_90 : decode cX9_possibleAddresses 90 = .ok (.iinc 3 1, 3) := by decide +kernel
theorem dX9_possibleAddresses_93 : decode cX9_possibleAddresses 93 = .ok (.goto (-27), 3) := by decide +kernel
theorem dX9_possibleAddresses_96 : decode cX9_possibleAddresses 96 = .ok (.aload_n 0, 1) := by decide +kernel
theorem dX9_possibleAddresses_97 : decode cX9_possibleAddresses 97 = .ok (.iload_n 2, 1) := by decide +kernel
theorem dX9_possibleAddresses_98 : decode cX9_possibleAddresses 98 = .ok (.invokevirtual 90, 3) := by decide +kernel
theorem dX9_possibleAddresses_101 : decode cX9_possibleAddresses 101 = .ok (.ireturn, 1) := by decide +kernel
theorem dX9_transfers_0 : decode cX9_transfers 0 = .ok (.iconst 0, 1) := by decide +kernel
theorem dX9_transfers_1 : decode cX9_transfers 1 = .ok (.istore_n 1, 1) := by decide +kernel
theorem dX9_transfers_2 : decode cX9_transfers 2 = .ok (.iconst 0, 1) := by decide +kernel
theorem dX9_transfers_3 : decode cX9_transfers 3 = .ok (.istore_n 2, 1) := by decide +kernel
theorem dX9_transfers_4 : decode cX9_transfers 4 = .ok (.iload_n 2, 1) := by decide +kernel
theorem dX9_transfers_5 : decode cX9_transfers 5 = .ok (.aload_n 0, 1) := by decide +kernel
theorem dX9_transfers_6 : decode cX9_transfers 6 = .ok (.getfield 7, 3) := by decide +kernel
theorem dX9_transfers_9 : decode cX9_transfers 9 = .ok (.iconst 0, 1) := by decide +kernel
theorem dX9_transfers_10 : decode cX9_transfers 10 = .ok (.iaload, 1) := by decide +kernel
theorem dX9_transfers_11 : decode cX9_transfers 11 = .ok (.if_icmp .ge 25, 3) := by decide +kernel
theorem dX9_transfers_14 : decode cX9_transfers 14 = .ok (.iload_n 1, 1) := by decide +kernel
theorem dX9_transfers_15 : decode cX9_transfers 15 = .ok (.aload_n 0, 1) := by decide +kernel
theorem dX9_transfers_16 : decode cX9_transfers 16 = .ok (.iload_n 2, 1) := by decide +kernel
theorem dX9_transfers_17 : decode cX9_transfers 17 = .ok (.invokevirtual 146, 3) := by decide +kernel
theorem dX9_transfers_20 : decode cX9_transfers 20 = .ok (.ifCond .eq 7, 3) := by decide +kernel
theorem dX9_transfers_23 : decode cX9_transfers 23 = .ok (.iconst 1, 1) := by decide +kernel
theorem dX9_transfers_24 : decode cX9_transfers 24 = .ok (.goto 4, 3) := by decide +kernel
theorem dX9_transfers_27 : decode cX9_transfers 27 = .ok (.iconst 0, 1) := by decide +kernel
theorem dX9_transfers_28 : decode cX9_transfers 28 = .ok (.iadd, 1) := by decide +kernel
theorem dX9_transfers_29 : decode cX9_transfers 29 = .ok (.istore_n 1, 1) := by decide +kernel
theorem dX9_transfers_30 : decode cX9_transfers 30 = .ok (.iinc 2 1, 3) := by decide +kernel
theorem dX9_transfers_33 : decode cX9_transfers 33 = .ok (.goto (-29), 3) := by decide +kernel
theorem dX9_transfers_36 : decode cX9_transfers 36 = .ok (.iload_n 1, 1) := by decide +kernel
theorem dX9_transfers_37 : decode cX9_transfers 37 = .ok (.ireturn, 1) := by decide +kernel
theorem dX9_transferCount_0 : decode cX9_transferCount 0 = .ok (.aload_n 0, 1) := by decide +kernel
theorem dX9_transferCount_1 : decode cX9_transferCount 1 = .ok (.aload_n 0, 1) := by decide +kernel
theorem dX9_transferCount_2 : decode cX9_transferCount 2 = .ok (.invokevirtual 156, 3) := by decide +kernel
theorem dX9_transferCount_5 : decode cX9_transferCount 5 = .ok (.invokevirtual 90, 3) := by decide +kernel
theorem dX9_transferCount_8 : decode cX9_transferCount 8 = .ok (.ireturn, 1) := by decide +kernel
theorem dX9_formCount_0 : decode cX9_formCount 0 = .ok (.iload_n 1, 1) := by decide +kernel
theorem dX9_formCount_1 : decode cX9_formCount 1 = .ok (.iconst 0, 1) := by decide +kernel
theorem dX9_formCount_2 : decode cX9_formCount 2 = .ok (.iconst 2, 1) := by decide +kernel
theorem dX9_formCount_3 : decode cX9_formCount 3 = .ok (.invokestatic 49, 3) := by decide +kernel
theorem dX9_formCount_6 : decode cX9_formCount 6 = .ok (.ifCond .ne 9, 3) := by decide +kernel
theorem dX9_formCount_9 : decode cX9_formCount 9 = .ok (.aload_n 0, 1) := by decide +kernel
theorem dX9_formCount_10 : decode cX9_formCount 10 = .ok (.iconst 1, 1) := by decide +kernel
theorem dX9_formCount_11 : decode cX9_formCount 11 = .ok (.invokevirtual 93, 3) := by decide +kernel
theorem dX9_formCount_14 : decode cX9_formCount 14 = .ok (.ireturn, 1) := by decide +kernel
theorem dX9_formCount_15 : decode cX9_formCount 15 = .ok (.iconst 0, 1) := by decide +kernel
theorem dX9_formCount_16 : decode cX9_formCount 16 = .ok (.istore_n 2, 1) := by decide +kernel
theorem dX9_formCount_17 : decode cX9_formCount 17 = .ok (.iconst 0, 1) := by decide +kernel
theorem dX9_formCount_18 : decode cX9_formCount 18 = .ok (.istore_n 3, 1) := by decide +kernel
theorem dX9_formCount_19 : decode cX9_formCount 19 = .ok (.iload_n 3, 1) := by decide +kernel
theorem dX9_formCount_20 : decode cX9_formCount 20 = .ok (.aload_n 0, 1) := by decide +kernel
theorem dX9_formCount_21 : decode cX9_formCount 21 = .ok (.getfield 7, 3) := by decide +kernel
theorem dX9_formCount_24 : decode cX9_formCount 24 = .ok (.iconst 0, 1) := by decide +kernel
theorem dX9_formCount_25 : decode cX9_formCount 25 = .ok (.iaload, 1) := by decide +kernel
theorem dX9_formCount_26 : decode cX9_formCount 26 = .ok (.if_icmp .ge 34, 3) := by decide +kernel
theorem dX9_formCount_29 : decode cX9_formCount 29 = .ok (.iload_n 2, 1) := by decide +kernel
theorem dX9_formCount_30 : decode cX9_formCount 30 = .ok (.aload_n 0, 1) := by decide +kernel
theorem dX9_formCount_31 : decode cX9_formCount 31 = .ok (.iload_n 3, 1) := by decide +kernel
theorem dX9_formCount_32 : decode cX9_formCount 32 = .ok (.invokevirtual 146, 3) := by decide +kernel
theorem dX9_formCount_35 : decode cX9_formCount 35 = .ok (.ifCond .eq 16, 3) := by decide +kernel
theorem dX9_formCount_38 : decode cX9_formCount 38 = .ok (.aload_n 0, 1) := by decide +kernel
theorem dX9_formCount_39 : decode cX9_formCount 39 = .ok (.iload_n 3, 1) := by decide +kernel
theorem dX9_formCount_40 : decode cX9_formCount 40 = .ok (.invokevirtual 83, 3) := by decide +kernel
theorem dX9_formCount_43 : decode cX9_formCount 43 = .ok (.iload_n 1, 1) := by decide +kernel
theorem dX9_formCount_44 : decode cX9_formCount 44 = .ok (.if_icmp .ne 7, 3) := by decide +kernel
theorem dX9_formCount_47 : decode cX9_formCount 47 = .ok (.iconst 1, 1) := by decide +kernel
theorem dX9_formCount_48 : decode cX9_formCount 48 = .ok (.goto 4, 3) := by decide +kernel
theorem dX9_formCount_51 : decode cX9_formCount 51 = .ok (.iconst 0, 1) := by decide +kernel
theorem dX9_formCount_52 : decode cX9_formCount 52 = .ok (.iadd, 1) := by decide +kernel
theorem dX9_formCount_53 : decode cX9_formCount 53 = .ok (.istore_n 2, 1) := by decide +kernel
theorem dX9_formCount_54 : decode cX9_formCount 54 = .ok (.iinc 3 1, 3) := by decide +kernel
theorem dX9_formCount_57 : decode cX9_formCount 57 = .ok (.goto (-38), 3) := by decide +kernel
theorem dX9_formCount_60 : decode cX9_formCount 60 = .ok (.aload_n 0, 1) := by decide +kernel
theorem dX9_formCount_61 : decode cX9_formCount 61 = .ok (.iload_n 2, 1) := by decide +kernel
theorem dX9_formCount_62 : decode cX9_formCount 62 = .ok (.invokevirtual 90, 3) := by decide +kernel
theorem dX9_formCount_65 : decode cX9_formCount 65 = .ok (.ireturn, 1) := by decide +kernel
theorem dX9_undefined_0 : decode cX9_undefined 0 = .ok (.iconst 0, 1) := by decide +kernel
theorem dX9_undefined_1 : decode cX9_undefined 1 = .ok (.istore_n 1, 1) := by decide +kernel
theorem dX9_undefined_2 : decode cX9_undefined 2 = .ok (.iconst 0, 1) := by decide +kernel
theorem dX9_undefined_3 : decode cX9_undefined 3 = .ok (.istore_n 2, 1) := by decide +kernel
theorem dX9_undefined_4 : decode cX9_undefined 4 = .ok (.iload_n 2, 1) := by decide +kernel
theorem dX9_undefined_5 : decode cX9_undefined 5 = .ok (.aload_n 0, 1) := by decide +kernel
theorem dX9_undefined_6 : decode cX9_undefined 6 = .ok (.getfield 7, 3) := by decide +kernel
theorem dX9_undefined_9 : decode cX9_undefined 9 = .ok (.iconst 0, 1) := by decide +kernel
theorem dX9_undefined_10 : decode cX9_undefined 10 = .ok (.iaload, 1) := by decide +kernel
theorem dX9_undefined_11 : decode cX9_undefined 11 = .ok (.if_icmp .ge 38, 3) := by decide +kernel
theorem dX9_undefined_14 : decode cX9_undefined 14 = .ok (.iload_n 1, 1) := by decide +kernel
theorem dX9_undefined_15 : decode cX9_undefined 15 = .ok (.aload_n 0, 1) := by decide +kernel
theorem dX9_undefined_16 : decode cX9_undefined 16 = .ok (.iload_n 2, 1) := by decide +kernel
theorem dX9_undefined_17 : decode cX9_undefined 17 = .ok (.invokevirtual 146, 3) := by decide +kernel
theorem dX9_undefined_20 : decode cX9_undefined 20 = .ok (.ifCond .eq 20, 3) := by decide +kernel
theorem dX9_undefined_23 : decode cX9_undefined 23 = .ok (.aload_n 0, 1) := by decide +kernel
theorem dX9_undefined_24 : decode cX9_undefined 24 = .ok (.aload_n 0, 1) := by decide +kernel
theorem dX9_undefined_25 : decode cX9_undefined 25 = .ok (.iload_n 2, 1) := by decide +kernel
theorem dX9_undefined_26 : decode cX9_undefined 26 = .ok (.invokevirtual 63, 3) := by decide +kernel
theorem dX9_undefined_29 : decode cX9_undefined 29 = .ok (.invokevirtual 128, 3) := by decide +kernel
theorem dX9_undefined_32 : decode cX9_undefined 32 = .ok (.iconst (-1), 1) := by decide +kernel
theorem dX9_undefined_33 : decode cX9_undefined 33 = .ok (.if_icmp .ne 7, 3) := by decide +kernel
theorem dX9_undefined_36 : decode cX9_undefined 36 = .ok (.iconst 1, 1) := by decide +kernel
theorem dX9_undefined_37 : decode cX9_undefined 37 = .ok (.goto 4, 3) := by decide +kernel
theorem dX9_undefined_40 : decode cX9_undefined 40 = .ok (.iconst 0, 1) := by decide +kernel
theorem dX9_undefined_41 : decode cX9_undefined 41 = .ok (.iadd, 1) := by decide +kernel
theorem dX9_undefined_42 : decode cX9_undefined 42 = .ok (.istore_n 1, 1) := by decide +kernel
theorem dX9_undefined_43 : decode cX9_undefined 43 = .ok (.iinc 2 1, 3) := by decide +kernel
theorem dX9_undefined_46 : decode cX9_undefined 46 = .ok (.goto (-42), 3) := by decide +kernel
theorem dX9_undefined_49 : decode cX9_undefined 49 = .ok (.iload_n 1, 1) := by decide +kernel
theorem dX9_undefined_50 : decode cX9_undefined 50 = .ok (.ireturn, 1) := by decide +kernel
theorem dX9_undefinedCount_0 : decode cX9_undefinedCount 0 = .ok (.aload_n 0, 1) := by decide +kernel
theorem dX9_undefinedCount_1 : decode cX9_undefinedCount 1 = .ok (.aload_n 0, 1) := by decide +kernel
theorem dX9_undefinedCount_2 : decode cX9_undefinedCount 2 = .ok (.invokevirtual 159, 3) := by decide +kernel
theorem dX9_undefinedCount_5 : decode cX9_undefinedCount 5 = .ok (.invokevirtual 90, 3) := by decide +kernel
theorem dX9_undefinedCount_8 : decode cX9_undefinedCount 8 = .ok (.ireturn, 1) := by decide +kernel
theorem dX9_off_0 : decode cX9_off 0 = .ok (.aload_n 0, 1) := by decide +kernel
theorem dX9_off_1 : decode cX9_off 1 = .ok (.getfield 27, 3) := by decide +kernel
theorem dX9_off_4 : decode cX9_off 4 = .ok (.aload_n 0, 1) := by decide +kernel
theorem dX9_off_5 : decode cX9_off 5 = .ok (.aload_n 0, 1) := by decide +kernel
theorem dX9_off_6 : decode cX9_off 6 = .ok (.iload_n 1, 1) := by decide +kernel
theorem dX9_off_7 : decode cX9_off 7 = .ok (.invokevirtual 63, 3) := by decide +kernel
theorem dX9_off_10 : decode cX9_off 10 = .ok (.invokevirtual 128, 3) := by decide +kernel
theorem dX9_off_13 : decode cX9_off 13 = .ok (.iaload, 1) := by decide +kernel
theorem dX9_off_14 : decode cX9_off 14 = .ok (.aload_n 0, 1) := by decide +kernel
theorem dX9_off_15 : decode cX9_off 15 = .ok (.getfield 27, 3) := by decide +kernel
theorem dX9_off_18 : decode cX9_off 18 = .ok (.iload_n 1, 1) := by decide +kernel
theorem dX9_off_19 : decode cX9_off 19 = .ok (.iconst 1, 1) := by decide +kernel
theorem dX9_off_20 : decode cX9_off 20 = .ok (.iadd, 1) := by decide +kernel
theorem dX9_off_21 : decode cX9_off 21 = .ok (.iaload, 1) := by decide +kernel
theorem dX9_off_22 : decode cX9_off 22 = .ok (.isub, 1) := by decide +kernel
theorem dX9_off_23 : decode cX9_off 23 = .ok (.ireturn, 1) := by decide +kernel
theorem dX9_needed_0 : decode cX9_needed 0 = .ok (.iload_n 0, 1) := by decide +kernel
theorem dX9_needed_1 : decode cX9_needed 1 = .ok (.bipush (-16), 2) := by decide +kernel
theorem dX9_needed_3 : decode cX9_needed 3 = .ok (.bipush 15, 2) := by decide +kernel
theorem dX9_needed_5 : decode cX9_needed 5 = .ok (.invokestatic 49, 3) := by decide +kernel
theorem dX9_needed_8 : decode cX9_needed 8 = .ok (.ifCond .eq 7, 3) := by decide +kernel
theorem dX9_needed_11 : decode cX9_needed 11 = .ok (.iconst 0, 1) := by decide +kernel
theorem dX9_needed_12 : decode cX9_needed 12 = .ok (.goto 19, 3) := by decide +kernel
theorem dX9_needed_15 : decode cX9_needed 15 = .ok (.iload_n 0, 1) := by decide +kernel
theorem dX9_needed_16 : decode cX9_needed 16 = .ok (.bipush (-100), 2) := by decide +kernel
theorem dX9_needed_18 : decode cX9_needed 18 = .ok (.bipush 99, 2) := by decide +kernel
theorem dX9_needed_20 : decode cX9_needed 20 = .ok (.invokestatic 49, 3) := by decide +kernel
theorem dX9_needed_23 : decode cX9_needed 23 = .ok (.ifCond .eq 7, 3) := by decide +kernel
theorem dX9_needed_26 : decode cX9_needed 26 = .ok (.iconst 1, 1) := by decide +kernel
theorem dX9_needed_27 : decode cX9_needed 27 = .ok (.goto 4, 3) := by decide +kernel
theorem dX9_needed_30 : decode cX9_needed 30 = .ok (.iconst 2, 1) := by decide +kernel
theorem dX9_needed_31 : decode cX9_needed 31 = .ok (.ireturn, 1) := by decide +kernel
theorem dX9_isFit_0 : decode cX9_isFit 0 = .ok (.aload_n 0, 1) := by decide +kernel
theorem dX9_isFit_1 : decode cX9_isFit 1 = .ok (.iload_n 1, 1) := by decide +kernel
theorem dX9_isFit_2 : decode cX9_isFit 2 = .ok (.invokevirtual 83, 3) := by decide +kernel
theorem dX9_isFit_5 : decode cX9_isFit 5 = .ok (.iconst 2, 1) := by decide +kernel
theorem dX9_isFit_6 : decode cX9_isFit 6 = .ok (.if_icmp .eq 19, 3) := by decide +kernel
theorem dX9_isFit_9 : decode cX9_isFit 9 = .ok (.aload_n 0, 1) := by decide +kernel
theorem dX9_isFit_10 : decode cX9_isFit 10 = .ok (.iload_n 1, 1) := by decide +kernel
theorem dX9_isFit_11 : decode cX9_isFit 11 = .ok (.invokevirtual 162, 3) := by decide +kernel
theorem dX9_isFit_14 : decode cX9_isFit 14 = .ok (.invokestatic 165, 3) := by decide +kernel
theorem dX9_isFit_17 : decode cX9_isFit 17 = .ok (.aload_n 0, 1) := by decide +kernel
theorem dX9_isFit_18 : decode cX9_isFit 18 = .ok (.iload_n 1, 1) := by decide +kernel
theorem dX9_isFit_19 : decode cX9_isFit 19 = .ok (.invokevirtual 83, 3) := by decide +kernel
theorem dX9_isFit_22 : decode cX9_isFit 22 = .ok (.if_icmp .gt 7, 3) := by decide +kernel
theorem dX9_isFit_25 : decode cX9_isFit 25 = .ok (.iconst 1, 1) := by decide +kernel
theorem dX9_isFit_26 : decode cX9_isFit 26 = .ok (.goto 4, 3) := by decide +kernel
theorem dX9_isFit_29 : decode cX9_isFit 29 = .ok (.iconst 0, 1) := by decide +kernel
theorem dX9_isFit_30 : decode cX9_isFit 30 = .ok (.ireturn, 1) := by decide +kernel
theorem dX9_lacks_0 : decode cX9_lacks 0 = .ok (.aload_n 0, 1) := by decide +kernel
theorem dX9_lacks_1 : decode cX9_lacks 1 = .ok (.iload_n 1, 1) := by decide +kernel
theorem dX9_lacks_2 : decode cX9_lacks 2 = .ok (.invokevirtual 137, 3) := by decide +kernel
theorem dX9_lacks_5 : decode cX9_lacks 5 = .ok (.ifCond .ne 5, 3) := by decide +kernel
theorem dX9_lacks_8 : decode cX9_lacks 8 = .ok (.iconst 1, 1) := by decide +kernel
theorem dX9_lacks_9 : decode cX9_lacks 9 = .ok (.ireturn, 1) := by decide +kernel
theorem dX9_lacks_10 : decode cX9_lacks 10 = .ok (.aload_n 0, 1) := by decide +kernel
theorem dX9_lacks_11 : decode cX9_lacks 11 = .ok (.invokevirtual 143, 3) := by decide +kernel
theorem dX9_lacks_14 : decode cX9_lacks 14 = .ok (.aload_n 0, 1) := by decide +kernel
theorem dX9_lacks_15 : decode cX9_lacks 15 = .ok (.iload_n 1, 1) := by decide +kernel
theorem dX9_lacks_16 : decode cX9_lacks 16 = .ok (.invokevirtual 146, 3) := by decide +kernel
theorem dX9_lacks_19 : decode cX9_lacks 19 = .ok (.ifCond .ne 7, 3) := by decide +kernel
theorem dX9_lacks_22 : decode cX9_lacks 22 = .ok (.iconst 2, 1) := by decide +kernel
theorem dX9_lacks_23 : decode cX9_lacks 23 = .ok (.goto 21, 3) := by decide +kernel
theorem dX9_lacks_26 : decode cX9_lacks 26 = .ok (.aload_n 0, 1) := by decide +kernel
theorem dX9_lacks_27 : decode cX9_lacks 27 = .ok (.aload_n 0, 1) := by decide +kernel
theorem dX9_lacks_28 : decode cX9_lacks 28 = .ok (.iload_n 1, 1) := by decide +kernel
theorem dX9_lacks_29 : decode cX9_lacks 29 = .ok (.invokevirtual 63, 3) := by decide +kernel
theorem dX9_lacks_32 : decode cX9_lacks 32 = .ok (.invokevirtual 128, 3) := by decide +kernel
theorem dX9_lacks_35 : decode cX9_lacks 35 = .ok (.iconst (-1), 1) := by decide +kernel
theorem dX9_lacks_36 : decode cX9_lacks 36 = .ok (.if_icmp .ne 7, 3) := by decide +kernel
theorem dX9_lacks_39 : decode cX9_lacks 39 = .ok (.iconst 3, 1) := by decide +kernel
theorem dX9_lacks_40 : decode cX9_lacks 40 = .ok (.goto 4, 3) := by decide +kernel
theorem dX9_lacks_43 : decode cX9_lacks 43 = .ok (.iconst 0, 1) := by decide +kernel
theorem dX9_lacks_44 : decode cX9_lacks 44 = .ok (.ireturn, 1) := by decide +kernel
theorem dX9_displacement_0 : decode cX9_displacement 0 = .ok (.aload_n 0, 1) := by decide +kernel
theorem dX9_displacement_1 : decode cX9_displacement 1 = .ok (.iload_n 1, 1) := by decide +kernel
theorem dX9_displacement_2 : decode cX9_displacement 2 = .ok (.invokevirtual 168, 3) := by decide +kernel
theorem dX9_displacement_5 : decode cX9_displacement 5 = .ok (.istore_n 2, 1) := by decide +kernel
theorem dX9_displacement_6 : decode cX9_displacement 6 = .ok (.iload_n 2, 1) := by decide +kernel
theorem dX9_displacement_7 : decode cX9_displacement 7 = .ok (.ifCond .eq 11, 3) := by decide +kernel
theorem dX9_displacement_10 : decode cX9_displacement 10 = .ok (.aload_n 0, 1) := by decide +kernel
theorem dX9_displacement_11 : decode cX9_displacement 11 = .ok (.iload_n 2, 1) := by decide +kernel
theorem dX9_displacement_12 : decode cX9_displacement 12 = .ok (.invokevirtual 93, 3) := by decide +kernel
theorem dX9_displacement_15 : decode cX9_displacement 15 = .ok (.goto 12, 3) := by decide +kernel
theorem dX9_displacement_18 : decode cX9_displacement 18 = .ok (.aload_n 0, 1) := by decide +kernel
theorem dX9_displacement_19 : decode cX9_displacement 19 = .ok (.aload_n 0, 1) := by decide +kernel
theorem dX9_displacement_20 : decode cX9_displacement 20 = .ok (.iload_n 1, 1) := by decide +kernel
theorem dX9_displacement_21 : decode cX9_displacement 21 = .ok (.invokevirtual 162, 3) := by decide +kernel
theorem dX9_displacement_24 : decode cX9_displacement 24 = .ok (.invokevirtual 90, 3) := by decide +kernel
theorem dX9_displacement_27 : decode cX9_displacement 27 = .ok (.ireturn, 1) := by decide +kernel
theorem dX9_fits_0 : decode cX9_fits 0 = .ok (.aload_n 0, 1) := by decide +kernel
theorem dX9_fits_1 : decode cX9_fits 1 = .ok (.aload_n 0, 1) := by decide +kernel
theorem dX9_fits_2 : decode cX9_fits 2 = .ok (.iload_n 1, 1) := by decide +kernel
theorem dX9_fits_3 : decode cX9_fits 3 = .ok (.invokevirtual 168, 3) := by decide +kernel
theorem dX9_fits_6 : decode cX9_fits 6 = .ok (.putfield 46, 3) := by decide +kernel
theorem dX9_fits_9 : decode cX9_fits 9 = .ok (.aload_n 0, 1) := by decide +kernel
theorem dX9_fits_10 : decode cX9_fits 10 = .ok (.getfield 46, 3) := by decide +kernel
theorem dX9_fits_13 : decode cX9_fits 13 = .ok (.ifCond .ne 15, 3) := by decide +kernel
theorem dX9_fits_16 : decode cX9_fits 16 = .ok (.aload_n 0, 1) := by decide +kernel
theorem dX9_fits_17 : decode cX9_fits 17 = .ok (.iload_n 1, 1) := by decide +kernel
theorem dX9_fits_18 : decode cX9_fits 18 = .ok (.invokevirtual 171, 3) := by decide +kernel
theorem dX9_fits_21 : decode cX9_fits 21 = .ok (.ifCond .eq 7, 3) := by decide +kernel
theorem dX9_fits_24 : decode cX9_fits 24 = .ok (.iconst 1, 1) := by decide +kernel
theorem dX9_fits_25 : decode cX9_fits 25 = .ok (.goto 4, 3) := by decide +kernel
theorem dX9_fits_28 : decode cX9_fits 28 = .ok (.iconst 0, 1) := by decide +kernel
theorem dX9_fits_29 : decode cX9_fits 29 = .ok (.ireturn, 1) := by decide +kernel
theorem dX9_misfitMany_0 : decode cX9_misfitMany 0 = .ok (.aload_n 0, 1) := by decide +kernel
theorem dX9_misfitMany_1 : decode cX9_misfitMany 1 = .ok (.invokevirtual 143, 3) := by decide +kernel
theorem dX9_misfitMany_4 : decode cX9_misfitMany 4 = .ok (.iconst 0, 1) := by decide +kernel
theorem dX9_misfitMany_5 : decode cX9_misfitMany 5 = .ok (.istore_n 1, 1) := by decide +kernel
theorem dX9_misfitMany_6 : decode cX9_misfitMany 6 = .ok (.iconst 0, 1) := by decide +kernel
theorem dX9_misfitMany_7 : decode cX9_misfitMany 7 = .ok (.istore_n 2, 1) := by decide +kernel
theorem dX9_misfitMany_8 : decode cX9_misfitMany 8 = .ok (.iload_n 2, 1) := by decide +kernel
theorem dX9_misfitMany_9 : decode cX9_misfitMany 9 = .ok (.aload_n 0, 1) := by decide +kernel
theorem dX9_misfitMany_10 : decode cX9_misfitMany 10 = .ok (.getfield 7, 3) := by decide +kernel
theorem dX9_misfitMany_13 : decode cX9_misfitMany 13 = .ok (.iconst 0, 1) := by decide +kernel
theorem dX9_misfitMany_14 : decode cX9_misfitMany 14 = .ok (.iaload, 1) := by decide +kernel
theorem dX9_misfitMany_15 : decode cX9_misfitMany 15 = .ok (.if_icmp .ge 33, 3) := by decide +kernel
theorem dX9_misfitMany_18 : decode cX9_misfitMany 18 = .ok (.iload_n 1, 1) := by decide +kernel
theorem dX9_misfitMany_19 : decode cX9_misfitMany 19 = .ok (.aload_n 0, 1) := by decide +kernel
theorem dX9_misfitMany_20 : decode cX9_misfitMany 20 = .ok (.iload_n 2, 1) := by decide +kernel
theorem dX9_misfitMany_21 : decode cX9_misfitMany 21 = .ok (.invokevirtual 146, 3) := by decide +kernel
theorem dX9_misfitMany_24 : decode cX9_misfitMany 24 = .ok (.ifCond .eq 15, 3) := by decide +kernel
theorem dX9_misfitMany_27 : decode cX9_misfitMany 27 = .ok (.aload_n 0, 1) := by decide +kernel
theorem dX9_misfitMany_28 : decode cX9_misfitMany 28 = .ok (.iload_n 2, 1) := by decide +kernel
theorem dX9_misfitMany_29 : decode cX9_misfitMany 29 = .ok (.invokevirtual 171, 3) := by decide +kernel
theorem dX9_misfitMany_32 : decode cX9_misfitMany 32 = .ok (.ifCond .ne 7, 3) := by decide +kernel
theorem dX9_misfitMany_35 : decode cX9_misfitMany 35 = .ok (.iconst 1, 1) := by decide +kernel
theorem dX9_misfitMany_36 : decode cX9_misfitMany 36 = .ok (.goto 4, 3) := by decide +kernel
theorem dX9_misfitMany_39 : decode cX9_misfitMany 39 = .ok (.iconst 0, 1) := by decide +kernel
theorem dX9_misfitMany_40 : decode cX9_misfitMany 40 = .ok (.iadd, 1) := by decide +kernel
theorem dX9_misfitMany_41 : decode cX9_misfitMany 41 = .ok (.istore_n 1, 1) := by decide +kernel
theorem dX9_misfitMany_42 : decode cX9_misfitMany 42 = .ok (.iinc 2 1, 3) := by decide +kernel
theorem dX9_misfitMany_45 : decode cX9_misfitMany 45 = .ok (.goto (-37), 3) := by decide +kernel
theorem dX9_misfitMany_48 : decode cX9_misfitMany 48 = .ok (.iload_n 1, 1) := by decide +kernel
theorem dX9_misfitMany_49 : decode cX9_misfitMany 49 = .ok (.ireturn, 1) := by decide +kernel
theorem dX9_misfits_0 : decode cX9_misfits 0 = .ok (.aload_n 0, 1) := by decide +kernel
theorem dX9_misfits_1 : decode cX9_misfits 1 = .ok (.invokevirtual 159, 3) := by decide +kernel
theorem dX9_misfits_4 : decode cX9_misfits 4 = .ok (.ifCond .le 11, 3) := by decide +kernel
theorem dX9_misfits_7 : decode cX9_misfits 7 = .ok (.aload_n 0, 1) := by decide +kernel
theorem dX9_misfits_8 : decode cX9_misfits 8 = .ok (.iconst 1, 1) := by decide +kernel
theorem dX9_misfits_9 : decode cX9_misfits 9 = .ok (.invokevirtual 93, 3) := by decide +kernel
theorem dX9_misfits_12 : decode cX9_misfits 12 = .ok (.goto 11, 3) := by decide +kernel
