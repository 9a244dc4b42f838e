theorem dL_append_0 : decode cL_append 0 = .ok (.aload_n 2, 1) := by decide +kernel
theorem dL_append_1 : decode cL_append 1 = .ok (.iconst 0, 1) := by decide +kernel
theorem dL_append_2 : decode cL_append 2 = .ok (.aload_n 0, 1) := by decide +kernel
theorem dL_append_3 : decode cL_append 3 = .ok (.iload_n 1, 1) := by decide +kernel
theorem dL_append_4 : decode cL_append 4 = .ok (.invokevirtual 7, 3) := by decide +kernel
theorem dL_append_7 : decode cL_append 7 = .ok (.i2l, 1) := by decide +kernel
theorem dL_append_8 : decode cL_append 8 = .ok (.lastore, 1) := by decide +kernel
theorem dL_append_9 : decode cL_append 9 = .ok (.goto 9, 3) := by decide +kernel
theorem dL_append_12 : decode cL_append 12 = .ok (.astore_n 3, 1) := by decide +kernel
theorem dL_append_13 : decode cL_append 13 = .ok (.iconst 1, 1) := by decide +kernel
theorem dL_append_14 : decode cL_append 14 = .ok (.ireturn, 1) := by decide +kernel
theorem dL_append_15 : decode cL_append 15 = .ok (.astore_n 3, 1) := by decide +kernel
theorem dL_append_16 : decode cL_append 16 = .ok (.iconst 2, 1) := by decide +kernel
theorem dL_append_17 : decode cL_append 17 = .ok (.ireturn, 1) := by decide +kernel
theorem dL_append_18 : decode cL_append 18 = .ok (.iconst 0, 1) := by decide +kernel
theorem dL_append_19 : decode cL_append 19 = .ok (.ireturn, 1) := by decide +kernel
theorem dL_insert_0 : decode cL_insert 0 = .ok (.aload_n 2, 1) := by decide +kernel
theorem dL_insert_1 : decode cL_insert 1 = .ok (.iconst 0, 1) := by decide +kernel
theorem dL_insert_2 : decode cL_insert 2 = .ok (.aload_n 0, 1) := by decide +kernel
theorem dL_insert_3 : decode cL_insert 3 = .ok (.iload_n 1, 1) := by decide +kernel
theorem dL_insert_4 : decode cL_insert 4 = .ok (.invokevirtual 17, 3) := by decide +kernel
theorem dL_insert_7 : decode cL_insert 7 = .ok (.i2l, 1) := by decide +kernel
theorem dL_insert_8 : decode cL_insert 8 = .ok (.lastore, 1) := by decide +kernel
theorem dL_insert_9 : decode cL_insert 9 = .ok (.goto 12, 3) := by decide +kernel
theorem dL_insert_12 : decode cL_insert 12 = .ok (.astore_n 3, 1) := by decide +kernel
theorem dL_insert_13 : decode cL_insert 13 = .ok (.iconst 1, 1) := by decide +kernel
theorem dL_insert_14 : decode cL_insert 14 = .ok (.ireturn, 1) := by decide +kernel
theorem dL_insert_15 : decode cL_insert 15 = .ok (.astore_n 3, 1) := by decide +kernel
theorem dL_insert_16 : decode cL_insert 16 = .ok (.iconst 2, 1) := by decide +kernel
theorem dL_insert_17 : decode cL_insert 17 = .ok (.ireturn, 1) := by decide +kernel
theorem dL_insert_18 : decode cL_insert 18 = .ok (.astore_n 3, 1) := by decide +kernel
theorem dL_insert_19 : decode cL_insert 19 = .ok (.iconst 3, 1) := by decide +kernel
theorem dL_insert_20 : decode cL_insert 20 = .ok (.ireturn, 1) := by decide +kernel
theorem dL_insert_21 : decode cL_insert 21 = .ok (.iconst 0, 1) := by decide +kernel
theorem dL_insert_22 : decode cL_insert 22 = .ok (.ireturn, 1) := by decide +kernel
theorem dL_errorPosition_0 : decode cL_errorPosition 0 = .ok (.aload_n 1, 1) := by decide +kernel
theorem dL_errorPosition_1 : decode cL_errorPosition 1 = .ok (.iconst 0, 1) := by decide +kernel
theorem dL_errorPosition_2 : decode cL_errorPosition 2 = .ok (.aload_n 0, 1) := by decide +kernel
theorem dL_errorPosition_3 : decode cL_errorPosition 3 = .ok (.invokevirtual 23, 3) := by decide +kernel
theorem dL_errorPosition_6 : decode cL_errorPosition 6 = .ok (.i2l, 1) := by decide +kernel
theorem dL_errorPosition_7 : decode cL_errorPosition 7 = .ok (.lastore, 1) := by decide +kernel
theorem dL_errorPosition_8 : decode cL_errorPosition 8 = .ok (.goto 6, 3) := by decide +kernel
theorem dL_errorPosition_11 : decode cL_errorPosition 11 = .ok (.astore_n 2, 1) := by decide +kernel
theorem dL_errorPosition_12 : decode cL_errorPosition 12 = .ok (.iconst 1, 1) := by decide +kernel
theorem dL_errorPosition_13 : decode cL_errorPosition 13 = .ok (.ireturn, 1) := by decide +kernel
theorem dL_errorPosition_14 : decode cL_errorPosition 14 = .ok (.iconst 0, 1) := by decide +kernel
theorem dL_errorPosition_15 : decode cL_errorPosition 15 = .ok (.ireturn, 1) := by decide +kernel
theorem dL_remove_0 : decode cL_remove 0 = .ok (.aload_n 2, 1) := by decide +kernel
theorem dL_remove_1 : decode cL_remove 1 = .ok (.iconst 0, 1) := by decide +kernel
theorem dL_remove_2 : decode cL_remove 2 = .ok (.aload_n 0, 1) := by decide +kernel
theorem dL_remove_3 : decode cL_remove 3 = .ok (.iload_n 1, 1) := by decide +kernel
theorem dL_remove_4 : decode cL_remove 4 = .ok (.invokevirtual 29, 3) := by decide +kernel
theorem dL_remove_7 : decode cL_remove 7 = .ok (.i2l, 1) := by decide +kernel
theorem dL_remove_8 : decode cL_remove 8 = .ok (.lastore, 1) := by decide +kernel
theorem dL_remove_9 : decode cL_remove 9 = .ok (.goto 6, 3) := by decide +kernel
theorem dL_remove_12 : decode cL_remove 12 = .ok (.astore_n 3, 1) := by decide +kernel
theorem dL_remove_13 : decode cL_remove 13 = .ok (.iconst 1, 1) := by decide +kernel
theorem dL_remove_14 : decode cL_remove 14 = .ok (.ireturn, 1) := by decide +kernel
theorem dL_remove_15 : decode cL_remove 15 = .ok (.iconst 0, 1) := by decide +kernel
theorem dL_remove_16 : decode cL_remove 16 = .ok (.ireturn, 1) := by decide +kernel
theorem dL_move_0 : decode cL_move 0 = .ok (.aload_n 3, 1) := by decide +kernel
theorem dL_move_1 : decode cL_move 1 = .ok (.iconst 0, 1) := by decide +kernel
theorem dL_move_2 : decode cL_move 2 = .ok (.aload_n 0, 1) := by decide +kernel
theorem dL_move_3 : decode cL_move 3 = .ok (.iload_n 1, 1) := by decide +kernel
theorem dL_move_4 : decode cL_move 4 = .ok (.iload_n 2, 1) := by decide +kernel
theorem dL_move_5 : decode cL_move 5 = .ok (.invokevirtual 32, 3) := by decide +kernel
theorem dL_move_8 : decode cL_move 8 = .ok (.i2l, 1) := by decide +kernel
theorem dL_move_9 : decode cL_move 9 = .ok (.lastore, 1) := by decide +kernel
theorem dL_move_10 : decode cL_move 10 = .ok (.goto 7, 3) := by decide +kernel
theorem dL_move_13 : decode cL_move 13 = .ok (.astore 4, 2) := by decide +kernel
theorem dL_move_15 : decode cL_move 15 = .ok (.iconst 1, 1) := by decide +kernel
theorem dL_move_16 : decode cL_move 16 = .ok (.ireturn, 1) := by decide +kernel
theorem dL_move_17 : decode cL_move 17 = .ok (.iconst 0, 1) := by decide +kernel
theorem dL_move_18 : decode cL_move 18 = .ok (.ireturn, 1) := by decide +kernel
theorem dL_item_0 : decode cL_item 0 = .ok (.aload_n 3, 1) := by decide +kernel
theorem dL_item_1 : decode cL_item 1 = .ok (.iconst 0, 1) := by decide +kernel
theorem dL_item_2 : decode cL_item 2 = .ok (.aload_n 0, 1) := by decide +kernel
theorem dL_item_3 : decode cL_item 3 = .ok (.iload_n 1, 1) := by decide +kernel
theorem dL_item_4 : decode cL_item 4 = .ok (.iload_n 2, 1) := by decide +kernel
theorem dL_item_5 : decode cL_item 5 = .ok (.invokevirtual 36, 3) := by decide +kernel
theorem dL_item_8 : decode cL_item 8 = .ok (.i2l, 1) := by decide +kernel
theorem dL_item_9 : decode cL_item 9 = .ok (.lastore, 1) := by decide +kernel
theorem dL_item_10 : decode cL_item 10 = .ok (.goto 11, 3) := by decide +kernel
theorem dL_item_13 : decode cL_item 13 = .ok (.astore 4, 2) := by decide +kernel
theorem dL_item_15 : decode cL_item 15 = .ok (.iconst 1, 1) := by decide +kernel
theorem dL_item_16 : decode cL_item 16 = .ok (.ireturn, 1) := by decide +kernel
theorem dL_item_17 : decode cL_item 17 = .ok (.astore 4, 2) := by decide +kernel
theorem dL_item_19 : decode cL_item 19 = .ok (.iconst 2, 1) := by decide +kernel
theorem dL_item_20 : decode cL_item 20 = .ok (.ireturn, 1) := by decide +kernel
theorem dL_item_21 : decode cL_item 21 = .ok (.iconst 0, 1) := by decide +kernel
theorem dL_item_22 : decode cL_item 22 = .ok (.ireturn, 1) := by decide +kernel
theorem dL_nameCharacter_0 : decode cL_nameCharacter 0 = .ok (.aload_n 3, 1) := by decide +kernel
theorem dL_nameCharacter_1 : decode cL_nameCharacter 1 = .ok (.iconst 0, 1) := by decide +kernel
theorem dL_nameCharacter_2 : decode cL_nameCharacter 2 = .ok (.aload_n 0, 1) := by decide +kernel
theorem dL_nameCharacter_3 : decode cL_nameCharacter 3 = .ok (.iload_n 1, 1) := by decide +kernel
theorem dL_nameCharacter_4 : decode cL_nameCharacter 4 = .ok (.iload_n 2, 1) := by decide +kernel
theorem dL_nameCharacter_5 : decode cL_nameCharacter 5 = .ok (.invokevirtual 39, 3) := by decide +kernel
theorem dL_nameCharacter_8 : decode cL_nameCharacter 8 = .ok (.i2l, 1) := by decide +kernel
theorem dL_nameCharacter_9 : decode cL_nameCharacter 9 = .ok (.lastore, 1) := by decide +kernel
theorem dL_nameCharacter_10 : decode cL_nameCharacter 10 = .ok (.goto 11, 3) := by decide +kernel
theorem dL_nameCharacter_13 : decode cL_nameCharacter 13 = .ok (.astore 4, 2) := by decide +kernel
theorem dL_nameCharacter_15 : decode cL_nameCharacter 15 = .ok (.iconst 1, 1) := by decide +kernel
theorem dL_nameCharacter_16 : decode cL_nameCharacter 16 = .ok (.ireturn, 1) := by decide +kernel
theorem dL_nameCharacter_17 : decode cL_nameCharacter 17 = .ok (.astore 4, 2) := by decide +kernel
theorem dL_nameCharacter_19 : decode cL_nameCharacter 19 = .ok (.iconst 2, 1) := by decide +kernel
theorem dL_nameCharacter_20 : decode cL_nameCharacter 20 = .ok (.ireturn, 1) := by decide +kernel
theorem dL_nameCharacter_21 : decode cL_nameCharacter 21 = .ok (.iconst 0, 1) := by decide +kernel
theorem dL_nameCharacter_22 : decode cL_nameCharacter 22 = .ok (.ireturn, 1) := by decide +kernel
theorem dL_setForm_0 : decode cL_setForm 0 = .ok (.aload_n 3, 1) := by decide +kernel
theorem dL_setForm_1 : decode cL_setForm 1 = .ok (.iconst 0, 1) := by decide +kernel
theorem dL_setForm_2 : decode cL_setForm 2 = .ok (.aload_n 0, 1) := by decide +kernel
theorem dL_setForm_3 : decode cL_setForm 3 = .ok (.iload_n 1, 1) := by decide +kernel
theorem dL_setForm_4 : decode cL_setForm 4 = .ok (.iload_n 2, 1) := by decide +kernel
theorem dL_setForm_5 : decode cL_setForm 5 = .ok (.invokevirtual 43, 3) := by decide +kernel
theorem dL_setForm_8 : decode cL_setForm 8 = .ok (.i2l, 1) := by decide +kernel
theorem dL_setForm_9 : decode cL_setForm 9 = .ok (.lastore, 1) := by decide +kernel
theorem dL_setForm_10 : decode cL_setForm 10 = .ok (.goto 11, 3) := by decide +kernel
theorem dL_setForm_13 : decode cL_setForm 13 = .ok (.astore 4, 2) := by decide +kernel
theorem dL_setForm_15 : decode cL_setForm 15 = .ok (.iconst 1, 1) := by decide +kernel
theorem dL_setForm_16 : decode cL_setForm 16 = .ok (.ireturn, 1) := by decide +kernel
theorem dL_setForm_17 : decode cL_setForm 17 = .ok (.astore 4, 2) := by decide +kernel
theorem dL_setForm_19 : decode cL_setForm 19 = .ok (.iconst 2, 1) := by decide +kernel
theorem dL_setForm_20 : decode cL_setForm 20 = .ok (.ireturn, 1) := by decide +kernel
theorem dL_setForm_21 : decode cL_setForm 21 = .ok (.iconst 0, 1) := by decide +kernel
theorem dL_setForm_22 : decode cL_setForm 22 = .ok (.ireturn, 1) := by decide +kernel
theorem dL_labelAddress_0 : decode cL_labelAddress 0 = .ok (.aload_n 2, 1) := by decide +kernel
theorem dL_labelAddress_1 : decode cL_labelAddress 1 = .ok (.iconst 0, 1) := by decide +kernel
theorem dL_labelAddress_2 : decode cL_labelAddress 2 = .ok (.aload_n 0, 1) := by decide +kernel
theorem dL_labelAddress_3 : decode cL_labelAddress 3 = .ok (.iload_n 1, 1) := by decide +kernel
theorem dL_labelAddress_4 : decode cL_labelAddress 4 = .ok (.invokevirtual 46, 3) := by decide +kernel
theorem dL_labelAddress_7 : decode cL_labelAddress 7 = .ok (.i2l, 1) := by decide +kernel
theorem dL_labelAddress_8 : decode cL_labelAddress 8 = .ok (.lastore, 1) := by decide +kernel
theorem dL_labelAddress_9 : decode cL_labelAddress 9 = .ok (.goto 9, 3) := by decide +kernel
theorem dL_labelAddress_12 : decode cL_labelAddress 12 = .ok (.astore_n 3, 1) := by decide +kernel
theorem dL_labelAddress_13 : decode cL_labelAddress 13 = .ok (.iconst 1, 1) := by decide +kernel
theorem dL_labelAddress_14 : decode cL_labelAddress 14 = .ok (.ireturn, 1) := by decide +kernel
theorem dL_labelAddress_15 : decode cL_labelAddress 15 = .ok (.astore_n 3, 1) := by decide +kernel
theorem dL_labelAddress_16 : decode cL_labelAddress 16 = .ok (.iconst 2, 1) := by decide +kernel
theorem dL_labelAddress_17 : decode cL_labelAddress 17 = .ok (.ireturn, 1) := by decide +kernel
theorem dL_labelAddress_18 : decode cL_labelAddress 18 = .ok (.iconst 0, 1) := by decide +kernel
theorem dL_labelAddress_19 : decode cL_labelAddress 19 = .ok (.ireturn, 1) := by decide +kernel
theorem dL_itemAt_0 : decode cL_itemAt 0 = .ok (.aload_n 2, 1) := by decide +kernel
theorem dL_itemAt_1 : decode cL_itemAt 1 = .ok (.iconst 0, 1) := by decide +kernel
theorem dL_itemAt_2 : decode cL_itemAt 2 = .ok (.aload_n 0, 1) := by decide +kernel
theorem dL_itemAt_3 : decode cL_itemAt 3 = .ok (.iload_n 1, 1) := by decide +kernel
theorem dL_itemAt_4 : decode cL_itemAt 4 = .ok (.invokevirtual 49, 3) := by decide +kernel
theorem dL_itemAt_7 : decode cL_itemAt 7 = .ok (.i2l, 1) := by decide +kernel
theorem dL_itemAt_8 : decode cL_itemAt 8 = .ok (.lastore, 1) := by decide +kernel
theorem dL_itemAt_9 : decode cL_itemAt 9 = .ok (.goto 6, 3) := by decide +kernel
theorem dL_itemAt_12 : decode cL_itemAt 12 = .ok (.astore_n 3, 1) := by decide +kernel
theorem dL_itemAt_13 : decode cL_itemAt 13 = .ok (.iconst 1, 1) := by decide +kernel
theorem dL_itemAt_14 : decode cL_itemAt 14 = .ok (.ireturn, 1) := by decide +kernel
theorem dL_itemAt_15 : decode cL_itemAt 15 = .ok (.iconst 0, 1) := by decide +kernel
theorem dL_itemAt_16 : decode cL_itemAt 16 = .ok (.ireturn, 1) := by decide +kernel
theorem dL_addressIf_0 : decode cL_addressIf 0 = .ok (.aload_n 3, 1) := by decide +kernel
theorem dL_addressIf_1 : decode cL_addressIf 1 = .ok (.iconst 0, 1) := by decide +kernel
theorem dL_addressIf_2 : decode cL_addressIf 2 = .ok (.aload_n 0, 1) := by decide +kernel
theorem dL_addressIf_3 : decode cL_addressIf 3 = .ok (.iload_n 1, 1) := by decide +kernel
theorem dL_addressIf_4 : decode cL_addressIf 4 = .ok (.iload_n 2, 1) := by decide +kernel
theorem dL_addressIf_5 : decode cL_addressIf 5 = .ok (.invokevirtual 52, 3) := by decide +kernel
theorem dL_addressIf_8 : decode cL_addressIf 8 = .ok (.i2l, 1) := by decide +kernel
theorem dL_addressIf_9 : decode cL_addressIf 9 = .ok (.lastore, 1) := by decide +kernel
theorem dL_addressIf_10 : decode cL_addressIf 10 = .ok (.goto 11, 3) := by decide +kernel
theorem dL_addressIf_13 : decode cL_addressIf 13 = .ok (.astore 4, 2) := by decide +kernel
theorem dL_addressIf_15 : decode cL_addressIf 15 = .ok (.iconst 1, 1) := by decide +kernel
theorem dL_addressIf_16 : decode cL_addressIf 16 = .ok (.ireturn, 1) := by decide +kernel
theorem dL_addressIf_17 : decode cL_addressIf 17 = .ok (.astore 4, 2) := by decide +kernel
theorem dL_addressIf_19 : decode cL_addressIf 19 = .ok (.iconst 2, 1) := by decide +kernel
theorem dL_addressIf_20 : decode cL_addressIf 20 = .ok (.ireturn, 1) := by decide +kernel
theorem dL_addressIf_21 : decode cL_addressIf 21 = .ok (.iconst 0, 1) := by decide +kernel
theorem dL_addressIf_22 : decode cL_addressIf 22 = .ok (.ireturn, 1) := by decide +kernel
theorem dL_possibleAddresses_0 : decode cL_possibleAddresses 0 = .ok (.aload_n 2, 1) := by decide +kernel
theorem dL_possibleAddresses_1 : decode cL_possibleAddresses 1 = .ok (.iconst 0, 1) := by decide +kernel
theorem dL_possibleAddresses_2 : decode cL_possibleAddresses 2 = .ok (.aload_n 0, 1) := by decide +kernel
theorem dL_possibleAddresses_3 : decode cL_possibleAddresses 3 = .ok (.iload_n 1, 1) := by decide +kernel
theorem dL_possibleAddresses_4 : decode cL_possibleAddresses 4 = .ok (.invokevirtual 55, 3) := by decide +kernel
theorem dL_possibleAddresses_7 : decode cL_possibleAddresses 7 = .ok (.i2l, 1) := by decide +kernel
theorem dL_possibleAddresses_8 : decode cL_possibleAddresses 8 = .ok (.lastore, 1) := by decide +kernel
theorem dL_possibleAddresses_9 : decode cL_possibleAddresses 9 = .ok (.goto 6, 3) := by decide +kernel
theorem dL_possibleAddresses_12 : decode cL_possibleAddresses 12 = .ok (.astore_n 3, 1) := by decide +kernel
theorem dL_possibleAddresses_13 : decode cL_possibleAddresses 13 = .ok (.iconst 1, 1) := by decide +kernel
theorem dL_possibleAddresses_14 : decode cL_possibleAddresses 14 = .ok (.ireturn, 1) := by decide +kernel
theorem dL_possibleAddresses_15 : decode cL_possibleAddresses 15 = .ok (.iconst 0, 1) := by decide +kernel
theorem dL_possibleAddresses_16 : decode cL_possibleAddresses 16 = .ok (.ireturn, 1) := by decide +kernel
theorem dL_formCount_0 : decode cL_formCount 0 = .ok (.aload_n 2, 1) := by decide +kernel
theorem dL_formCount_1 : decode cL_formCount 1 = .ok (.iconst 0, 1) := by decide +kernel
theorem dL_formCount_2 : decode cL_formCount 2 = .ok (.aload_n 0, 1) := by decide +kernel
theorem dL_formCount_3 : decode cL_formCount 3 = .ok (.iload_n 1, 1) := by decide +kernel
theorem dL_formCount_4 : decode cL_formCount 4 = .ok (.invokevirtual 58, 3) := by decide +kernel
theorem dL_formCount_7 : decode cL_formCount 7 = .ok (.i2l, 1) := by decide +kernel
theorem dL_formCount_8 : decode cL_formCount 8 = .ok (.lastore, 1) := by decide +kernel
theorem dL_formCount_9 : decode cL_formCount 9 = .ok (.goto 6, 3) := by decide +kernel
theorem dL_formCount_12 : decode cL_formCount 12 = .ok (.astore_n 3, 1) := by decide +kernel
theorem dL_formCount_13 : decode cL_formCount 13 = .ok (.iconst 1, 1) := by decide +kernel
theorem dL_formCount_14 : decode cL_formCount 14 = .ok (.ireturn, 1) := by decide +kernel
theorem dL_formCount_15 : decode cL_formCount 15 = .ok (.iconst 0, 1) := by decide +kernel
theorem dL_formCount_16 : decode cL_formCount 16 = .ok (.ireturn, 1) := by decide +kernel
theorem dL_displacement_0 : decode cL_displacement 0 = .ok (.aload_n 2, 1) := by decide +kernel
theorem dL_displacement_1 : decode cL_displacement 1 = .ok (.iconst 0, 1) := by decide +kernel
theorem dL_displacement_2 : decode cL_displacement 2 = .ok (.aload_n 0, 1) := by decide +kernel
theorem dL_displacement_3 : decode cL_displacement 3 = .ok (.iload_n 1, 1) := by decide +kernel
theorem dL_displacement_4 : decode cL_displacement 4 = .ok (.invokevirtual 61, 3) := by decide +kernel
theorem dL_displacement_7 : decode cL_displacement 7 = .ok (.i2l, 1) := by decide +kernel
theorem dL_displacement_8 : decode cL_displacement 8 = .ok (.lastore, 1) := by decide +kernel
theorem dL_displacement_9 : decode cL_displacement 9 = .ok (.goto 12, 3) := by decide +kernel
theorem dL_displacement_12 : decode cL_displacement 12 = .ok (.astore_n 3, 1) := by decide +kernel
theorem dL_displacement_13 : decode cL_displacement 13 = .ok (.iconst 1, 1) := by decide +kernel
theorem dL_displacement_14 : decode cL_displacement 14 = .ok (.ireturn, 1) := by decide +kernel
theorem dL_displacement_15 : decode cL_displacement 15 = .ok (.astore_n 3, 1) := by decide +kernel
theorem dL_displacement_16 : decode cL_displacement 16 = .ok (.iconst 2, 1) := by decide +kernel
theorem dL_displacement_17 : decode cL_displacement 17 = .ok (.ireturn, 1) := by decide +kernel
theorem dL_displacement_18 : decode cL_displacement 18 = .ok (.astore_n 3, 1) := by decide +kernel
theorem dL_displacement_19 : decode cL_displacement 19 = .ok (.iconst 3, 1) := by decide +kernel
theorem dL_displacement_20 : decode cL_displacement 20 = .ok (.ireturn, 1) := by decide +kernel
theorem dL_displacement_21 : decode cL_displacement 21 = .ok (.iconst 0, 1) := by decide +kernel
theorem dL_displacement_22 : decode cL_displacement 22 = .ok (.ireturn, 1) := by decide +kernel
theorem dL_fits_0 : decode cL_fits 0 = .ok (.aload_n 2, 1) := by decide +kernel
theorem dL_fits_1 : decode cL_fits 1 = .ok (.iconst 0, 1) := by decide +kernel
theorem dL_fits_2 : decode cL_fits 2 = .ok (.aload_n 0, 1) := by decide +kernel
theorem dL_fits_3 : decode cL_fits 3 = .ok (.iload_n 1, 1) := by decide +kernel
theorem dL_fits_4 : decode cL_fits 4 = .ok (.invokevirtual 64, 3) := by decide +kernel
theorem dL_fits_7 : decode cL_fits 7 = .ok (.ifCond .eq 7, 3) := by decide +kernel
theorem dL_fits_10 : decode cL_fits 10 = .ok (.lconst 1, 1) := by decide +kernel
theorem dL_fits_11 : decode cL_fits 11 = .ok (.goto 4, 3) := by decide +kernel
theorem dL_fits_14 : decode cL_fits 14 = .ok (.lconst 0, 1) := by decide +kernel
theorem dL_fits_15 : decode cL_fits 15 = .ok (.lastore, 1) := by decide +kernel
theorem dL_fits_16 : decode cL_fits 16 = .ok (.goto 12, 3) := by decide +kernel
theorem dL_fits_19 : decode cL_fits 19 = .ok (.astore_n 3, 1) := by decide +kernel
theorem dL_fits_20 : decode cL_fits 20 = .ok (.iconst 1, 1) := by decide +kernel
theorem dL_fits_21 : decode cL_fits 21 = .ok (.ireturn, 1) := by decide +kernel
theorem dL_fits_22 : decode cL_fits 22 = .ok (.astore_n 3, 1) := by decide +kernel
theorem dL_fits_23 : decode cL_fits 23 = .ok (.iconst 2, 1) := by decide +kernel
theorem dL_fits_24 : decode cL_fits 24 = .ok (.ireturn, 1) := by decide +kernel
theorem dL_fits_25 : decode cL_fits 25 = .ok (.astore_n 3, 1) := by decide +kernel
theorem dL_fits_26 : decode cL_fits 26 = .ok (.iconst 3, 1) := by decide +kernel
theorem dL_fits_27 : decode cL_fits 27 = .ok (.ireturn, 1) := by decide +kernel
theorem dL_fits_28 : decode cL_fits 28 = .ok (.iconst 0, 1) := by decide +kernel
theorem dL_fits_29 : decode cL_fits 29 = .ok (.ireturn, 1) := by decide +kernel
theorem dL_misfits_0 : decode cL_misfits 0 = .ok (.aload_n 1, 1) := by decide +kernel
theorem dL_misfits_1 : decode cL_misfits 1 = .ok (.iconst 0, 1) := by decide +kernel
theorem dL_misfits_2 : decode cL_misfits 2 = .ok (.aload_n 0, 1) := by decide +kernel
theorem dL_misfits_3 : decode cL_misfits 3 = .ok (.invokevirtual 68, 3) := by decide +kernel
theorem dL_misfits_6 : decode cL_misfits 6 = .ok (.i2l, 1) := by decide +kernel
theorem dL_misfits_7 : decode cL_misfits 7 = .ok (.lastore, 1) := by decide +kernel
theorem dL_misfits_8 : decode cL_misfits 8 = .ok (.goto 6, 3) := by decide +kernel
theorem dL_misfits_11 : decode cL_misfits 11 = .ok (.astore_n 2, 1) := by decide +kernel
theorem dL_misfits_12 : decode cL_misfits 12 = .ok (.iconst 1, 1) := by decide +kernel
theorem dL_misfits_13 : decode cL_misfits 13 = .ok (.ireturn, 1) := by decide +kernel
theorem dL_misfits_14 : decode cL_misfits 14 = .ok (.iconst 0, 1) := by decide +kernel
theorem dL_misfits_15 : decode cL_misfits 15 = .ok (.ireturn, 1) := by decide +kernel
theorem dL_neededForm_0 : decode cL_neededForm 0 = .ok (.aload_n 2, 1) := by decide +kernel
theorem dL_neededForm_1 : decode cL_neededForm 1 = .ok (.iconst 0, 1) := by decide +kernel
theorem dL_neededForm_2 : decode cL_neededForm 2 = .ok (.aload_n 0, 1) := by decide +kernel
theorem dL_neededForm_3 : decode cL_neededForm 3 = .ok (.iload_n 1, 1) := by decide +kernel
theorem dL_neededForm_4 : decode cL_neededForm 4 = .ok (.invokevirtual 71, 3) := by decide +kernel
theorem dL_neededForm_7 : decode cL_neededForm 7 = .ok (.i2l, 1) := by decide +kernel
theorem dL_neededForm_8 : decode cL_neededForm 8 = .ok (.lastore, 1) := by decide +kernel
theorem dL_neededForm_9 : decode cL_neededForm 9 = .ok (.goto 12, 3) := by decide +kernel
theorem dL_neededForm_12 : decode cL_neededForm 12 = .ok (.astore_n 3, 1) := by decide +kernel
theorem dL_neededForm_13 : decode cL_neededForm 13 = .ok (.iconst 1, 1) := by decide +kernel
theorem dL_neededForm_14 : decode cL_neededForm 14 = .ok (.ireturn, 1) := by decide +kernel
theorem dL_neededForm_15 : decode cL_neededForm 15 = .ok (.astore_n 3, 1) := by decide +kernel
theorem dL_neededForm_16 : decode cL_neededForm 16 = .ok (.iconst 2, 1) := by decide +kernel
theorem dL_neededForm_17 : decode cL_neededForm 17 = .ok (.ireturn, 1) := by decide +kernel
theorem dL_neededForm_18 : decode cL_neededForm 18 = .ok (.astore_n 3, 1) := by decide +kernel
theorem dL_neededForm_19 : decode cL_neededForm 19 = .ok (.iconst 3, 1) := by decide +kernel
theorem dL_neededForm_20 : decode cL_neededForm 20 = .ok (.ireturn, 1) := by decide +kernel
theorem dL_neededForm_21 : decode cL_neededForm 21 = .ok (.iconst 0, 1) := by decide +kernel
theorem dL_neededForm_22 : decode cL_neededForm 22 = .ok (.ireturn, 1) := by decide +kernel
theorem dL_relax_0 : decode cL_relax 0 = .ok (.aload_n 1, 1) := by decide +kernel
theorem dL_relax_1 : decode cL_relax 1 = .ok (.iconst 0, 1) := by decide +kernel
theorem dL_relax_2 : decode cL_relax 2 = .ok (.aload_n 0, 1) := by decide +kernel
theorem dL_relax_3 : decode cL_relax 3 = .ok (.invokevirtual 74, 3) := by decide +kernel
theorem dL_relax_6 : decode cL_relax 6 = .ok (.i2l, 1) := by decide +kernel
theorem dL_relax_7 : decode cL_relax 7 = .ok (.lastore, 1) := by decide +kernel
theorem dL_relax_8 : decode cL_relax 8 = .ok (.goto 6, 3) := by decide +kernel
theorem dL_relax_11 : decode cL_relax 11 = .ok (.astore_n 2, 1) := by decide +kernel
theorem dL_relax_12 : decode cL_relax 12 = .ok (.iconst 1, 1) := by decide +kernel
theorem dL_relax_13 : decode cL_relax 13 = .ok (.ireturn, 1) := by decide +kernel
theorem dL_relax_14 : decode cL_relax 14 = .ok (.iconst 0, 1) := by decide +kernel
theorem dL_relax_15 : decode cL_relax 15 = .ok (.ireturn, 1) := by decide +kernel
theorem dL_shrink_0 : decode cL_shrink 0 = .ok (.aload_n 1, 1) := by decide +kernel
theorem dL_shrink_1 : decode cL_shrink 1 = .ok (.iconst 0, 1) := by decide +kernel
theorem dL_shrink_2 : decode cL_shrink 2 = .ok (.aload_n 0, 1) := by decide +kernel
theorem dL_shrink_3 : decode cL_shrink 3 = .ok (.invokevirtual 77, 3) := by decide +kernel
theorem dL_shrink_6 : decode cL_shrink 6 = .ok (.i2l, 1) := by decide +kernel
theorem dL_shrink_7 : decode cL_shrink 7 = .ok (.lastore, 1) := by decide +kernel
theorem dL_shrink_8 : decode cL_shrink 8 = .ok (.goto 6, 3) := by decide +kernel
theorem dL_shrink_11 : decode cL_shrink 11 = .ok (.astore_n 2, 1) := by decide +kernel
theorem dL_shrink_12 : decode cL_shrink 12 = .ok (.iconst 1, 1) := by decide +kernel
theorem dL_shrink_13 : decode cL_shrink 13 = .ok (.ireturn, 1) := by decide +kernel
theorem dL_shrink_14 : decode cL_shrink 14 = .ok (.iconst 0, 1) := by decide +kernel
theorem dL_shrink_15 : decode cL_shrink 15 = .ok (.ireturn, 1) := by decide +kernel
theorem dL_leastSize_0 : decode cL_leastSize 0 = .ok (.aload_n 1, 1) := by decide +kernel
theorem dL_leastSize_1 : decode cL_leastSize 1 = .ok (.iconst 0, 1) := by decide +kernel
theorem dL_leastSize_2 : decode cL_leastSize 2 = .ok (.aload_n 0, 1) := by decide +kernel
theorem dL_leastSize_3 : decode cL_leastSize 3 = .ok (.invokevirtual 80, 3) := by decide +kernel
theorem dL_leastSize_6 : decode cL_leastSize 6 = .ok (.i2l, 1) := by decide +kernel
theorem dL_leastSize_7 : decode cL_leastSize 7 = .ok (.lastore, 1) := by decide +kernel
theorem dL_leastSize_8 : decode cL_leastSize 8 = .ok (.goto 9, 3) := by decide +kernel
theorem dL_leastSize_11 : decode cL_leastSize 11 = .ok (.astore_n 2, 1) := by decide +kernel
theorem dL_leastSize_12 : decode cL_leastSize 12 = .ok (.iconst 1, 1) := by decide +kernel
theorem dL_leastSize_13 : decode cL_leastSize 13 = .ok (.ireturn, 1) := by decide +kernel
theorem dL_leastSize_14 : decode cL_leastSize 14 = .ok (.astore_n 2, 1) := by decide +kernel
theorem dL_leastSize_15 : decode cL_leastSize 15 = .ok (.iconst 2, 1) := by decide +kernel
theorem dL_leastSize_16 : decode cL_leastSize 16 = .ok (.ireturn, 1) := by decide +kernel
theorem dL_leastSize_17 : decode cL_leastSize 17 = .ok (.iconst 0, 1) := by decide +kernel
theorem dL_leastSize_18 : decode cL_leastSize 18 = .ok (.ireturn, 1) := by decide +kernel
theorem dL_optimize_0 : decode cL_optimize 0 = .ok (.aload_n 1, 1) := by decide +kernel
theorem dL_optimize_1 : decode cL_optimize 1 = .ok (.iconst 0, 1) := by decide +kernel
theorem dL_optimize_2 : decode cL_optimize 2 = .ok (.aload_n 0, 1) := by decide +kernel
theorem dL_optimize_3 : decode cL_optimize 3 = .ok (.invokevirtual 85, 3) := by decide +kernel
theorem dL_optimize_6 : decode cL_optimize 6 = .ok (.i2l, 1) := by decide +kernel
theorem dL_optimize_7 : decode cL_optimize 7 = .ok (.lastore, 1) := by decide +kernel
theorem dL_optimize_8 : decode cL_optimize 8 = .ok (.goto 9, 3) := by decide +kernel
theorem dL_optimize_11 : decode cL_optimize 11 = .ok (.astore_n 2, 1) := by decide +kernel
theorem dL_optimize_12 : decode cL_optimize 12 = .ok (.iconst 1, 1) := by decide +kernel
theorem dL_optimize_13 : decode cL_optimize 13 = .ok (.ireturn, 1) := by decide +kernel
theorem dL_optimize_14 : decode cL_optimize 14 = .ok (.astore_n 2, 1) := by decide +kernel
theorem dL_optimize_15 : decode cL_optimize 15 = .ok (.iconst 2, 1) := by decide +kernel
theorem dL_optimize_16 : decode cL_optimize 16 = .ok (.ireturn, 1) := by decide +kernel
theorem dL_optimize_17 : decode cL_optimize 17 = .ok (.iconst 0, 1) := by decide +kernel
theorem dL_optimize_18 : decode cL_optimize 18 = .ok (.ireturn, 1) := by decide +kernel
theorem dL_consistentChoices_0 : decode cL_consistentChoices 0 = .ok (.aload_n 1, 1) := by decide +kernel
theorem dL_consistentChoices_1 : decode cL_consistentChoices 1 = .ok (.iconst 0, 1) := by decide +kernel
theorem dL_consistentChoices_2 : decode cL_consistentChoices 2 = .ok (.aload_n 0, 1) := by decide +kernel
theorem dL_consistentChoices_3 : decode cL_consistentChoices 3 = .ok (.invokevirtual 88, 3) := by decide +kernel
theorem dL_consistentChoices_6 : decode cL_consistentChoices 6 = .ok (.i2l, 1) := by decide +kernel
theorem dL_consistentChoices_7 : decode cL_consistentChoices 7 = .ok (.lastore, 1) := by decide +kernel
theorem dL_consistentChoices_8 : decode cL_consistentChoices 8 = .ok (.goto 9, 3) := by decide +kernel
theorem dL_consistentChoices_11 : decode cL_consistentChoices 11 = .ok (.astore_n 2, 1) := by decide +kernel
theorem dL_consistentChoices_12 : decode cL_consistentChoices 12 = .ok (.iconst 1, 1) := by decide +kernel
theorem dL_consistentChoices_13 : decode cL_consistentChoices 13 = .ok (.ireturn, 1) := by decide +kernel
theorem dL_consistentChoices_14 : decode cL_consistentChoices 14 = .ok (.astore_n 2, 1) := by decide +kernel
theorem dL_consistentChoices_15 : decode cL_consistentChoices 15 = .ok (.iconst 2, 1) := by decide +kernel
theorem dL_consistentChoices_16 : decode cL_consistentChoices 16 = .ok (.ireturn, 1) := by decide +kernel
theorem dL_consistentChoices_17 : decode cL_consistentChoices 17 = .ok (.iconst 0, 1) := by decide +kernel
theorem dL_consistentChoices_18 : decode cL_consistentChoices 18 = .ok (.ireturn, 1) := by decide +kernel
theorem dL_averageForm_0 : decode cL_averageForm 0 = .ok (.aload_n 1, 1) := by decide +kernel
theorem dL_averageForm_1 : decode cL_averageForm 1 = .ok (.iconst 0, 1) := by decide +kernel
theorem dL_averageForm_2 : decode cL_averageForm 2 = .ok (.aload_n 0, 1) := by decide +kernel
theorem dL_averageForm_3 : decode cL_averageForm 3 = .ok (.invokevirtual 91, 3) := by decide +kernel
theorem dL_averageForm_6 : decode cL_averageForm 6 = .ok (.dastore, 1) := by decide +kernel
theorem dL_averageForm_7 : decode cL_averageForm 7 = .ok (.goto 6, 3) := by decide +kernel
theorem dL_averageForm_10 : decode cL_averageForm 10 = .ok (.astore_n 2, 1) := by decide +kernel
theorem dL_averageForm_11 : decode cL_averageForm 11 = .ok (.iconst 1, 1) := by decide +kernel
theorem dL_averageForm_12 : decode cL_averageForm 12 = .ok (.ireturn, 1) := by decide +kernel
theorem dL_averageForm_13 : decode cL_averageForm 13 = .ok (.iconst 0, 1) := by decide +kernel
theorem dL_averageForm_14 : decode cL_averageForm 14 = .ok (.ireturn, 1) := by decide +kernel
theorem dL_literalCount_0 : decode cL_literalCount 0 = .ok (.aload_n 2, 1) := by decide +kernel
theorem dL_literalCount_1 : decode cL_literalCount 1 = .ok (.iconst 0, 1) := by decide +kernel
theorem dL_literalCount_2 : decode cL_literalCount 2 = .ok (.aload_n 0, 1) := by decide +kernel
theorem dL_literalCount_3 : decode cL_literalCount 3 = .ok (.iload_n 1, 1) := by decide +kernel
theorem dL_literalCount_4 : decode cL_literalCount 4 = .ok (.invokevirtual 97, 3) := by decide +kernel
theorem dL_literalCount_7 : decode cL_literalCount 7 = .ok (.i2l, 1) := by decide +kernel
theorem dL_literalCount_8 : decode cL_literalCount 8 = .ok (.lastore, 1) := by decide +kernel
theorem dL_literalCount_9 : decode cL_literalCount 9 = .ok (.goto 6, 3) := by decide +kernel
theorem dL_literalCount_12 : decode cL_literalCount 12 = .ok (.astore_n 3, 1) := by decide +kernel
theorem dL_literalCount_13 : decode cL_literalCount 13 = .ok (.iconst 1, 1) := by decide +kernel
theorem dL_literalCount_14 : decode cL_literalCount 14 = .ok (.ireturn, 1) := by decide +kernel
theorem dL_literalCount_15 : decode cL_literalCount 15 = .ok (.iconst 0, 1) := by decide +kernel
theorem dL_literalCount_16 : decode cL_literalCount 16 = .ok (.ireturn, 1) := by decide +kernel
theorem dL_literal_0 : decode cL_literal 0 = .ok (.aload_n 3, 1) := by decide +kernel
theorem dL_literal_1 : decode cL_literal 1 = .ok (.iconst 0, 1) := by decide +kernel
theorem dL_literal_2 : decode cL_literal 2 = .ok (.aload_n 0, 1) := by decide +kernel
theorem dL_literal_3 : decode cL_literal 3 = .ok (.iload_n 1, 1) := by decide +kernel
theorem dL_literal_4 : decode cL_literal 4 = .ok (.iload_n 2, 1) := by decide +kernel
theorem dL_literal_5 : decode cL_literal 5 = .ok (.invokevirtual 100, 3) := by decide +kernel
theorem dL_literal_8 : decode cL_literal 8 = .ok (.i2l, 1) := by decide +kernel
theorem dL_literal_9 : decode cL_literal 9 = .ok (.lastore, 1) := by decide +kernel
theorem dL_literal_10 : decode cL_literal 10 = .ok (.goto 7, 3) := by decide +kernel
theorem dL_literal_13 : decode cL_literal 13 = .ok (.astore 4, 2) := by decide +kernel
theorem dL_literal_15 : decode cL_literal 15 = .ok (.iconst 1, 1) := by decide +kernel
theorem dL_literal_16 : decode cL_literal 16 = .ok (.ireturn, 1) := by decide +kernel
theorem dL_literal_17 : decode cL_literal 17 = .ok (.iconst 0, 1) := by decide +kernel
theorem dL_literal_18 : decode cL_literal 18 = .ok (.ireturn, 1) := by decide +kernel
theorem dL_literalAddress_0 : decode cL_literalAddress 0 = .ok (.aload_n 3, 1) := by decide +kernel
theorem dL_literalAddress_1 : decode cL_literalAddress 1 = .ok (.iconst 0, 1) := by decide +kernel
theorem dL_literalAddress_2 : decode cL_literalAddress 2 = .ok (.aload_n 0, 1) := by decide +kernel
theorem dL_literalAddress_3 : decode cL_literalAddress 3 = .ok (.iload_n 1, 1) := by decide +kernel
theorem dL_literalAddress_4 : decode cL_literalAddress 4 = .ok (.iload_n 2, 1) := by decide +kernel
theorem dL_literalAddress_5 : decode cL_literalAddress 5 = .ok (.invokevirtual 103, 3) := by decide +kernel
theorem dL_literalAddress_8 : decode cL_literalAddress 8 = .ok (.i2l, 1) := by decide +kernel
theorem dL_literalAddress_9 : decode cL_literalAddress 9 = .ok (.lastore, 1) := by decide +kernel
theorem dL_literalAddress_10 : decode cL_literalAddress 10 = .ok (.goto 7, 3) := by decide +kernel
theorem dL_literalAddress_13 : decode cL_literalAddress 13 = .ok (.astore 4, 2) := by decide +kernel
theorem dL_literalAddress_15 : decode cL_literalAddress 15 = .ok (.iconst 1, 1) := by decide +kernel
theorem dL_literalAddress_16 : decode cL_literalAddress 16 = .ok (.ireturn, 1) := by decide +kernel
theorem dL_literalAddress_17 : decode cL_literalAddress 17 = .ok (.iconst 0, 1) := by decide +kernel
theorem dL_literalAddress_18 : decode cL_literalAddress 18 = .ok (.ireturn, 1) := by decide +kernel
theorem dL_poolOf_0 : decode cL_poolOf 0 = .ok (.aload_n 2, 1) := by decide +kernel
theorem dL_poolOf_1 : decode cL_poolOf 1 = .ok (.iconst 0, 1) := by decide +kernel
theorem dL_poolOf_2 : decode cL_poolOf 2 = .ok (.aload_n 0, 1) := by decide +kernel
theorem dL_poolOf_3 : decode cL_poolOf 3 = .ok (.iload_n 1, 1) := by decide +kernel
theorem dL_poolOf_4 : decode cL_poolOf 4 = .ok (.invokevirtual 106, 3) := by decide +kernel
theorem dL_poolOf_7 : decode cL_poolOf 7 = .ok (.i2l, 1) := by decide +kernel
theorem dL_poolOf_8 : decode cL_poolOf 8 = .ok (.lastore, 1) := by decide +kernel
theorem dL_poolOf_9 : decode cL_poolOf 9 = .ok (.goto 9, 3) := by decide +kernel
theorem dL_poolOf_12 : decode cL_poolOf 12 = .ok (.astore_n 3, 1) := by decide +kernel
theorem dL_poolOf_13 : decode cL_poolOf 13 = .ok (.iconst 1, 1) := by decide +kernel
theorem dL_poolOf_14 : decode cL_poolOf 14 = .ok (.ireturn, 1) := by decide +kernel
theorem dL_poolOf_15 : decode cL_poolOf 15 = .ok (.astore_n 3, 1) := by decide +kernel
theorem dL_poolOf_16 : decode cL_poolOf 16 = .ok (.iconst 2, 1) := by decide +kernel
theorem dL_poolOf_17 : decode cL_poolOf 17 = .ok (.ireturn, 1) := by decide +kernel
theorem dL_poolOf_18 : decode cL_poolOf 18 = .ok (.iconst 0, 1) := by decide +kernel
theorem dL_poolOf_19 : decode cL_poolOf 19 = .ok (.ireturn, 1) := by decide +kernel
theorem dL_distance_0 : decode cL_distance 0 = .ok (.aload_n 2, 1) := by decide +kernel
theorem dL_distance_1 : decode cL_distance 1 = .ok (.iconst 0, 1) := by decide +kernel
theorem dL_distance_2 : decode cL_distance 2 = .ok (.aload_n 0, 1) := by decide +kernel
theorem dL_distance_3 : decode cL_distance 3 = .ok (.iload_n 1, 1) := by decide +kernel
theorem dL_distance_4 : decode cL_distance 4 = .ok (.invokevirtual 109, 3) := by decide +kernel
theorem dL_distance_7 : decode cL_distance 7 = .ok (.i2l, 1) := by decide +kernel
theorem dL_distance_8 : decode cL_distance 8 = .ok (.lastore, 1) := by decide +kernel
theorem dL_distance_9 : decode cL_distance 9 = .ok (.goto 9, 3) := by decide +kernel
theorem dL_distance_12 : decode cL_distance 12 = .ok (.astore_n 3, 1) := by decide +kernel
theorem dL_distance_13 : decode cL_distance 13 = .ok (.iconst 1, 1) := by decide +kernel
theorem dL_distance_14 : decode cL_distance 14 = .ok (.ireturn, 1) := by decide +kernel
theorem dL_distance_15 : decode cL_distance 15 = .ok (.astore_n 3, 1) := by decide +kernel
theorem dL_distance_16 : decode cL_distance 16 = .ok (.iconst 2, 1) := by decide +kernel
theorem dL_distance_17 : decode cL_distance 17 = .ok (.ireturn, 1) := by decide +kernel
theorem dL_distance_18 : decode cL_distance 18 = .ok (.iconst 0, 1) := by decide +kernel
theorem dL_distance_19 : decode cL_distance 19 = .ok (.ireturn, 1) := by decide +kernel
theorem dL_slack_0 : decode cL_slack 0 = .ok (.aload_n 2, 1) := by decide +kernel
theorem dL_slack_1 : decode cL_slack 1 = .ok (.iconst 0, 1) := by decide +kernel
theorem dL_slack_2 : decode cL_slack 2 = .ok (.aload_n 0, 1) := by decide +kernel
theorem dL_slack_3 : decode cL_slack 3 = .ok (.iload_n 1, 1) := by decide +kernel
theorem dL_slack_4 : decode cL_slack 4 = .ok (.invokevirtual 112, 3) := by decide +kernel
theorem dL_slack_7 : decode cL_slack 7 = .ok (.i2l, 1) := by decide +kernel
theorem dL_slack_8 : decode cL_slack 8 = .ok (.lastore, 1) := by decide +kernel
theorem dL_slack_9 : decode cL_slack 9 = .ok (.goto 9, 3) := by decide +kernel
theorem dL_slack_12 : decode cL_slack 12 = .ok (.astore_n 3, 1) := by decide +kernel
theorem dL_slack_13 : decode cL_slack 13 = .ok (.iconst 1, 1) := by decide +kernel
theorem dL_slack_14 : decode cL_slack 14 = .ok (.ireturn, 1) := by decide +kernel
theorem dL_slack_15 : decode cL_slack 15 = .ok (.astore_n 3, 1) := by decide +kernel
theorem dL_slack_16 : decode cL_slack 16 = .ok (.iconst 2, 1) := by decide +kernel
theorem dL_slack_17 : decode cL_slack 17 = .ok (.ireturn, 1) := by decide +kernel
theorem dL_slack_18 : decode cL_slack 18 = .ok (.iconst 0, 1) := by decide +kernel
theorem dL_slack_19 : decode cL_slack 19 = .ok (.ireturn, 1) := by decide +kernel
theorem dL_undo_0 : decode cL_undo 0 = .ok (.aload_n 1, 1) := by decide +kernel
theorem dL_undo_1 : decode cL_undo 1 = .ok (.iconst 0, 1) := by decide +kernel
theorem dL_undo_2 : decode cL_undo 2 = .ok (.aload_n 0, 1) := by decide +kernel
theorem dL_undo_3 : decode cL_undo 3 = .ok (.invokevirtual 115, 3) := by decide +kernel
theorem dL_undo_6 : decode cL_undo 6 = .ok (.i2l, 1) := by decide +kernel
theorem dL_undo_7 : decode cL_undo 7 = .ok (.lastore, 1) := by decide +kernel
theorem dL_undo_8 : decode cL_undo 8 = .ok (.goto 6, 3) := by decide +kernel
theorem dL_undo_11 : decode cL_undo 11 = .ok (.astore_n 2, 1) := by decide +kernel
theorem dL_undo_12 : decode cL_undo 12 = .ok (.iconst 1, 1) := by decide +kernel
theorem dL_undo_13 : decode cL_undo 13 = .ok (.ireturn, 1) := by decide +kernel
theorem dL_undo_14 : decode cL_undo 14 = .ok (.iconst 0, 1) := by decide +kernel
theorem dL_undo_15 : decode cL_undo 15 = .ok (.ireturn, 1) := by decide +kernel
theorem dL_restore_0 : decode cL_restore 0 = .ok (.aload_n 1, 1) := by decide +kernel
theorem dL_restore_1 : decode cL_restore 1 = .ok (.iconst 0, 1) := by decide +kernel
theorem dL_restore_2 : decode cL_restore 2 = .ok (.aload_n 0, 1) := by decide +kernel
theorem dL_restore_3 : decode cL_restore 3 = .ok (.invokevirtual 118, 3) := by decide +kernel
theorem dL_restore_6 : decode cL_restore 6 = .ok (.i2l, 1) := by decide +kernel
theorem dL_restore_7 : decode cL_restore 7 = .ok (.lastore, 1) := by decide +kernel
theorem dL_restore_8 : decode cL_restore 8 = .ok (.goto 6, 3) := by decide +kernel
theorem dL_restore_11 : decode cL_restore 11 = .ok (.astore_n 2, 1) := by decide +kernel
theorem dL_restore_12 : decode cL_restore 12 = .ok (.iconst 1, 1) := by decide +kernel
theorem dL_restore_13 : decode cL_restore 13 = .ok (.ireturn, 1) := by decide +kernel
theorem dL_restore_14 : decode cL_restore 14 = .ok (.iconst 0, 1) := by decide +kernel
theorem dL_restore_15 : decode cL_restore 15 = .ok (.ireturn, 1) := by decide +kernel
theorem dL_law_0 : decode cL_law 0 = .ok (.new 8, 3) := by decide +kernel
theorem dL_law_3 : decode cL_law 3 = .ok (.dup, 1) := by decide +kernel
theorem dL_law_4 : decode cL_law 4 = .ok (.invokespecial 121, 3) := by decide +kernel
theorem dL_law_7 : decode cL_law 7 = .ok (.astore_n 1, 1) := by decide +kernel
theorem dL_law_8 : decode cL_law 8 = .ok (.new 122, 3) := by decide +kernel
theorem dL_law_11 : decode cL_law 11 = .ok (.dup, 1) := by decide +kernel
theorem dL_law_12 : decode cL_law 12 = .ok (.invokespecial 124, 3) := by decide +kernel
theorem dL_law_15 : decode cL_law 15 = .ok (.astore_n 2, 1) := by decide +kernel
theorem dL_law_16 : decode cL_law 16 = .ok (.iconst 1, 1) := by decide +kernel
theorem dL_law_17 : decode cL_law 17 = .ok (.newarray .long, 2) := by decide +kernel
theorem dL_law_19 : decode cL_law 19 = .ok (.astore_n 3, 1) := by decide +kernel
theorem dL_law_20 : decode cL_law 20 = .ok (.iconst 1, 1) := by decide +kernel
theorem dL_law_21 : decode cL_law 21 = .ok (.newarray .double, 2) := by decide +kernel
theorem dL_law_23 : decode cL_law 23 = .ok (.astore 4, 2) := by decide +kernel
theorem dL_law_25 : decode cL_law 25 = .ok (.iconst 0, 1) := by decide +kernel
theorem dL_law_26 : decode cL_law 26 = .ok (.istore 5, 2) := by decide +kernel
theorem dL_law_28 : decode cL_law 28 = .ok (.iload 5, 2) := by decide +kernel
theorem dL_law_30 : decode cL_law 30 = .ok (.aload_n 0, 1) := by decide +kernel
theorem dL_law_31 : decode cL_law 31 = .ok (.arraylength, 1) := by decide +kernel
theorem dL_law_32 : decode cL_law 32 = .ok (.iconst 3, 1) := by decide +kernel
theorem dL_law_33 : decode cL_law 33 = .ok (.isub, 1) := by decide +kernel
theorem dL_law_34 : decode cL_law 34 = .ok (.if_icmp .gt 2039, 3) := by decide +kernel
theorem dL_law_37 : decode cL_law 37 = .ok (.aload_n 0, 1) := by decide +kernel
theorem dL_law_38 : decode cL_law 38 = .ok (.iload 5, 2) := by decide +kernel
theorem dL_law_40 : decode cL_law 40 = .ok (.iaload, 1) := by decide +kernel
theorem dL_law_41 : decode cL_law 41 = .ok (.bipush 63, 2) := by decide +kernel
theorem dL_law_43 : decode cL_law 43 = .ok (.iand, 1) := by decide +kernel
theorem dL_law_44 : decode cL_law 44 = .ok (.tableswitch 2023 0 39 #[176, 189, 202, 260, 316, 360, 416, 484, 552, 620, 688, 701, 714, 770, 826, 894, 950, 963, 1019, 1032, 1088, 1151, 1195, 1251, 1295, 1339, 1383, 1427, 1471, 1536, 1549, 1605, 1673, 1741, 1797, 1853, 1866, 1922, 1966, 1979], 176) := by decide +kernel
theorem dL_law_220 : decode cL_law 220 = .ok (.aload_n 1, 1) := by decide +kernel
theorem dL_law_221 : decode cL_law 221 = .ok (.invokevirtual 125, 3) := by decide +kernel
theorem dL_law_224 : decode cL_law 224 = .ok (.aload_n 2, 1) := by decide +kernel
theorem dL_law_225 : decode cL_law 225 = .ok (.invokevirtual 128, 3) := by decide +kernel
theorem dL_law_228 : decode cL_law 228 = .ok (.if_icmp .eq 1839, 3) := by decide +kernel
theorem dL_law_231 : decode cL_law 231 = .ok (.iconst 0, 1) := by decide +kernel
theorem dL_law_232 : decode cL_law 232 = .ok (.ireturn, 1) := by decide +kernel
theorem dL_law_233 : decode cL_law 233 = .ok (.aload_n 1, 1) := by decide +kernel
theorem dL_law_234 : decode cL_law 234 = .ok (.invokevirtual 129, 3) := by decide +kernel
theorem dL_law_237 : decode cL_law 237 = .ok (.aload_n 2, 1) := by decide +kernel
theorem dL_law_238 : decode cL_law 238 = .ok (.invokevirtual 132, 3) := by decide +kernel
theorem dL_law_241 : decode cL_law 241 = .ok (.if_icmp .eq 1826, 3) := by decide +kernel
theorem dL_law_244 : decode cL_law 244 = .ok (.iconst 0, 1) := by decide +kernel
theorem dL_law_245 : decode cL_law 245 = .ok (.ireturn, 1) := by decide +kernel
theorem dL_law_246 : decode cL_law 246 = .ok (.aload_n 1, 1) := by decide +kernel
theorem dL_law_247 : decode cL_law 247 = .ok (.aload_n 0, 1) := by decide +kernel
theorem dL_law_248 : decode cL_law 248 = .ok (.iload 5, 2) := by decide +kernel
theorem dL_law_250 : decode cL_law 250 = .ok (.iconst 1, 1) := by decide +kernel
theorem dL_law_251 : decode cL_law 251 = .ok (.iadd, 1) := by decide +kernel
theorem dL_law_252 : decode cL_law 252 = .ok (.iaload, 1) := by decide +kernel
theorem dL_law_253 : decode cL_law 253 = .ok (.i2c, 1) := by decide +kernel
theorem dL_law_254 : decode cL_law 254 = .ok (.aload_n 3, 1) := by decide +kernel
theorem dL_law_255 : decode cL_law 255 = .ok (.invokestatic 133, 3) := by decide +kernel
theorem dL_law_258 : decode cL_law 258 = .ok (.istore 6, 2) := by decide +kernel
theorem dL_law_260 : decode cL_law 260 = .ok (.aload_n 2, 1) := by decide +kernel
theorem dL_law_261 : decode cL_law 261 = .ok (.aload_n 0, 1) := by decide +kernel
theorem dL_law_262 : decode cL_law 262 = .ok (.iload 5, 2) := by decide +kernel
theorem dL_law_264 : decode cL_law 264 = .ok (.iconst 1, 1) := by decide +kernel
theorem dL_law_265 : decode cL_law 265 = .ok (.iadd, 1) := by decide +kernel
theorem dL_law_266 : decode cL_law 266 = .ok (.iaload, 1) := by decide +kernel
theorem dL_law_267 : decode cL_law 267 = .ok (.i2c, 1) := by decide +kernel
theorem dL_law_268 : decode cL_law 268 = .ok (.invokevirtual 138, 3) := by decide +kernel
theorem dL_law_271 : decode cL_law 271 = .ok (.istore 7, 2) := by decide +kernel
theorem dL_law_273 : decode cL_law 273 = .ok (.aload_n 2, 1) := by decide +kernel
theorem dL_law_274 : decode cL_law 274 = .ok (.invokevirtual 139, 3) := by decide +kernel
theorem dL_law_277 : decode cL_law 277 = .ok (.iload 6, 2) := by decide +kernel
theorem dL_law_279 : decode cL_law 279 = .ok (.if_icmp .eq 5, 3) := by decide +kernel
theorem dL_law_282 : decode cL_law 282 = .ok (.iconst 0, 1) := by decide +kernel
theorem dL_law_283 : decode cL_law 283 = .ok (.ireturn, 1) := by decide +kernel
theorem dL_law_284 : decode cL_law 284 = .ok (.iload 6, 2) := by decide +kernel
theorem dL_law_286 : decode cL_law 286 = .ok (.ifCond .ne 15, 3) := by decide +kernel
theorem dL_law_289 : decode cL_law 289 = .ok (.aload_n 3, 1) := by decide +kernel
theorem dL_law_290 : decode cL_law 290 = .ok (.iconst 0, 1) := by decide +kernel
theorem dL_law_291 : decode cL_law 291 = .ok (.laload, 1) := by decide +kernel
theorem dL_law_292 : decode cL_law 292 = .ok (.iload 7, 2) := by decide +kernel
theorem dL_law_294 : decode cL_law 294 = .ok (.i2l, 1) := by decide +kernel
theorem dL_law_295 : decode cL_law 295 = .ok (.lcmp, 1) := by decide +kernel
theorem dL_law_296 : decode cL_law 296 = .ok (.ifCond .eq 5, 3) := by decide +kernel
theorem dL_law_299 : decode cL_law 299 = .ok (.iconst 0, 1) := by decide +kernel
theorem dL_law_300 : decode cL_law 300 = .ok (.ireturn, 1) := by decide +kernel
theorem dL_law_301 : decode cL_law 301 = .ok (.goto 1766, 3) := by decide +kernel
theorem dL_law_304 : decode cL_law 304 = .ok (.aload_n 1, 1) := by decide +kernel
theorem dL_law_305 : decode cL_law 305 = .ok (.aload_n 0, 1) := by decide +kernel
theorem dL_law_306 : decode cL_law 306 = .ok (.iload 5, 2) := by decide +kernel
theorem dL_law_308 : decode cL_law 308 = .ok (.iconst 1, 1) := by decide +kernel
theorem dL_law_309 : decode cL_law 309 = .ok (.iadd, 1) := by decide +kernel
theorem dL_law_310 : decode cL_law 310 = .ok (.iaload, 1) := by decide +kernel
theorem dL_law_311 : decode cL_law 311 = .ok (.aload_n 3, 1) := by decide +kernel
theorem dL_law_312 : decode cL_law 312 = .ok (.invokestatic 142, 3) := by decide +kernel
theorem dL_law_315 : decode cL_law 315 = .ok (.istore 6, 2) := by decide +kernel
theorem dL_law_317 : decode cL_law 317 = .ok (.aload_n 2, 1) := by decide +kernel
theorem dL_law_318 : decode cL_law 318 = .ok (.aload_n 0, 1) := by decide +kernel
theorem dL_law_319 : decode cL_law 319 = .ok (.iload 5, 2) := by decide +kernel
theorem dL_law_321 : decode cL_law 321 = .ok (.iconst 1, 1) := by decide +kernel
theorem dL_law_322 : decode cL_law 322 = .ok (.iadd, 1) := by decide +kernel
theorem dL_law_323 : decode cL_law 323 = .ok (.iaload, 1) := by decide +kernel
theorem dL_law_324 : decode cL_law 324 = .ok (.invokevirtual 145, 3) := by decide +kernel
theorem dL_law_327 : decode cL_law 327 = .ok (.istore 7, 2) := by decide +kernel
theorem dL_law_329 : decode cL_law 329 = .ok (.aload_n 2, 1) := by decide +kernel
theorem dL_law_330 : decode cL_law 330 = .ok (.invokevirtual 139, 3) := by decide +kernel
theorem dL_law_333 : decode cL_law 333 = .ok (.iload 6, 2) := by decide +kernel
theorem dL_law_335 : decode cL_law 335 = .ok (.if_icmp .eq 5, 3) := by decide +kernel
theorem dL_law_338 : decode cL_law 338 = .ok (.iconst 0, 1) := by decide +kernel
theorem dL_law_339 : decode cL_law 339 = .ok (.ireturn, 1) := by decide +kernel
theorem dL_law_340 : decode cL_law 340 = .ok (.iload 6, 2) := by decide +kernel
theorem dL_law_342 : decode cL_law 342 = .ok (.ifCond .ne 15, 3) := by decide +kernel
theorem dL_law_345 : decode cL_law 345 = .ok (.aload_n 3, 1) := by decide +kernel
theorem dL_law_346 : decode cL_law 346 = .ok (.iconst 0, 1) := by decide +kernel
theorem dL_law_347 : decode cL_law 347 = .ok (.laload, 1) := by decide +kernel
theorem dL_law_348 : decode cL_law 348 = .ok (.iload 7, 2) := by decide +kernel
theorem dL_law_350 : decode cL_law 350 = .ok (.i2l, 1) := by decide +kernel
theorem dL_law_351 : decode cL_law 351 = .ok (.lcmp, 1) := by decide +kernel
theorem dL_law_352 : decode cL_law 352 = .ok (.ifCond .eq 5, 3) := by decide +kernel
theorem dL_law_355 : decode cL_law 355 = .ok (.iconst 0, 1) := by decide +kernel
theorem dL_law_356 : decode cL_law 356 = .ok (.ireturn, 1) := by decide +kernel
theorem dL_law_357 : decode cL_law 357 = .ok (.goto 1710, 3) := by decide +kernel
theorem dL_law_360 : decode cL_law 360 = .ok (.aload_n 1, 1) := by decide +kernel
theorem dL_law_361 : decode cL_law 361 = .ok (.aload_n 3, 1) := by decide +kernel
theorem dL_law_362 : decode cL_law 362 = .ok (.invokestatic 146, 3) := by decide +kernel
theorem dL_law_365 : decode cL_law 365 = .ok (.istore 6, 2) := by decide +kernel
theorem dL_law_367 : decode cL_law 367 = .ok (.aload_n 2, 1) := by decide +kernel
theorem dL_law_368 : decode cL_law 368 = .ok (.invokevirtual 149, 3) := by decide +kernel
theorem dL_law_371 : decode cL_law 371 = .ok (.istore 7, 2) := by decide +kernel
theorem dL_law_373 : decode cL_law 373 = .ok (.aload_n 2, 1) := by decide +kernel
theorem dL_law_374 : decode cL_law 374 = .ok (.invokevirtual 139, 3) := by decide +kernel
theorem dL_law_377 : decode cL_law 377 = .ok (.iload 6, 2) := by decide +kernel
theorem dL_law_379 : decode cL_law 379 = .ok (.if_icmp .eq 5, 3) := by decide +kernel
theorem dL_law_382 : decode cL_law 382 = .ok (.iconst 0, 1) := by decide +kernel
theorem dL_law_383 : decode cL_law 383 = .ok (.ireturn, 1) := by decide +kernel
theorem dL_law_384 : decode cL_law 384 = .ok (.iload 6, 2) := by decide +kernel
theorem dL_law_386 : decode cL_law 386 = .ok (.ifCond .ne 15, 3) := by decide +kernel
theorem dL_law_389 : decode cL_law 389 = .ok (.aload_n 3, 1) := by decide +kernel
theorem dL_law_390 : decode cL_law 390 = .ok (.iconst 0, 1) := by decide +kernel
theorem dL_law_391 : decode cL_law 391 = .ok (.laload, 1) := by decide +kernel
theorem dL_law_392 : decode cL_law 392 = .ok (.iload 7, 2) := by decide +kernel
theorem dL_law_394 : decode cL_law 394 = .ok (.i2l, 1) := by decide +kernel
theorem dL_law_395 : decode cL_law 395 = .ok (.lcmp, 1) := by decide +kernel
theorem dL_law_396 : decode cL_law 396 = .ok (.ifCond .eq 5, 3) := by decide +kernel
theorem dL_law_399 : decode cL_law 399 = .ok (.iconst 0, 1) := by decide +kernel
theorem dL_law_400 : decode cL_law 400 = .ok (.ireturn, 1) := by decide +kernel
