theorem dX8_literalAddress_3 : decode cX8_literalAddress 3 = .ok (.invokevirtual 314, 3) := by decide +kernel
theorem dX8_literalAddress_6 : decode cX8_literalAddress 6 = .ok (.aload_n 0, 1) := by decide +kernel
theorem dX8_literalAddress_7 : decode cX8_literalAddress 7 = .ok (.invokevirtual 178, 3) := by decide +kernel
theorem dX8_literalAddress_10 : decode cX8_literalAddress 10 = .ok (.iload_n 1, 1) := by decide +kernel
theorem dX8_literalAddress_11 : decode cX8_literalAddress 11 = .ok (.iload_n 2, 1) := by decide +kernel
theorem dX8_literalAddress_12 : decode cX8_literalAddress 12 = .ok (.iconst 0, 1) := by decide +kernel
theorem dX8_literalAddress_13 : decode cX8_literalAddress 13 = .ok (.invokevirtual 320, 3) := by decide +kernel
theorem dX8_literalAddress_16 : decode cX8_literalAddress 16 = .ok (.ireturn, 1) := by decide +kernel
theorem dX8_poolOf_0 : decode cX8_poolOf 0 = .ok (.aload_n 0, 1) := by decide +kernel
theorem dX8_poolOf_1 : decode cX8_poolOf 1 = .ok (.iload_n 1, 1) := by decide +kernel
theorem dX8_poolOf_2 : decode cX8_poolOf 2 = .ok (.invokevirtual 324, 3) := by decide +kernel
theorem dX8_poolOf_5 : decode cX8_poolOf 5 = .ok (.aload_n 0, 1) := by decide +kernel
theorem dX8_poolOf_6 : decode cX8_poolOf 6 = .ok (.getfield 38, 3) := by decide +kernel
theorem dX8_poolOf_9 : decode cX8_poolOf 9 = .ok (.invokevirtual 236, 3) := by decide +kernel
theorem dX8_poolOf_12 : decode cX8_poolOf 12 = .ok (.aload_n 0, 1) := by decide +kernel
theorem dX8_poolOf_13 : decode cX8_poolOf 13 = .ok (.getfield 38, 3) := by decide +kernel
theorem dX8_poolOf_16 : decode cX8_poolOf 16 = .ok (.iload_n 1, 1) := by decide +kernel
theorem dX8_poolOf_17 : decode cX8_poolOf 17 = .ok (.invokevirtual 327, 3) := by decide +kernel
theorem dX8_poolOf_20 : decode cX8_poolOf 20 = .ok (.ireturn, 1) := by decide +kernel
theorem dX8_distance_0 : decode cX8_distance 0 = .ok (.aload_n 0, 1) := by decide +kernel
theorem dX8_distance_1 : decode cX8_distance 1 = .ok (.iload_n 1, 1) := by decide +kernel
theorem dX8_distance_2 : decode cX8_distance 2 = .ok (.invokevirtual 324, 3) := by decide +kernel
theorem dX8_distance_5 : decode cX8_distance 5 = .ok (.aload_n 0, 1) := by decide +kernel
theorem dX8_distance_6 : decode cX8_distance 6 = .ok (.invokevirtual 178, 3) := by decide +kernel
theorem dX8_distance_9 : decode cX8_distance 9 = .ok (.iload_n 1, 1) := by decide +kernel
theorem dX8_distance_10 : decode cX8_distance 10 = .ok (.iconst 0, 1) := by decide +kernel
theorem dX8_distance_11 : decode cX8_distance 11 = .ok (.invokevirtual 330, 3) := by decide +kernel
theorem dX8_distance_14 : decode cX8_distance 14 = .ok (.ireturn, 1) := by decide +kernel
theorem dX8_loadsOutOfReach_0 : decode cX8_loadsOutOfReach 0 = .ok (.aload_n 0, 1) := by decide +kernel
theorem dX8_loadsOutOfReach_1 : decode cX8_loadsOutOfReach 1 = .ok (.invokevirtual 178, 3) := by decide +kernel
theorem dX8_loadsOutOfReach_4 : decode cX8_loadsOutOfReach 4 = .ok (.invokevirtual 333, 3) := by decide +kernel
theorem dX8_loadsOutOfReach_7 : decode cX8_loadsOutOfReach 7 = .ok (.ireturn, 1) := by decide +kernel
theorem dX8_slack_0 : decode cX8_slack 0 = .ok (.aload_n 0, 1) := by decide +kernel
theorem dX8_slack_1 : decode cX8_slack 1 = .ok (.iload_n 1, 1) := by decide +kernel
theorem dX8_slack_2 : decode cX8_slack 2 = .ok (.invokevirtual 324, 3) := by decide +kernel
theorem dX8_slack_5 : decode cX8_slack 5 = .ok (.aload_n 0, 1) := by decide +kernel
theorem dX8_slack_6 : decode cX8_slack 6 = .ok (.invokevirtual 178, 3) := by decide +kernel
theorem dX8_slack_9 : decode cX8_slack 9 = .ok (.iload_n 1, 1) := by decide +kernel
theorem dX8_slack_10 : decode cX8_slack 10 = .ok (.invokevirtual 336, 3) := by decide +kernel
theorem dX8_slack_13 : decode cX8_slack 13 = .ok (.ireturn, 1) := by decide +kernel
theorem dX8_undo_0 : decode cX8_undo 0 = .ok (.aload_n 0, 1) := by decide +kernel
theorem dX8_undo_1 : decode cX8_undo 1 = .ok (.getfield 22, 3) := by decide +kernel
theorem dX8_undo_4 : decode cX8_undo 4 = .ok (.invokevirtual 339, 3) := by decide +kernel
theorem dX8_undo_7 : decode cX8_undo 7 = .ok (.ifCond .eq 14, 3) := by decide +kernel
theorem dX8_undo_10 : decode cX8_undo 10 = .ok (.new 156, 3) := by decide +kernel
theorem dX8_undo_13 : decode cX8_undo 13 = .ok (.dup, 1) := by decide +kernel
theorem dX8_undo_14 : decode cX8_undo 14 = .ok (.ldc_w 342, 3) := by decide +kernel
theorem dX8_undo_17 : decode cX8_undo 17 = .ok (.invokespecial 160, 3) := by decide +kernel
theorem dX8_undo_20 : decode cX8_undo 20 = .ok (.athrow, 1) := by decide +kernel
theorem dX8_undo_21 : decode cX8_undo 21 = .ok (.aload_n 0, 1) := by decide +kernel
theorem dX8_undo_22 : decode cX8_undo 22 = .ok (.getfield 22, 3) := by decide +kernel
theorem dX8_undo_25 : decode cX8_undo 25 = .ok (.aload_n 0, 1) := by decide +kernel
theorem dX8_undo_26 : decode cX8_undo 26 = .ok (.getfield 12, 3) := by decide +kernel
theorem dX8_undo_29 : decode cX8_undo 29 = .ok (.invokevirtual 344, 3) := by decide +kernel
theorem dX8_undo_32 : decode cX8_undo 32 = .ok (.ireturn, 1) := by decide +kernel
theorem dX8_save_0 : decode cX8_save 0 = .ok (.aload_n 0, 1) := by decide +kernel
theorem dX8_save_1 : decode cX8_save 1 = .ok (.getfield 16, 3) := by decide +kernel
theorem dX8_save_4 : decode cX8_save 4 = .ok (.aload_n 0, 1) := by decide +kernel
theorem dX8_save_5 : decode cX8_save 5 = .ok (.getfield 12, 3) := by decide +kernel
theorem dX8_save_8 : decode cX8_save 8 = .ok (.invokevirtual 348, 3) := by decide +kernel
theorem dX8_save_11 : decode cX8_save 11 = .ok (.aload_n 0, 1) := by decide +kernel
theorem dX8_save_12 : decode cX8_save 12 = .ok (.iconst 1, 1) := by decide +kernel
theorem dX8_save_13 : decode cX8_save 13 = .ok (.putfield 76, 3) := by decide +kernel
theorem dX8_save_16 : decode cX8_save 16 = .ok (.aload_n 0, 1) := by decide +kernel
theorem dX8_save_17 : decode cX8_save 17 = .ok (.getfield 12, 3) := by decide +kernel
theorem dX8_save_20 : decode cX8_save 20 = .ok (.invokevirtual 84, 3) := by decide +kernel
theorem dX8_save_23 : decode cX8_save 23 = .ok (.ireturn, 1) := by decide +kernel
theorem dX8_restore_0 : decode cX8_restore 0 = .ok (.aload_n 0, 1) := by decide +kernel
theorem dX8_restore_1 : decode cX8_restore 1 = .ok (.getfield 76, 3) := by decide +kernel
theorem dX8_restore_4 : decode cX8_restore 4 = .ok (.ifCond .ne 14, 3) := by decide +kernel
theorem dX8_restore_7 : decode cX8_restore 7 = .ok (.new 105, 3) := by decide +kernel
theorem dX8_restore_10 : decode cX8_restore 10 = .ok (.dup, 1) := by decide +kernel
theorem dX8_restore_11 : decode cX8_restore 11 = .ok (.ldc_w 351, 3) := by decide +kernel
theorem dX8_restore_14 : decode cX8_restore 14 = .ok (.invokespecial 109, 3) := by decide +kernel
theorem dX8_restore_17 : decode cX8_restore 17 = .ok (.athrow, 1) := by decide +kernel
theorem dX8_restore_18 : decode cX8_restore 18 = .ok (.aload_n 0, 1) := by decide +kernel
theorem dX8_restore_19 : decode cX8_restore 19 = .ok (.getfield 12, 3) := by decide +kernel
theorem dX8_restore_22 : decode cX8_restore 22 = .ok (.aload_n 0, 1) := by decide +kernel
theorem dX8_restore_23 : decode cX8_restore 23 = .ok (.getfield 16, 3) := by decide +kernel
theorem dX8_restore_26 : decode cX8_restore 26 = .ok (.invokevirtual 348, 3) := by decide +kernel
theorem dX8_restore_29 : decode cX8_restore 29 = .ok (.aload_n 0, 1) := by decide +kernel
theorem dX8_restore_30 : decode cX8_restore 30 = .ok (.getfield 22, 3) := by decide +kernel
theorem dX8_restore_33 : decode cX8_restore 33 = .ok (.invokevirtual 91, 3) := by decide +kernel
theorem dX8_restore_36 : decode cX8_restore 36 = .ok (.aload_n 0, 1) := by decide +kernel
theorem dX8_restore_37 : decode cX8_restore 37 = .ok (.getfield 12, 3) := by decide +kernel
theorem dX8_restore_40 : decode cX8_restore 40 = .ok (.invokevirtual 84, 3) := by decide +kernel
theorem dX8_restore_43 : decode cX8_restore 43 = .ok (.ireturn, 1) := by decide +kernel
theorem dX8_freshLayout_0 : decode cX8_freshLayout 0 = .ok (.aload_n 0, 1) := by decide +kernel
theorem dX8_freshLayout_1 : decode cX8_freshLayout 1 = .ok (.getfield 38, 3) := by decide +kernel
theorem dX8_freshLayout_4 : decode cX8_freshLayout 4 = .ok (.invokevirtual 236, 3) := by decide +kernel
theorem dX8_freshLayout_7 : decode cX8_freshLayout 7 = .ok (.aload_n 0, 1) := by decide +kernel
theorem dX8_freshLayout_8 : decode cX8_freshLayout 8 = .ok (.getfield 47, 3) := by decide +kernel
theorem dX8_freshLayout_11 : decode cX8_freshLayout 11 = .ok (.invokevirtual 265, 3) := by decide +kernel
theorem dX8_freshLayout_14 : decode cX8_freshLayout 14 = .ok (.aload_n 0, 1) := by decide +kernel
theorem dX8_freshLayout_15 : decode cX8_freshLayout 15 = .ok (.getfield 47, 3) := by decide +kernel
theorem dX8_freshLayout_18 : decode cX8_freshLayout 18 = .ok (.areturn, 1) := by decide +kernel
theorem dX8_requireItem_0 : decode cX8_requireItem 0 = .ok (.aload_n 0, 1) := by decide +kernel
theorem dX8_requireItem_1 : decode cX8_requireItem 1 = .ok (.getfield 12, 3) := by decide +kernel
theorem dX8_requireItem_4 : decode cX8_requireItem 4 = .ok (.iload_n 1, 1) := by decide +kernel
theorem dX8_requireItem_5 : decode cX8_requireItem 5 = .ok (.invokevirtual 353, 3) := by decide +kernel
theorem dX8_requireItem_8 : decode cX8_requireItem 8 = .ok (.ifCond .ne 14, 3) := by decide +kernel
theorem dX8_requireItem_11 : decode cX8_requireItem 11 = .ok (.new 117, 3) := by decide +kernel
theorem dX8_requireItem_14 : decode cX8_requireItem 14 = .ok (.dup, 1) := by decide +kernel
theorem dX8_requireItem_15 : decode cX8_requireItem 15 = .ok (.ldc_w 356, 3) := by decide +kernel
theorem dX8_requireItem_18 : decode cX8_requireItem 18 = .ok (.invokespecial 121, 3) := by decide +kernel
theorem dX8_requireItem_21 : decode cX8_requireItem 21 = .ok (.athrow, 1) := by decide +kernel
theorem dX8_requireItem_22 : decode cX8_requireItem 22 = .ok (.return_, 1) := by decide +kernel
theorem dX8_requireTransfer_0 : decode cX8_requireTransfer 0 = .ok (.aload_n 0, 1) := by decide +kernel
theorem dX8_requireTransfer_1 : decode cX8_requireTransfer 1 = .ok (.getfield 12, 3) := by decide +kernel
theorem dX8_requireTransfer_4 : decode cX8_requireTransfer 4 = .ok (.iload_n 1, 1) := by decide +kernel
theorem dX8_requireTransfer_5 : decode cX8_requireTransfer 5 = .ok (.invokevirtual 358, 3) := by decide +kernel
theorem dX8_requireTransfer_8 : decode cX8_requireTransfer 8 = .ok (.ifCond .ne 14, 3) := by decide +kernel
theorem dX8_requireTransfer_11 : decode cX8_requireTransfer 11 = .ok (.new 94, 3) := by decide +kernel
theorem dX8_requireTransfer_14 : decode cX8_requireTransfer 14 = .ok (.dup, 1) := by decide +kernel
theorem dX8_requireTransfer_15 : decode cX8_requireTransfer 15 = .ok (.ldc_w 361, 3) := by decide +kernel
theorem dX8_requireTransfer_18 : decode cX8_requireTransfer 18 = .ok (.invokespecial 98, 3) := by decide +kernel
theorem dX8_requireTransfer_21 : decode cX8_requireTransfer 21 = .ok (.athrow, 1) := by decide +kernel
theorem dX8_requireTransfer_22 : decode cX8_requireTransfer 22 = .ok (.return_, 1) := by decide +kernel
theorem dX8_requireForm_0 : decode cX8_requireForm 0 = .ok (.iload_n 1, 1) := by decide +kernel
theorem dX8_requireForm_1 : decode cX8_requireForm 1 = .ok (.ifCond .lt 8, 3) := by decide +kernel
theorem dX8_requireForm_4 : decode cX8_requireForm 4 = .ok (.iload_n 1, 1) := by decide +kernel
theorem dX8_requireForm_5 : decode cX8_requireForm 5 = .ok (.iconst 2, 1) := by decide +kernel
theorem dX8_requireForm_6 : decode cX8_requireForm 6 = .ok (.if_icmp .le 14, 3) := by decide +kernel
theorem dX8_requireForm_9 : decode cX8_requireForm 9 = .ok (.new 94, 3) := by decide +kernel
theorem dX8_requireForm_12 : decode cX8_requireForm 12 = .ok (.dup, 1) := by decide +kernel
theorem dX8_requireForm_13 : decode cX8_requireForm 13 = .ok (.ldc_w 363, 3) := by decide +kernel
theorem dX8_requireForm_16 : decode cX8_requireForm 16 = .ok (.invokespecial 98, 3) := by decide +kernel
theorem dX8_requireForm_19 : decode cX8_requireForm 19 = .ok (.athrow, 1) := by decide +kernel
theorem dX8_requireForm_20 : decode cX8_requireForm 20 = .ok (.return_, 1) := by decide +kernel
theorem dX8_requireLoad_0 : decode cX8_requireLoad 0 = .ok (.aload_n 0, 1) := by decide +kernel
theorem dX8_requireLoad_1 : decode cX8_requireLoad 1 = .ok (.iload_n 1, 1) := by decide +kernel
theorem dX8_requireLoad_2 : decode cX8_requireLoad 2 = .ok (.invokevirtual 161, 3) := by decide +kernel
theorem dX8_requireLoad_5 : decode cX8_requireLoad 5 = .ok (.aload_n 0, 1) := by decide +kernel
theorem dX8_requireLoad_6 : decode cX8_requireLoad 6 = .ok (.getfield 12, 3) := by decide +kernel
theorem dX8_requireLoad_9 : decode cX8_requireLoad 9 = .ok (.iload_n 1, 1) := by decide +kernel
theorem dX8_requireLoad_10 : decode cX8_requireLoad 10 = .ok (.invokevirtual 168, 3) := by decide +kernel
theorem dX8_requireLoad_13 : decode cX8_requireLoad 13 = .ok (.bipush 6, 2) := by decide +kernel
theorem dX8_requireLoad_15 : decode cX8_requireLoad 15 = .ok (.if_icmp .eq 14, 3) := by decide +kernel
theorem dX8_requireLoad_18 : decode cX8_requireLoad 18 = .ok (.new 94, 3) := by decide +kernel
theorem dX8_requireLoad_21 : decode cX8_requireLoad 21 = .ok (.dup, 1) := by decide +kernel
theorem dX8_requireLoad_22 : decode cX8_requireLoad 22 = .ok (.ldc_w 365, 3) := by decide +kernel
theorem dX8_requireLoad_25 : decode cX8_requireLoad 25 = .ok (.invokespecial 98, 3) := by decide +kernel
theorem dX8_requireLoad_28 : decode cX8_requireLoad 28 = .ok (.athrow, 1) := by decide +kernel
theorem dX8_requireLoad_29 : decode cX8_requireLoad 29 = .ok (.return_, 1) := by decide +kernel
theorem dX8_requireTarget_0 : decode cX8_requireTarget 0 = .ok (.aload_n 0, 1) := by decide +kernel
theorem dX8_requireTarget_1 : decode cX8_requireTarget 1 = .ok (.iload_n 1, 1) := by decide +kernel
theorem dX8_requireTarget_2 : decode cX8_requireTarget 2 = .ok (.invokevirtual 161, 3) := by decide +kernel
theorem dX8_requireTarget_5 : decode cX8_requireTarget 5 = .ok (.aload_n 0, 1) := by decide +kernel
theorem dX8_requireTarget_6 : decode cX8_requireTarget 6 = .ok (.iload_n 1, 1) := by decide +kernel
theorem dX8_requireTarget_7 : decode cX8_requireTarget 7 = .ok (.invokevirtual 205, 3) := by decide +kernel
theorem dX8_requireTarget_10 : decode cX8_requireTarget 10 = .ok (.aload_n 0, 1) := by decide +kernel
theorem dX8_requireTarget_11 : decode cX8_requireTarget 11 = .ok (.invokevirtual 178, 3) := by decide +kernel
theorem dX8_requireTarget_14 : decode cX8_requireTarget 14 = .ok (.pop, 1) := by decide +kernel
theorem dX8_requireTarget_15 : decode cX8_requireTarget 15 = .ok (.aload_n 0, 1) := by decide +kernel
theorem dX8_requireTarget_16 : decode cX8_requireTarget 16 = .ok (.getfield 56, 3) := by decide +kernel
theorem dX8_requireTarget_19 : decode cX8_requireTarget 19 = .ok (.iload_n 1, 1) := by decide +kernel
theorem dX8_requireTarget_20 : decode cX8_requireTarget 20 = .ok (.invokevirtual 367, 3) := by decide +kernel
theorem dX8_requireTarget_23 : decode cX8_requireTarget 23 = .ok (.ifCond .ne 13, 3) := by decide +kernel
theorem dX8_requireTarget_26 : decode cX8_requireTarget 26 = .ok (.new 156, 3) := by decide +kernel
theorem dX8_requireTarget_29 : decode cX8_requireTarget 29 = .ok (.dup, 1) := by decide +kernel
theorem dX8_requireTarget_30 : decode cX8_requireTarget 30 = .ok (.ldc 226, 2) := by decide +kernel
theorem dX8_requireTarget_32 : decode cX8_requireTarget 32 = .ok (.invokespecial 160, 3) := by decide +kernel
theorem dX8_requireTarget_35 : decode cX8_requireTarget 35 = .ok (.athrow, 1) := by decide +kernel
theorem dX8_requireTarget_36 : decode cX8_requireTarget 36 = .ok (.return_, 1) := by decide +kernel
theorem dX8_requireAllDefined_0 : decode cX8_requireAllDefined 0 = .ok (.aload_n 0, 1) := by decide +kernel
theorem dX8_requireAllDefined_1 : decode cX8_requireAllDefined 1 = .ok (.getfield 38, 3) := by decide +kernel
theorem dX8_requireAllDefined_4 : decode cX8_requireAllDefined 4 = .ok (.invokevirtual 236, 3) := by decide +kernel
theorem dX8_requireAllDefined_7 : decode cX8_requireAllDefined 7 = .ok (.aload_n 0, 1) := by decide +kernel
theorem dX8_requireAllDefined_8 : decode cX8_requireAllDefined 8 = .ok (.getfield 56, 3) := by decide +kernel
theorem dX8_requireAllDefined_11 : decode cX8_requireAllDefined 11 = .ok (.invokevirtual 250, 3) := by decide +kernel
theorem dX8_requireAllDefined_14 : decode cX8_requireAllDefined 14 = .ok (.ifCond .le 14, 3) := by decide +kernel
theorem dX8_requireAllDefined_17 : decode cX8_requireAllDefined 17 = .ok (.new 105, 3) := by decide +kernel
theorem dX8_requireAllDefined_20 : decode cX8_requireAllDefined 20 = .ok (.dup, 1) := by decide +kernel
theorem dX8_requireAllDefined_21 : decode cX8_requireAllDefined 21 = .ok (.ldc_w 370, 3) := by decide +kernel
theorem dX8_requireAllDefined_24 : decode cX8_requireAllDefined 24 = .ok (.invokespecial 109, 3) := by decide +kernel
theorem dX8_requireAllDefined_27 : decode cX8_requireAllDefined 27 = .ok (.athrow, 1) := by decide +kernel
theorem dX8_requireAllDefined_28 : decode cX8_requireAllDefined 28 = .ok (.return_, 1) := by decide +kernel
theorem dX8_requireSearchable_0 : decode cX8_requireSearchable 0 = .ok (.aload_n 0, 1) := by decide +kernel
theorem dX8_requireSearchable_1 : decode cX8_requireSearchable 1 = .ok (.invokevirtual 262, 3) := by decide +kernel
theorem dX8_requireSearchable_4 : decode cX8_requireSearchable 4 = .ok (.aload_n 0, 1) := by decide +kernel
theorem dX8_requireSearchable_5 : decode cX8_requireSearchable 5 = .ok (.getfield 56, 3) := by decide +kernel
theorem dX8_requireSearchable_8 : decode cX8_requireSearchable 8 = .ok (.invokevirtual 244, 3) := by decide +kernel
theorem dX8_requireSearchable_11 : decode cX8_requireSearchable 11 = .ok (.bipush 8, 2) := by decide +kernel
theorem dX8_requireSearchable_13 : decode cX8_requireSearchable 13 = .ok (.if_icmp .le 14, 3) := by decide +kernel
theorem dX8_requireSearchable_16 : decode cX8_requireSearchable 16 = .ok (.new 372, 3) := by decide +kernel
theorem dX8_requireSearchable_19 : decode cX8_requireSearchable 19 = .ok (.dup, 1) := by decide +kernel
theorem dX8_requireSearchable_20 : decode cX8_requireSearchable 20 = .ok (.ldc_w 374, 3) := by decide +kernel
theorem dX8_requireSearchable_23 : decode cX8_requireSearchable 23 = .ok (.invokespecial 376, 3) := by decide +kernel
theorem dX8_requireSearchable_26 : decode cX8_requireSearchable 26 = .ok (.athrow, 1) := by decide +kernel
theorem dX8_requireSearchable_27 : decode cX8_requireSearchable 27 = .ok (.return_, 1) := by decide +kernel
theorem dX8_requirePool_0 : decode cX8_requirePool 0 = .ok (.aload_n 0, 1) := by decide +kernel
theorem dX8_requirePool_1 : decode cX8_requirePool 1 = .ok (.getfield 38, 3) := by decide +kernel
theorem dX8_requirePool_4 : decode cX8_requirePool 4 = .ok (.invokevirtual 236, 3) := by decide +kernel
theorem dX8_requirePool_7 : decode cX8_requirePool 7 = .ok (.iload_n 1, 1) := by decide +kernel
theorem dX8_requirePool_8 : decode cX8_requirePool 8 = .ok (.ifCond .lt 14, 3) := by decide +kernel
theorem dX8_requirePool_11 : decode cX8_requirePool 11 = .ok (.iload_n 1, 1) := by decide +kernel
theorem dX8_requirePool_12 : decode cX8_requirePool 12 = .ok (.aload_n 0, 1) := by decide +kernel
theorem dX8_requirePool_13 : decode cX8_requirePool 13 = .ok (.getfield 38, 3) := by decide +kernel
theorem dX8_requirePool_16 : decode cX8_requirePool 16 = .ok (.invokevirtual 305, 3) := by decide +kernel
theorem dX8_requirePool_19 : decode cX8_requirePool 19 = .ok (.if_icmp .le 14, 3) := by decide +kernel
theorem dX8_requirePool_22 : decode cX8_requirePool 22 = .ok (.new 117, 3) := by decide +kernel
theorem dX8_requirePool_25 : decode cX8_requirePool 25 = .ok (.dup, 1) := by decide +kernel
theorem dX8_requirePool_26 : decode cX8_requirePool 26 = .ok (.ldc_w 377, 3) := by decide +kernel
theorem dX8_requirePool_29 : decode cX8_requirePool 29 = .ok (.invokespecial 121, 3) := by decide +kernel
theorem dX8_requirePool_32 : decode cX8_requirePool 32 = .ok (.athrow, 1) := by decide +kernel
theorem dX8_requirePool_33 : decode cX8_requirePool 33 = .ok (.return_, 1) := by decide +kernel
theorem dX8_requireLiteral_0 : decode cX8_requireLiteral 0 = .ok (.aload_n 0, 1) := by decide +kernel
theorem dX8_requireLiteral_1 : decode cX8_requireLiteral 1 = .ok (.iload_n 1, 1) := by decide +kernel
theorem dX8_requireLiteral_2 : decode cX8_requireLiteral 2 = .ok (.invokevirtual 308, 3) := by decide +kernel
theorem dX8_requireLiteral_5 : decode cX8_requireLiteral 5 = .ok (.iload_n 2, 1) := by decide +kernel
theorem dX8_requireLiteral_6 : decode cX8_requireLiteral 6 = .ok (.ifCond .lt 15, 3) := by decide +kernel
theorem dX8_requireLiteral_9 : decode cX8_requireLiteral 9 = .ok (.iload_n 2, 1) := by decide +kernel
theorem dX8_requireLiteral_10 : decode cX8_requireLiteral 10 = .ok (.aload_n 0, 1) := by decide +kernel
theorem dX8_requireLiteral_11 : decode cX8_requireLiteral 11 = .ok (.getfield 38, 3) := by decide +kernel
theorem dX8_requireLiteral_14 : decode cX8_requireLiteral 14 = .ok (.iload_n 1, 1) := by decide +kernel
theorem dX8_requireLiteral_15 : decode cX8_requireLiteral 15 = .ok (.invokevirtual 311, 3) := by decide +kernel
theorem dX8_requireLiteral_18 : decode cX8_requireLiteral 18 = .ok (.if_icmp .lt 14, 3) := by decide +kernel
theorem dX8_requireLiteral_21 : decode cX8_requireLiteral 21 = .ok (.new 117, 3) := by decide +kernel
theorem dX8_requireLiteral_24 : decode cX8_requireLiteral 24 = .ok (.dup, 1) := by decide +kernel
theorem dX8_requireLiteral_25 : decode cX8_requireLiteral 25 = .ok (.ldc_w 379, 3) := by decide +kernel
theorem dX8_requireLiteral_28 : decode cX8_requireLiteral 28 = .ok (.invokespecial 121, 3) := by decide +kernel
theorem dX8_requireLiteral_31 : decode cX8_requireLiteral 31 = .ok (.athrow, 1) := by decide +kernel
theorem dX8_requireLiteral_32 : decode cX8_requireLiteral 32 = .ok (.return_, 1) := by decide +kernel
theorem dX8_nameOf_0 : decode cX8_nameOf 0 = .ok (.iload_n 0, 1) := by decide +kernel
theorem dX8_nameOf_1 : decode cX8_nameOf 1 = .ok (.tableswitch 79 0 7 #[47, 51, 55, 59, 63, 67, 71, 75], 47) := by decide +kernel
theorem dX8_nameOf_48 : decode cX8_nameOf 48 = .ok (.ldc_w 381, 3) := by decide +kernel
theorem dX8_nameOf_51 : decode cX8_nameOf 51 = .ok (.areturn, 1) := by decide +kernel
theorem dX8_nameOf_52 : decode cX8_nameOf 52 = .ok (.ldc_w 383, 3) := by decide +kernel
theorem dX8_nameOf_55 : decode cX8_nameOf 55 = .ok (.areturn, 1) := by decide +kernel
theorem dX8_nameOf_56 : decode cX8_nameOf 56 = .ok (.ldc_w 385, 3) := by decide +kernel
theorem dX8_nameOf_59 : decode cX8_nameOf 59 = .ok (.areturn, 1) := by decide +kernel
theorem dX8_nameOf_60 : decode cX8_nameOf 60 = .ok (.ldc_w 387, 3) := by decide +kernel
theorem dX8_nameOf_63 : decode cX8_nameOf 63 = .ok (.areturn, 1) := by decide +kernel
theorem dX8_nameOf_64 : decode cX8_nameOf 64 = .ok (.ldc_w 389, 3) := by decide +kernel
theorem dX8_nameOf_67 : decode cX8_nameOf 67 = .ok (.areturn, 1) := by decide +kernel
theorem dX8_nameOf_68 : decode cX8_nameOf 68 = .ok (.ldc_w 391, 3) := by decide +kernel
theorem dX8_nameOf_71 : decode cX8_nameOf 71 = .ok (.areturn, 1) := by decide +kernel
theorem dX8_nameOf_72 : decode cX8_nameOf 72 = .ok (.ldc_w 393, 3) := by decide +kernel
theorem dX8_nameOf_75 : decode cX8_nameOf 75 = .ok (.areturn, 1) := by decide +kernel
theorem dX8_nameOf_76 : decode cX8_nameOf 76 = .ok (.ldc_w 395, 3) := by decide +kernel
theorem dX8_nameOf_79 : decode cX8_nameOf 79 = .ok (.areturn, 1) := by decide +kernel
theorem dX8_nameOf_80 : decode cX8_nameOf 80 = .ok (.ldc_w 397, 3) := by decide +kernel
theorem dX8_nameOf_83 : decode cX8_nameOf 83 = .ok (.areturn, 1) := by decide +kernel
theorem dX8_isOperand_0 : decode cX8_isOperand 0 = .ok (.iload_n 0, 1) := by decide +kernel
theorem dX8_isOperand_1 : decode cX8_isOperand 1 = .ok (.tableswitch 139 0 7 #[47, 64, 97, 81, 97, 97, 113, 129], 47) := by decide +kernel
theorem dX8_isOperand_48 : decode cX8_isOperand 48 = .ok (.iload_n 1, 1) := by decide +kernel
theorem dX8_isOperand_49 : decode cX8_isOperand 49 = .ok (.iconst 1, 1) := by decide +kernel
theorem dX8_isOperand_50 : decode cX8_isOperand 50 = .ok (.if_icmp .lt 13, 3) := by decide +kernel
theorem dX8_isOperand_53 : decode cX8_isOperand 53 = .ok (.iload_n 1, 1) := by decide +kernel
theorem dX8_isOperand_54 : decode cX8_isOperand 54 = .ok (.bipush 9, 2) := by decide +kernel
theorem dX8_isOperand_56 : decode cX8_isOperand 56 = .ok (.if_icmp .gt 7, 3) := by decide +kernel
theorem dX8_isOperand_59 : decode cX8_isOperand 59 = .ok (.iconst 1, 1) := by decide +kernel
theorem dX8_isOperand_60 : decode cX8_isOperand 60 = .ok (.goto 4, 3) := by decide +kernel
theorem dX8_isOperand_63 : decode cX8_isOperand 63 = .ok (.iconst 0, 1) := by decide +kernel
theorem dX8_isOperand_64 : decode cX8_isOperand 64 = .ok (.ireturn, 1) := by decide +kernel
theorem dX8_isOperand_65 : decode cX8_isOperand 65 = .ok (.iload_n 1, 1) := by decide +kernel
theorem dX8_isOperand_66 : decode cX8_isOperand 66 = .ok (.iconst 1, 1) := by decide +kernel
theorem dX8_isOperand_67 : decode cX8_isOperand 67 = .ok (.if_icmp .lt 13, 3) := by decide +kernel
theorem dX8_isOperand_70 : decode cX8_isOperand 70 = .ok (.iload_n 1, 1) := by decide +kernel
theorem dX8_isOperand_71 : decode cX8_isOperand 71 = .ok (.bipush 50, 2) := by decide +kernel
theorem dX8_isOperand_73 : decode cX8_isOperand 73 = .ok (.if_icmp .gt 7, 3) := by decide +kernel
theorem dX8_isOperand_76 : decode cX8_isOperand 76 = .ok (.iconst 1, 1) := by decide +kernel
theorem dX8_isOperand_77 : decode cX8_isOperand 77 = .ok (.goto 4, 3) := by decide +kernel
theorem dX8_isOperand_80 : decode cX8_isOperand 80 = .ok (.iconst 0, 1) := by decide +kernel
theorem dX8_isOperand_81 : decode cX8_isOperand 81 = .ok (.ireturn, 1) := by decide +kernel
theorem dX8_isOperand_82 : decode cX8_isOperand 82 = .ok (.iload_n 1, 1) := by decide +kernel
theorem dX8_isOperand_83 : decode cX8_isOperand 83 = .ok (.iconst 1, 1) := by decide +kernel
theorem dX8_isOperand_84 : decode cX8_isOperand 84 = .ok (.if_icmp .lt 12, 3) := by decide +kernel
theorem dX8_isOperand_87 : decode cX8_isOperand 87 = .ok (.iload_n 1, 1) := by decide +kernel
theorem dX8_isOperand_88 : decode cX8_isOperand 88 = .ok (.iconst 4, 1) := by decide +kernel
theorem dX8_isOperand_89 : decode cX8_isOperand 89 = .ok (.if_icmp .gt 7, 3) := by decide +kernel
theorem dX8_isOperand_92 : decode cX8_isOperand 92 = .ok (.iconst 1, 1) := by decide +kernel
theorem dX8_isOperand_93 : decode cX8_isOperand 93 = .ok (.goto 4, 3) := by decide +kernel
theorem dX8_isOperand_96 : decode cX8_isOperand 96 = .ok (.iconst 0, 1) := by decide +kernel
theorem dX8_isOperand_97 : decode cX8_isOperand 97 = .ok (.ireturn, 1) := by decide +kernel
theorem dX8_isOperand_98 : decode cX8_isOperand 98 = .ok (.iload_n 1, 1) := by decide +kernel
theorem dX8_isOperand_99 : decode cX8_isOperand 99 = .ok (.ifCond .lt 13, 3) := by decide +kernel
theorem dX8_isOperand_102 : decode cX8_isOperand 102 = .ok (.iload_n 1, 1) := by decide +kernel
theorem dX8_isOperand_103 : decode cX8_isOperand 103 = .ok (.bipush 10, 2) := by decide +kernel
theorem dX8_isOperand_105 : decode cX8_isOperand 105 = .ok (.if_icmp .ge 7, 3) := by decide +kernel
theorem dX8_isOperand_108 : decode cX8_isOperand 108 = .ok (.iconst 1, 1) := by decide +kernel
theorem dX8_isOperand_109 : decode cX8_isOperand 109 = .ok (.goto 4, 3) := by decide +kernel
theorem dX8_isOperand_112 : decode cX8_isOperand 112 = .ok (.iconst 0, 1) := by decide +kernel
theorem dX8_isOperand_113 : decode cX8_isOperand 113 = .ok (.ireturn, 1) := by decide +kernel
theorem dX8_isOperand_114 : decode cX8_isOperand 114 = .ok (.iload_n 1, 1) := by decide +kernel
theorem dX8_isOperand_115 : decode cX8_isOperand 115 = .ok (.ifCond .lt 13, 3) := by decide +kernel
theorem dX8_isOperand_118 : decode cX8_isOperand 118 = .ok (.iload_n 1, 1) := by decide +kernel
theorem dX8_isOperand_119 : decode cX8_isOperand 119 = .ok (.bipush 100, 2) := by decide +kernel
theorem dX8_isOperand_121 : decode cX8_isOperand 121 = .ok (.if_icmp .ge 7, 3) := by decide +kernel
theorem dX8_isOperand_124 : decode cX8_isOperand 124 = .ok (.iconst 1, 1) := by decide +kernel
theorem dX8_isOperand_125 : decode cX8_isOperand 125 = .ok (.goto 4, 3) := by decide +kernel
theorem dX8_isOperand_128 : decode cX8_isOperand 128 = .ok (.iconst 0, 1) := by decide +kernel
theorem dX8_isOperand_129 : decode cX8_isOperand 129 = .ok (.ireturn, 1) := by decide +kernel
theorem dX8_isOperand_130 : decode cX8_isOperand 130 = .ok (.iload_n 1, 1) := by decide +kernel
theorem dX8_isOperand_131 : decode cX8_isOperand 131 = .ok (.ifCond .ne 7, 3) := by decide +kernel
theorem dX8_isOperand_134 : decode cX8_isOperand 134 = .ok (.iconst 1, 1) := by decide +kernel
theorem dX8_isOperand_135 : decode cX8_isOperand 135 = .ok (.goto 4, 3) := by decide +kernel
theorem dX8_isOperand_138 : decode cX8_isOperand 138 = .ok (.iconst 0, 1) := by decide +kernel
theorem dX8_isOperand_139 : decode cX8_isOperand 139 = .ok (.ireturn, 1) := by decide +kernel
theorem dX8_isOperand_140 : decode cX8_isOperand 140 = .ok (.iconst 0, 1) := by decide +kernel
theorem dX8_isOperand_141 : decode cX8_isOperand 141 = .ok (.ireturn, 1) := by decide +kernel
theorem dX8_formFor_0 : decode cX8_formFor 0 = .ok (.iload_n 0, 1) := by decide +kernel
theorem dX8_formFor_1 : decode cX8_formFor 1 = .ok (.bipush (-16), 2) := by decide +kernel
theorem dX8_formFor_3 : decode cX8_formFor 3 = .ok (.if_icmp .lt 11, 3) := by decide +kernel
theorem dX8_formFor_6 : decode cX8_formFor 6 = .ok (.iload_n 0, 1) := by decide +kernel
theorem dX8_formFor_7 : decode cX8_formFor 7 = .ok (.bipush 15, 2) := by decide +kernel
theorem dX8_formFor_9 : decode cX8_formFor 9 = .ok (.if_icmp .gt 5, 3) := by decide +kernel
theorem dX8_formFor_12 : decode cX8_formFor 12 = .ok (.iconst 0, 1) := by decide +kernel
theorem dX8_formFor_13 : decode cX8_formFor 13 = .ok (.ireturn, 1) := by decide +kernel
theorem dX8_formFor_14 : decode cX8_formFor 14 = .ok (.iload_n 0, 1) := by decide +kernel
theorem dX8_formFor_15 : decode cX8_formFor 15 = .ok (.bipush (-100), 2) := by decide +kernel
theorem dX8_formFor_17 : decode cX8_formFor 17 = .ok (.if_icmp .lt 13, 3) := by decide +kernel
theorem dX8_formFor_20 : decode cX8_formFor 20 = .ok (.iload_n 0, 1) := by decide +kernel
theorem dX8_formFor_21 : decode cX8_formFor 21 = .ok (.bipush 99, 2) := by decide +kernel
theorem dX8_formFor_23 : decode cX8_formFor 23 = .ok (.if_icmp .gt 7, 3) := by decide +kernel
theorem dX8_formFor_26 : decode cX8_formFor 26 = .ok (.iconst 1, 1) := by decide +kernel
theorem dX8_formFor_27 : decode cX8_formFor 27 = .ok (.goto 4, 3) := by decide +kernel
theorem dX8_formFor_30 : decode cX8_formFor 30 = .ok (.iconst 2, 1) := by decide +kernel
theorem dX8_formFor_31 : decode cX8_formFor 31 = .ok (.ireturn, 1) := by decide +kernel
theorem dX8_jumpSize_0 : decode cX8_jumpSize 0 = .ok (.iload_n 0, 1) := by decide +kernel
theorem dX8_jumpSize_1 : decode cX8_jumpSize 1 = .ok (.ifCond .ne 7, 3) := by decide +kernel
theorem dX8_jumpSize_4 : decode cX8_jumpSize 4 = .ok (.iconst 2, 1) := by decide +kernel
theorem dX8_jumpSize_5 : decode cX8_jumpSize 5 = .ok (.goto 13, 3) := by decide +kernel
theorem dX8_jumpSize_8 : decode cX8_jumpSize 8 = .ok (.iload_n 0, 1) := by decide +kernel
theorem dX8_jumpSize_9 : decode cX8_jumpSize 9 = .ok (.iconst 1, 1) := by decide +kernel
theorem dX8_jumpSize_10 : decode cX8_jumpSize 10 = .ok (.if_icmp .ne 7, 3) := by decide +kernel
theorem dX8_jumpSize_13 : decode cX8_jumpSize 13 = .ok (.iconst 3, 1) := by decide +kernel
theorem dX8_jumpSize_14 : decode cX8_jumpSize 14 = .ok (.goto 4, 3) := by decide +kernel
theorem dX8_jumpSize_17 : decode cX8_jumpSize 17 = .ok (.iconst 5, 1) := by decide +kernel
theorem dX8_jumpSize_18 : decode cX8_jumpSize 18 = .ok (.ireturn, 1) := by decide +kernel
theorem dX8_branchSize_0 : decode cX8_branchSize 0 = .ok (.iload_n 0, 1) := by decide +kernel
theorem dX8_branchSize_1 : decode cX8_branchSize 1 = .ok (.ifCond .ne 7, 3) := by decide +kernel
theorem dX8_branchSize_4 : decode cX8_branchSize 4 = .ok (.iconst 2, 1) := by decide +kernel
theorem dX8_branchSize_5 : decode cX8_branchSize 5 = .ok (.goto 14, 3) := by decide +kernel
theorem dX8_branchSize_8 : decode cX8_branchSize 8 = .ok (.iload_n 0, 1) := by decide +kernel
theorem dX8_branchSize_9 : decode cX8_branchSize 9 = .ok (.iconst 1, 1) := by decide +kernel
theorem dX8_branchSize_10 : decode cX8_branchSize 10 = .ok (.if_icmp .ne 7, 3) := by decide +kernel
theorem dX8_branchSize_13 : decode cX8_branchSize 13 = .ok (.iconst 4, 1) := by decide +kernel
theorem dX8_branchSize_14 : decode cX8_branchSize 14 = .ok (.goto 5, 3) := by decide +kernel
theorem dX8_branchSize_17 : decode cX8_branchSize 17 = .ok (.bipush 7, 2) := by decide +kernel
theorem dX8_branchSize_19 : decode cX8_branchSize 19 = .ok (.ireturn, 1) := by decide +kernel
theorem dX8_gapTo_0 : decode cX8_gapTo 0 = .ok (.iload_n 0, 1) := by decide +kernel
theorem dX8_gapTo_1 : decode cX8_gapTo 1 = .ok (.ineg, 1) := by decide +kernel
theorem dX8_gapTo_2 : decode cX8_gapTo 2 = .ok (.iload_n 1, 1) := by decide +kernel
theorem dX8_gapTo_3 : decode cX8_gapTo 3 = .ok (.iconst 1, 1) := by decide +kernel
theorem dX8_gapTo_4 : decode cX8_gapTo 4 = .ok (.isub, 1) := by decide +kernel
theorem dX8_gapTo_5 : decode cX8_gapTo 5 = .ok (.iand, 1) := by decide +kernel
theorem dX8_gapTo_6 : decode cX8_gapTo 6 = .ok (.ireturn, 1) := by decide +kernel
