theorem dX9_lacksLoad_0 : decode cX9_lacksLoad 0 = .ok (.aload_n 0, 1) := by decide +kernel
theorem dX9_lacksLoad_1 : decode cX9_lacksLoad 1 = .ok (.iload_n 1, 1) := by decide +kernel
theorem dX9_lacksLoad_2 : decode cX9_lacksLoad 2 = .ok (.invokevirtual 137, 3) := by decide +kernel
theorem dX9_lacksLoad_5 : decode cX9_lacksLoad 5 = .ok (.ifCond .ne 7, 3) := by decide +kernel
theorem dX9_lacksLoad_8 : decode cX9_lacksLoad 8 = .ok (.iconst 1, 1) := by decide +kernel
theorem dX9_lacksLoad_9 : decode cX9_lacksLoad 9 = .ok (.goto 18, 3) := by decide +kernel
theorem dX9_lacksLoad_12 : decode cX9_lacksLoad 12 = .ok (.aload_n 0, 1) := by decide +kernel
theorem dX9_lacksLoad_13 : decode cX9_lacksLoad 13 = .ok (.iload_n 1, 1) := by decide +kernel
theorem dX9_lacksLoad_14 : decode cX9_lacksLoad 14 = .ok (.invokevirtual 53, 3) := by decide +kernel
theorem dX9_lacksLoad_17 : decode cX9_lacksLoad 17 = .ok (.bipush 6, 2) := by decide +kernel
theorem dX9_lacksLoad_19 : decode cX9_lacksLoad 19 = .ok (.if_icmp .eq 7, 3) := by decide +kernel
theorem dX9_lacksLoad_22 : decode cX9_lacksLoad 22 = .ok (.iconst 2, 1) := by decide +kernel
theorem dX9_lacksLoad_23 : decode cX9_lacksLoad 23 = .ok (.goto 4, 3) := by decide +kernel
theorem dX9_lacksLoad_26 : decode cX9_lacksLoad 26 = .ok (.iconst 0, 1) := by decide +kernel
theorem dX9_lacksLoad_27 : decode cX9_lacksLoad 27 = .ok (.ireturn, 1) := by decide +kernel
theorem dX9_poolOf_0 : decode cX9_poolOf 0 = .ok (.aload_n 0, 1) := by decide +kernel
theorem dX9_poolOf_1 : decode cX9_poolOf 1 = .ok (.iload_n 1, 1) := by decide +kernel
theorem dX9_poolOf_2 : decode cX9_poolOf 2 = .ok (.invokevirtual 208, 3) := by decide +kernel
theorem dX9_poolOf_5 : decode cX9_poolOf 5 = .ok (.istore_n 2, 1) := by decide +kernel
theorem dX9_poolOf_6 : decode cX9_poolOf 6 = .ok (.iload_n 2, 1) := by decide +kernel
theorem dX9_poolOf_7 : decode cX9_poolOf 7 = .ok (.ifCond .eq 9, 3) := by decide +kernel
theorem dX9_poolOf_10 : decode cX9_poolOf 10 = .ok (.aload_n 0, 1) := by decide +kernel
theorem dX9_poolOf_11 : decode cX9_poolOf 11 = .ok (.iload_n 2, 1) := by decide +kernel
theorem dX9_poolOf_12 : decode cX9_poolOf 12 = .ok (.invokevirtual 93, 3) := by decide +kernel
theorem dX9_poolOf_15 : decode cX9_poolOf 15 = .ok (.ireturn, 1) := by decide +kernel
theorem dX9_poolOf_16 : decode cX9_poolOf 16 = .ok (.iconst 0, 1) := by decide +kernel
theorem dX9_poolOf_17 : decode cX9_poolOf 17 = .ok (.istore_n 3, 1) := by decide +kernel
theorem dX9_poolOf_18 : decode cX9_poolOf 18 = .ok (.iconst 0, 1) := by decide +kernel
theorem dX9_poolOf_19 : decode cX9_poolOf 19 = .ok (.istore 4, 2) := by decide +kernel
theorem dX9_poolOf_21 : decode cX9_poolOf 21 = .ok (.iload 4, 2) := by decide +kernel
theorem dX9_poolOf_23 : decode cX9_poolOf 23 = .ok (.iload_n 1, 1) := by decide +kernel
theorem dX9_poolOf_24 : decode cX9_poolOf 24 = .ok (.if_icmp .ge 28, 3) := by decide +kernel
theorem dX9_poolOf_27 : decode cX9_poolOf 27 = .ok (.iload_n 3, 1) := by decide +kernel
theorem dX9_poolOf_28 : decode cX9_poolOf 28 = .ok (.aload_n 0, 1) := by decide +kernel
theorem dX9_poolOf_29 : decode cX9_poolOf 29 = .ok (.iload 4, 2) := by decide +kernel
theorem dX9_poolOf_31 : decode cX9_poolOf 31 = .ok (.invokevirtual 53, 3) := by decide +kernel
theorem dX9_poolOf_34 : decode cX9_poolOf 34 = .ok (.bipush 7, 2) := by decide +kernel
theorem dX9_poolOf_36 : decode cX9_poolOf 36 = .ok (.if_icmp .ne 7, 3) := by decide +kernel
theorem dX9_poolOf_39 : decode cX9_poolOf 39 = .ok (.iconst 1, 1) := by decide +kernel
theorem dX9_poolOf_40 : decode cX9_poolOf 40 = .ok (.goto 4, 3) := by decide +kernel
theorem dX9_poolOf_43 : decode cX9_poolOf 43 = .ok (.iconst 0, 1) := by decide +kernel
theorem dX9_poolOf_44 : decode cX9_poolOf 44 = .ok (.iadd, 1) := by decide +kernel
theorem dX9_poolOf_45 : decode cX9_poolOf 45 = .ok (.istore_n 3, 1) := by decide +kernel
theorem dX9_poolOf_46 : decode cX9_poolOf 46 = .ok (.iinc 4 1, 3) := by decide +kernel
theorem dX9_poolOf_49 : decode cX9_poolOf 49 = .ok (.goto (-28), 3) := by decide +kernel
theorem dX9_poolOf_52 : decode cX9_poolOf 52 = .ok (.aload_n 0, 1) := by decide +kernel
theorem dX9_poolOf_53 : decode cX9_poolOf 53 = .ok (.iload_n 3, 1) := by decide +kernel
theorem dX9_poolOf_54 : decode cX9_poolOf 54 = .ok (.invokevirtual 90, 3) := by decide +kernel
theorem dX9_poolOf_57 : decode cX9_poolOf 57 = .ok (.ireturn, 1) := by decide +kernel
theorem dX9_far_0 : decode cX9_far 0 = .ok (.aload_n 0, 1) := by decide +kernel
theorem dX9_far_1 : decode cX9_far 1 = .ok (.iload_n 1, 1) := by decide +kernel
theorem dX9_far_2 : decode cX9_far 2 = .ok (.invokevirtual 211, 3) := by decide +kernel
theorem dX9_far_5 : decode cX9_far 5 = .ok (.istore_n 3, 1) := by decide +kernel
theorem dX9_far_6 : decode cX9_far 6 = .ok (.aload_n 0, 1) := by decide +kernel
theorem dX9_far_7 : decode cX9_far 7 = .ok (.iload_n 3, 1) := by decide +kernel
theorem dX9_far_8 : decode cX9_far 8 = .ok (.invokevirtual 69, 3) := by decide +kernel
theorem dX9_far_11 : decode cX9_far 11 = .ok (.aload_n 0, 1) := by decide +kernel
theorem dX9_far_12 : decode cX9_far 12 = .ok (.getfield 27, 3) := by decide +kernel
theorem dX9_far_15 : decode cX9_far 15 = .ok (.iload_n 3, 1) := by decide +kernel
theorem dX9_far_16 : decode cX9_far 16 = .ok (.iaload, 1) := by decide +kernel
theorem dX9_far_17 : decode cX9_far 17 = .ok (.iload_n 2, 1) := by decide +kernel
theorem dX9_far_18 : decode cX9_far 18 = .ok (.iadd, 1) := by decide +kernel
theorem dX9_far_19 : decode cX9_far 19 = .ok (.iconst 4, 1) := by decide +kernel
theorem dX9_far_20 : decode cX9_far 20 = .ok (.invokestatic 73, 3) := by decide +kernel
theorem dX9_far_23 : decode cX9_far 23 = .ok (.iconst 4, 1) := by decide +kernel
theorem dX9_far_24 : decode cX9_far 24 = .ok (.aload_n 0, 1) := by decide +kernel
theorem dX9_far_25 : decode cX9_far 25 = .ok (.aload_n 0, 1) := by decide +kernel
theorem dX9_far_26 : decode cX9_far 26 = .ok (.iload_n 1, 1) := by decide +kernel
theorem dX9_far_27 : decode cX9_far 27 = .ok (.invokevirtual 63, 3) := by decide +kernel
theorem dX9_far_30 : decode cX9_far 30 = .ok (.invokevirtual 66, 3) := by decide +kernel
theorem dX9_far_33 : decode cX9_far 33 = .ok (.imul, 1) := by decide +kernel
theorem dX9_far_34 : decode cX9_far 34 = .ok (.iadd, 1) := by decide +kernel
theorem dX9_far_35 : decode cX9_far 35 = .ok (.aload_n 0, 1) := by decide +kernel
theorem dX9_far_36 : decode cX9_far 36 = .ok (.getfield 27, 3) := by decide +kernel
theorem dX9_far_39 : decode cX9_far 39 = .ok (.iload_n 1, 1) := by decide +kernel
theorem dX9_far_40 : decode cX9_far 40 = .ok (.iconst 1, 1) := by decide +kernel
theorem dX9_far_41 : decode cX9_far 41 = .ok (.iadd, 1) := by decide +kernel
theorem dX9_far_42 : decode cX9_far 42 = .ok (.iaload, 1) := by decide +kernel
theorem dX9_far_43 : decode cX9_far 43 = .ok (.isub, 1) := by decide +kernel
theorem dX9_far_44 : decode cX9_far 44 = .ok (.ireturn, 1) := by decide +kernel
theorem dX9_distance_0 : decode cX9_distance 0 = .ok (.aload_n 0, 1) := by decide +kernel
theorem dX9_distance_1 : decode cX9_distance 1 = .ok (.iload_n 1, 1) := by decide +kernel
theorem dX9_distance_2 : decode cX9_distance 2 = .ok (.invokevirtual 208, 3) := by decide +kernel
theorem dX9_distance_5 : decode cX9_distance 5 = .ok (.istore_n 2, 1) := by decide +kernel
theorem dX9_distance_6 : decode cX9_distance 6 = .ok (.iload_n 2, 1) := by decide +kernel
theorem dX9_distance_7 : decode cX9_distance 7 = .ok (.ifCond .eq 9, 3) := by decide +kernel
theorem dX9_distance_10 : decode cX9_distance 10 = .ok (.aload_n 0, 1) := by decide +kernel
theorem dX9_distance_11 : decode cX9_distance 11 = .ok (.iload_n 2, 1) := by decide +kernel
theorem dX9_distance_12 : decode cX9_distance 12 = .ok (.invokevirtual 93, 3) := by decide +kernel
theorem dX9_distance_15 : decode cX9_distance 15 = .ok (.ireturn, 1) := by decide +kernel
theorem dX9_distance_16 : decode cX9_distance 16 = .ok (.aload_n 0, 1) := by decide +kernel
theorem dX9_distance_17 : decode cX9_distance 17 = .ok (.invokevirtual 143, 3) := by decide +kernel
theorem dX9_distance_20 : decode cX9_distance 20 = .ok (.aload_n 0, 1) := by decide +kernel
theorem dX9_distance_21 : decode cX9_distance 21 = .ok (.aload_n 0, 1) := by decide +kernel
theorem dX9_distance_22 : decode cX9_distance 22 = .ok (.iload_n 1, 1) := by decide +kernel
theorem dX9_distance_23 : decode cX9_distance 23 = .ok (.iconst 0, 1) := by decide +kernel
theorem dX9_distance_24 : decode cX9_distance 24 = .ok (.invokevirtual 214, 3) := by decide +kernel
theorem dX9_distance_27 : decode cX9_distance 27 = .ok (.invokevirtual 90, 3) := by decide +kernel
theorem dX9_distance_30 : decode cX9_distance 30 = .ok (.ireturn, 1) := by decide +kernel
theorem dX9_loadsOutOfReach_0 : decode cX9_loadsOutOfReach 0 = .ok (.aload_n 0, 1) := by decide +kernel
theorem dX9_loadsOutOfReach_1 : decode cX9_loadsOutOfReach 1 = .ok (.invokevirtual 143, 3) := by decide +kernel
theorem dX9_loadsOutOfReach_4 : decode cX9_loadsOutOfReach 4 = .ok (.iconst 0, 1) := by decide +kernel
theorem dX9_loadsOutOfReach_5 : decode cX9_loadsOutOfReach 5 = .ok (.istore_n 1, 1) := by decide +kernel
theorem dX9_loadsOutOfReach_6 : decode cX9_loadsOutOfReach 6 = .ok (.iconst 0, 1) := by decide +kernel
theorem dX9_loadsOutOfReach_7 : decode cX9_loadsOutOfReach 7 = .ok (.istore_n 2, 1) := by decide +kernel
theorem dX9_loadsOutOfReach_8 : decode cX9_loadsOutOfReach 8 = .ok (.iload_n 2, 1) := by decide +kernel
theorem dX9_loadsOutOfReach_9 : decode cX9_loadsOutOfReach 9 = .ok (.aload_n 0, 1) := by decide +kernel
theorem dX9_loadsOutOfReach_10 : decode cX9_loadsOutOfReach 10 = .ok (.getfield 7, 3) := by decide +kernel
theorem dX9_loadsOutOfReach_13 : decode cX9_loadsOutOfReach 13 = .ok (.iconst 0, 1) := by decide +kernel
theorem dX9_loadsOutOfReach_14 : decode cX9_loadsOutOfReach 14 = .ok (.iaload, 1) := by decide +kernel
theorem dX9_loadsOutOfReach_15 : decode cX9_loadsOutOfReach 15 = .ok (.if_icmp .ge 38, 3) := by decide +kernel
theorem dX9_loadsOutOfReach_18 : decode cX9_loadsOutOfReach 18 = .ok (.iload_n 1, 1) := by decide +kernel
theorem dX9_loadsOutOfReach_19 : decode cX9_loadsOutOfReach 19 = .ok (.aload_n 0, 1) := by decide +kernel
theorem dX9_loadsOutOfReach_20 : decode cX9_loadsOutOfReach 20 = .ok (.iload_n 2, 1) := by decide +kernel
theorem dX9_loadsOutOfReach_21 : decode cX9_loadsOutOfReach 21 = .ok (.invokevirtual 53, 3) := by decide +kernel
theorem dX9_loadsOutOfReach_24 : decode cX9_loadsOutOfReach 24 = .ok (.bipush 6, 2) := by decide +kernel
theorem dX9_loadsOutOfReach_26 : decode cX9_loadsOutOfReach 26 = .ok (.if_icmp .ne 18, 3) := by decide +kernel
theorem dX9_loadsOutOfReach_29 : decode cX9_loadsOutOfReach 29 = .ok (.aload_n 0, 1) := by decide +kernel
theorem dX9_loadsOutOfReach_30 : decode cX9_loadsOutOfReach 30 = .ok (.iload_n 2, 1) := by decide +kernel
theorem dX9_loadsOutOfReach_31 : decode cX9_loadsOutOfReach 31 = .ok (.iconst 0, 1) := by decide +kernel
theorem dX9_loadsOutOfReach_32 : decode cX9_loadsOutOfReach 32 = .ok (.invokevirtual 214, 3) := by decide +kernel
theorem dX9_loadsOutOfReach_35 : decode cX9_loadsOutOfReach 35 = .ok (.bipush 60, 2) := by decide +kernel
theorem dX9_loadsOutOfReach_37 : decode cX9_loadsOutOfReach 37 = .ok (.if_icmp .le 7, 3) := by decide +kernel
theorem dX9_loadsOutOfReach_40 : decode cX9_loadsOutOfReach 40 = .ok (.iconst 1, 1) := by decide +kernel
theorem dX9_loadsOutOfReach_41 : decode cX9_loadsOutOfReach 41 = .ok (.goto 4, 3) := by decide +kernel
theorem dX9_loadsOutOfReach_44 : decode cX9_loadsOutOfReach 44 = .ok (.iconst 0, 1) := by decide +kernel
theorem dX9_loadsOutOfReach_45 : decode cX9_loadsOutOfReach 45 = .ok (.iadd, 1) := by decide +kernel
theorem dX9_loadsOutOfReach_46 : decode cX9_loadsOutOfReach 46 = .ok (.istore_n 1, 1) := by decide +kernel
theorem dX9_loadsOutOfReach_47 : decode cX9_loadsOutOfReach 47 = .ok (.iinc 2 1, 3) := by decide +kernel
theorem dX9_loadsOutOfReach_50 : decode cX9_loadsOutOfReach 50 = .ok (.goto (-42), 3) := by decide +kernel
theorem dX9_loadsOutOfReach_53 : decode cX9_loadsOutOfReach 53 = .ok (.aload_n 0, 1) := by decide +kernel
theorem dX9_loadsOutOfReach_54 : decode cX9_loadsOutOfReach 54 = .ok (.iload_n 1, 1) := by decide +kernel
theorem dX9_loadsOutOfReach_55 : decode cX9_loadsOutOfReach 55 = .ok (.invokevirtual 90, 3) := by decide +kernel
theorem dX9_loadsOutOfReach_58 : decode cX9_loadsOutOfReach 58 = .ok (.ireturn, 1) := by decide +kernel
theorem dX9_slack_0 : decode cX9_slack 0 = .ok (.aload_n 0, 1) := by decide +kernel
theorem dX9_slack_1 : decode cX9_slack 1 = .ok (.iload_n 1, 1) := by decide +kernel
theorem dX9_slack_2 : decode cX9_slack 2 = .ok (.invokevirtual 208, 3) := by decide +kernel
theorem dX9_slack_5 : decode cX9_slack 5 = .ok (.istore_n 2, 1) := by decide +kernel
theorem dX9_slack_6 : decode cX9_slack 6 = .ok (.iload_n 2, 1) := by decide +kernel
theorem dX9_slack_7 : decode cX9_slack 7 = .ok (.ifCond .eq 9, 3) := by decide +kernel
theorem dX9_slack_10 : decode cX9_slack 10 = .ok (.aload_n 0, 1) := by decide +kernel
theorem dX9_slack_11 : decode cX9_slack 11 = .ok (.iload_n 2, 1) := by decide +kernel
theorem dX9_slack_12 : decode cX9_slack 12 = .ok (.invokevirtual 93, 3) := by decide +kernel
theorem dX9_slack_15 : decode cX9_slack 15 = .ok (.ireturn, 1) := by decide +kernel
theorem dX9_slack_16 : decode cX9_slack 16 = .ok (.aload_n 0, 1) := by decide +kernel
theorem dX9_slack_17 : decode cX9_slack 17 = .ok (.invokevirtual 143, 3) := by decide +kernel
theorem dX9_slack_20 : decode cX9_slack 20 = .ok (.iconst 0, 1) := by decide +kernel
theorem dX9_slack_21 : decode cX9_slack 21 = .ok (.istore_n 3, 1) := by decide +kernel
theorem dX9_slack_22 : decode cX9_slack 22 = .ok (.iload_n 3, 1) := by decide +kernel
theorem dX9_slack_23 : decode cX9_slack 23 = .ok (.bipush 50, 2) := by decide +kernel
theorem dX9_slack_25 : decode cX9_slack 25 = .ok (.if_icmp .ge 22, 3) := by decide +kernel
theorem dX9_slack_28 : decode cX9_slack 28 = .ok (.aload_n 0, 1) := by decide +kernel
theorem dX9_slack_29 : decode cX9_slack 29 = .ok (.iload_n 1, 1) := by decide +kernel
theorem dX9_slack_30 : decode cX9_slack 30 = .ok (.iload_n 3, 1) := by decide +kernel
theorem dX9_slack_31 : decode cX9_slack 31 = .ok (.iconst 1, 1) := by decide +kernel
theorem dX9_slack_32 : decode cX9_slack 32 = .ok (.iadd, 1) := by decide +kernel
theorem dX9_slack_33 : decode cX9_slack 33 = .ok (.invokevirtual 214, 3) := by decide +kernel
theorem dX9_slack_36 : decode cX9_slack 36 = .ok (.bipush 60, 2) := by decide +kernel
theorem dX9_slack_38 : decode cX9_slack 38 = .ok (.if_icmp .gt 9, 3) := by decide +kernel
theorem dX9_slack_41 : decode cX9_slack 41 = .ok (.iinc 3 1, 3) := by decide +kernel
theorem dX9_slack_44 : decode cX9_slack 44 = .ok (.goto (-22), 3) := by decide +kernel
theorem dX9_slack_47 : decode cX9_slack 47 = .ok (.aload_n 0, 1) := by decide +kernel
theorem dX9_slack_48 : decode cX9_slack 48 = .ok (.iload_n 3, 1) := by decide +kernel
theorem dX9_slack_49 : decode cX9_slack 49 = .ok (.invokevirtual 90, 3) := by decide +kernel
theorem dX9_slack_52 : decode cX9_slack 52 = .ok (.ireturn, 1) := by decide +kernel
theorem dX9_undo_0 : decode cX9_undo 0 = .ok (.aload_n 0, 1) := by decide +kernel
theorem dX9_undo_1 : decode cX9_undo 1 = .ok (.getfield 57, 3) := by decide +kernel
theorem dX9_undo_4 : decode cX9_undo 4 = .ok (.ifCond .ne 9, 3) := by decide +kernel
theorem dX9_undo_7 : decode cX9_undo 7 = .ok (.aload_n 0, 1) := by decide +kernel
theorem dX9_undo_8 : decode cX9_undo 8 = .ok (.iconst 1, 1) := by decide +kernel
theorem dX9_undo_9 : decode cX9_undo 9 = .ok (.invokevirtual 93, 3) := by decide +kernel
theorem dX9_undo_12 : decode cX9_undo 12 = .ok (.ireturn, 1) := by decide +kernel
theorem dX9_undo_13 : decode cX9_undo 13 = .ok (.aload_n 0, 1) := by decide +kernel
theorem dX9_undo_14 : decode cX9_undo 14 = .ok (.dup, 1) := by decide +kernel
theorem dX9_undo_15 : decode cX9_undo 15 = .ok (.getfield 57, 3) := by decide +kernel
theorem dX9_undo_18 : decode cX9_undo 18 = .ok (.iconst 1, 1) := by decide +kernel
theorem dX9_undo_19 : decode cX9_undo 19 = .ok (.isub, 1) := by decide +kernel
theorem dX9_undo_20 : decode cX9_undo 20 = .ok (.putfield 57, 3) := by decide +kernel
theorem dX9_undo_23 : decode cX9_undo 23 = .ok (.iconst 0, 1) := by decide +kernel
theorem dX9_undo_24 : decode cX9_undo 24 = .ok (.istore_n 1, 1) := by decide +kernel
theorem dX9_undo_25 : decode cX9_undo 25 = .ok (.iload_n 1, 1) := by decide +kernel
theorem dX9_undo_26 : decode cX9_undo 26 = .ok (.bipush 121, 2) := by decide +kernel
theorem dX9_undo_28 : decode cX9_undo 28 = .ok (.if_icmp .ge 29, 3) := by decide +kernel
theorem dX9_undo_31 : decode cX9_undo 31 = .ok (.aload_n 0, 1) := by decide +kernel
theorem dX9_undo_32 : decode cX9_undo 32 = .ok (.getfield 7, 3) := by decide +kernel
theorem dX9_undo_35 : decode cX9_undo 35 = .ok (.iload_n 1, 1) := by decide +kernel
theorem dX9_undo_36 : decode cX9_undo 36 = .ok (.aload_n 0, 1) := by decide +kernel
theorem dX9_undo_37 : decode cX9_undo 37 = .ok (.getfield 13, 3) := by decide +kernel
theorem dX9_undo_40 : decode cX9_undo 40 = .ok (.bipush 121, 2) := by decide +kernel
theorem dX9_undo_42 : decode cX9_undo 42 = .ok (.aload_n 0, 1) := by decide +kernel
theorem dX9_undo_43 : decode cX9_undo 43 = .ok (.getfield 57, 3) := by decide +kernel
theorem dX9_undo_46 : decode cX9_undo 46 = .ok (.imul, 1) := by decide +kernel
theorem dX9_undo_47 : decode cX9_undo 47 = .ok (.iload_n 1, 1) := by decide +kernel
theorem dX9_undo_48 : decode cX9_undo 48 = .ok (.iadd, 1) := by decide +kernel
theorem dX9_undo_49 : decode cX9_undo 49 = .ok (.iaload, 1) := by decide +kernel
theorem dX9_undo_50 : decode cX9_undo 50 = .ok (.iastore, 1) := by decide +kernel
theorem dX9_undo_51 : decode cX9_undo 51 = .ok (.iinc 1 1, 3) := by decide +kernel
theorem dX9_undo_54 : decode cX9_undo 54 = .ok (.goto (-29), 3) := by decide +kernel
theorem dX9_undo_57 : decode cX9_undo 57 = .ok (.aload_n 0, 1) := by decide +kernel
theorem dX9_undo_58 : decode cX9_undo 58 = .ok (.aload_n 0, 1) := by decide +kernel
theorem dX9_undo_59 : decode cX9_undo 59 = .ok (.getfield 57, 3) := by decide +kernel
theorem dX9_undo_62 : decode cX9_undo 62 = .ok (.invokevirtual 90, 3) := by decide +kernel
theorem dX9_undo_65 : decode cX9_undo 65 = .ok (.ireturn, 1) := by decide +kernel
theorem dX9_save_0 : decode cX9_save 0 = .ok (.aload_n 0, 1) := by decide +kernel
theorem dX9_save_1 : decode cX9_save 1 = .ok (.iconst 1, 1) := by decide +kernel
theorem dX9_save_2 : decode cX9_save 2 = .ok (.putfield 217, 3) := by decide +kernel
theorem dX9_save_5 : decode cX9_save 5 = .ok (.iconst 0, 1) := by decide +kernel
theorem dX9_save_6 : decode cX9_save 6 = .ok (.istore_n 1, 1) := by decide +kernel
theorem dX9_save_7 : decode cX9_save 7 = .ok (.iload_n 1, 1) := by decide +kernel
theorem dX9_save_8 : decode cX9_save 8 = .ok (.bipush 121, 2) := by decide +kernel
theorem dX9_save_10 : decode cX9_save 10 = .ok (.if_icmp .ge 21, 3) := by decide +kernel
theorem dX9_save_13 : decode cX9_save 13 = .ok (.aload_n 0, 1) := by decide +kernel
theorem dX9_save_14 : decode cX9_save 14 = .ok (.getfield 16, 3) := by decide +kernel
theorem dX9_save_17 : decode cX9_save 17 = .ok (.iload_n 1, 1) := by decide +kernel
theorem dX9_save_18 : decode cX9_save 18 = .ok (.aload_n 0, 1) := by decide +kernel
theorem dX9_save_19 : decode cX9_save 19 = .ok (.getfield 7, 3) := by decide +kernel
theorem dX9_save_22 : decode cX9_save 22 = .ok (.iload_n 1, 1) := by decide +kernel
theorem dX9_save_23 : decode cX9_save 23 = .ok (.iaload, 1) := by decide +kernel
theorem dX9_save_24 : decode cX9_save 24 = .ok (.iastore, 1) := by decide +kernel
theorem dX9_save_25 : decode cX9_save 25 = .ok (.iinc 1 1, 3) := by decide +kernel
theorem dX9_save_28 : decode cX9_save 28 = .ok (.goto (-21), 3) := by decide +kernel
theorem dX9_save_31 : decode cX9_save 31 = .ok (.aload_n 0, 1) := by decide +kernel
theorem dX9_save_32 : decode cX9_save 32 = .ok (.aload_n 0, 1) := by decide +kernel
theorem dX9_save_33 : decode cX9_save 33 = .ok (.getfield 7, 3) := by decide +kernel
theorem dX9_save_36 : decode cX9_save 36 = .ok (.iconst 0, 1) := by decide +kernel
theorem dX9_save_37 : decode cX9_save 37 = .ok (.iaload, 1) := by decide +kernel
theorem dX9_save_38 : decode cX9_save 38 = .ok (.invokevirtual 90, 3) := by decide +kernel
theorem dX9_save_41 : decode cX9_save 41 = .ok (.ireturn, 1) := by decide +kernel
theorem dX9_restore_0 : decode cX9_restore 0 = .ok (.aload_n 0, 1) := by decide +kernel
theorem dX9_restore_1 : decode cX9_restore 1 = .ok (.getfield 217, 3) := by decide +kernel
theorem dX9_restore_4 : decode cX9_restore 4 = .ok (.ifCond .ne 9, 3) := by decide +kernel
theorem dX9_restore_7 : decode cX9_restore 7 = .ok (.aload_n 0, 1) := by decide +kernel
theorem dX9_restore_8 : decode cX9_restore 8 = .ok (.iconst 1, 1) := by decide +kernel
theorem dX9_restore_9 : decode cX9_restore 9 = .ok (.invokevirtual 93, 3) := by decide +kernel
theorem dX9_restore_12 : decode cX9_restore 12 = .ok (.ireturn, 1) := by decide +kernel
theorem dX9_restore_13 : decode cX9_restore 13 = .ok (.iconst 0, 1) := by decide +kernel
theorem dX9_restore_14 : decode cX9_restore 14 = .ok (.istore_n 1, 1) := by decide +kernel
theorem dX9_restore_15 : decode cX9_restore 15 = .ok (.iload_n 1, 1) := by decide +kernel
theorem dX9_restore_16 : decode cX9_restore 16 = .ok (.bipush 121, 2) := by decide +kernel
theorem dX9_restore_18 : decode cX9_restore 18 = .ok (.if_icmp .ge 21, 3) := by decide +kernel
theorem dX9_restore_21 : decode cX9_restore 21 = .ok (.aload_n 0, 1) := by decide +kernel
theorem dX9_restore_22 : decode cX9_restore 22 = .ok (.getfield 7, 3) := by decide +kernel
theorem dX9_restore_25 : decode cX9_restore 25 = .ok (.iload_n 1, 1) := by decide +kernel
theorem dX9_restore_26 : decode cX9_restore 26 = .ok (.aload_n 0, 1) := by decide +kernel
theorem dX9_restore_27 : decode cX9_restore 27 = .ok (.getfield 16, 3) := by decide +kernel
theorem dX9_restore_30 : decode cX9_restore 30 = .ok (.iload_n 1, 1) := by decide +kernel
theorem dX9_restore_31 : decode cX9_restore 31 = .ok (.iaload, 1) := by decide +kernel
theorem dX9_restore_32 : decode cX9_restore 32 = .ok (.iastore, 1) := by decide +kernel
theorem dX9_restore_33 : decode cX9_restore 33 = .ok (.iinc 1 1, 3) := by decide +kernel
theorem dX9_restore_36 : decode cX9_restore 36 = .ok (.goto (-21), 3) := by decide +kernel
theorem dX9_restore_39 : decode cX9_restore 39 = .ok (.aload_n 0, 1) := by decide +kernel
theorem dX9_restore_40 : decode cX9_restore 40 = .ok (.iconst 0, 1) := by decide +kernel
theorem dX9_restore_41 : decode cX9_restore 41 = .ok (.putfield 57, 3) := by decide +kernel
theorem dX9_restore_44 : decode cX9_restore 44 = .ok (.aload_n 0, 1) := by decide +kernel
theorem dX9_restore_45 : decode cX9_restore 45 = .ok (.aload_n 0, 1) := by decide +kernel
theorem dX9_restore_46 : decode cX9_restore 46 = .ok (.getfield 7, 3) := by decide +kernel
theorem dX9_restore_49 : decode cX9_restore 49 = .ok (.iconst 0, 1) := by decide +kernel
theorem dX9_restore_50 : decode cX9_restore 50 = .ok (.iaload, 1) := by decide +kernel
theorem dX9_restore_51 : decode cX9_restore 51 = .ok (.invokevirtual 90, 3) := by decide +kernel
theorem dX9_restore_54 : decode cX9_restore 54 = .ok (.ireturn, 1) := by decide +kernel
