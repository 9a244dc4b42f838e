theorem dX9_misfits_15 : decode cX9_misfits 15 = .ok (.aload_n 0, 1) := by decide +kernel
theorem dX9_misfits_16 : decode cX9_misfits 16 = .ok (.aload_n 0, 1) := by decide +kernel
theorem dX9_misfits_17 : decode cX9_misfits 17 = .ok (.invokevirtual 174, 3) := by decide +kernel
theorem dX9_misfits_20 : decode cX9_misfits 20 = .ok (.invokevirtual 90, 3) := by decide +kernel
theorem dX9_misfits_23 : decode cX9_misfits 23 = .ok (.ireturn, 1) := by decide +kernel
theorem dX9_neededForm_0 : decode cX9_neededForm 0 = .ok (.aload_n 0, 1) := by decide +kernel
theorem dX9_neededForm_1 : decode cX9_neededForm 1 = .ok (.iload_n 1, 1) := by decide +kernel
theorem dX9_neededForm_2 : decode cX9_neededForm 2 = .ok (.invokevirtual 168, 3) := by decide +kernel
theorem dX9_neededForm_5 : decode cX9_neededForm 5 = .ok (.istore_n 2, 1) := by decide +kernel
theorem dX9_neededForm_6 : decode cX9_neededForm 6 = .ok (.iload_n 2, 1) := by decide +kernel
theorem dX9_neededForm_7 : decode cX9_neededForm 7 = .ok (.ifCond .eq 11, 3) := by decide +kernel
theorem dX9_neededForm_10 : decode cX9_neededForm 10 = .ok (.aload_n 0, 1) := by decide +kernel
theorem dX9_neededForm_11 : decode cX9_neededForm 11 = .ok (.iload_n 2, 1) := by decide +kernel
theorem dX9_neededForm_12 : decode cX9_neededForm 12 = .ok (.invokevirtual 93, 3) := by decide +kernel
theorem dX9_neededForm_15 : decode cX9_neededForm 15 = .ok (.goto 15, 3) := by decide +kernel
theorem dX9_neededForm_18 : decode cX9_neededForm 18 = .ok (.aload_n 0, 1) := by decide +kernel
theorem dX9_neededForm_19 : decode cX9_neededForm 19 = .ok (.aload_n 0, 1) := by decide +kernel
theorem dX9_neededForm_20 : decode cX9_neededForm 20 = .ok (.iload_n 1, 1) := by decide +kernel
theorem dX9_neededForm_21 : decode cX9_neededForm 21 = .ok (.invokevirtual 162, 3) := by decide +kernel
theorem dX9_neededForm_24 : decode cX9_neededForm 24 = .ok (.invokestatic 165, 3) := by decide +kernel
theorem dX9_neededForm_27 : decode cX9_neededForm 27 = .ok (.invokevirtual 90, 3) := by decide +kernel
theorem dX9_neededForm_30 : decode cX9_neededForm 30 = .ok (.ireturn, 1) := by decide +kernel
theorem dX9_round_0 : decode cX9_round 0 = .ok (.aload_n 0, 1) := by decide +kernel
theorem dX9_round_1 : decode cX9_round 1 = .ok (.invokevirtual 143, 3) := by decide +kernel
theorem dX9_round_4 : decode cX9_round 4 = .ok (.iconst 0, 1) := by decide +kernel
theorem dX9_round_5 : decode cX9_round 5 = .ok (.istore_n 1, 1) := by decide +kernel
theorem dX9_round_6 : decode cX9_round 6 = .ok (.iconst 0, 1) := by decide +kernel
theorem dX9_round_7 : decode cX9_round 7 = .ok (.istore_n 2, 1) := by decide +kernel
theorem dX9_round_8 : decode cX9_round 8 = .ok (.iload_n 2, 1) := by decide +kernel
theorem dX9_round_9 : decode cX9_round 9 = .ok (.aload_n 0, 1) := by decide +kernel
theorem dX9_round_10 : decode cX9_round 10 = .ok (.getfield 7, 3) := by decide +kernel
theorem dX9_round_13 : decode cX9_round 13 = .ok (.iconst 0, 1) := by decide +kernel
theorem dX9_round_14 : decode cX9_round 14 = .ok (.iaload, 1) := by decide +kernel
theorem dX9_round_15 : decode cX9_round 15 = .ok (.if_icmp .ge 52, 3) := by decide +kernel
theorem dX9_round_18 : decode cX9_round 18 = .ok (.aload_n 0, 1) := by decide +kernel
theorem dX9_round_19 : decode cX9_round 19 = .ok (.getfield 43, 3) := by decide +kernel
theorem dX9_round_22 : decode cX9_round 22 = .ok (.iload_n 2, 1) := by decide +kernel
theorem dX9_round_23 : decode cX9_round 23 = .ok (.aload_n 0, 1) := by decide +kernel
theorem dX9_round_24 : decode cX9_round 24 = .ok (.iload_n 2, 1) := by decide +kernel
theorem dX9_round_25 : decode cX9_round 25 = .ok (.invokevirtual 83, 3) := by decide +kernel
theorem dX9_round_28 : decode cX9_round 28 = .ok (.iastore, 1) := by decide +kernel
theorem dX9_round_29 : decode cX9_round 29 = .ok (.aload_n 0, 1) := by decide +kernel
theorem dX9_round_30 : decode cX9_round 30 = .ok (.iload_n 2, 1) := by decide +kernel
theorem dX9_round_31 : decode cX9_round 31 = .ok (.invokevirtual 146, 3) := by decide +kernel
theorem dX9_round_34 : decode cX9_round 34 = .ok (.ifCond .eq 27, 3) := by decide +kernel
theorem dX9_round_37 : decode cX9_round 37 = .ok (.aload_n 0, 1) := by decide +kernel
theorem dX9_round_38 : decode cX9_round 38 = .ok (.iload_n 2, 1) := by decide +kernel
theorem dX9_round_39 : decode cX9_round 39 = .ok (.invokevirtual 171, 3) := by decide +kernel
theorem dX9_round_42 : decode cX9_round 42 = .ok (.ifCond .ne 19, 3) := by decide +kernel
theorem dX9_round_45 : decode cX9_round 45 = .ok (.aload_n 0, 1) := by decide +kernel
theorem dX9_round_46 : decode cX9_round 46 = .ok (.getfield 43, 3) := by decide +kernel
theorem dX9_round_49 : decode cX9_round 49 = .ok (.iload_n 2, 1) := by decide +kernel
theorem dX9_round_50 : decode cX9_round 50 = .ok (.aload_n 0, 1) := by decide +kernel
theorem dX9_round_51 : decode cX9_round 51 = .ok (.iload_n 2, 1) := by decide +kernel
theorem dX9_round_52 : decode cX9_round 52 = .ok (.invokevirtual 162, 3) := by decide +kernel
theorem dX9_round_55 : decode cX9_round 55 = .ok (.invokestatic 165, 3) := by decide +kernel
theorem dX9_round_58 : decode cX9_round 58 = .ok (.iastore, 1) := by decide +kernel
theorem dX9_round_59 : decode cX9_round 59 = .ok (.iconst 1, 1) := by decide +kernel
theorem dX9_round_60 : decode cX9_round 60 = .ok (.istore_n 1, 1) := by decide +kernel
theorem dX9_round_61 : decode cX9_round 61 = .ok (.iinc 2 1, 3) := by decide +kernel
theorem dX9_round_64 : decode cX9_round 64 = .ok (.goto (-56), 3) := by decide +kernel
theorem dX9_round_67 : decode cX9_round 67 = .ok (.iconst 0, 1) := by decide +kernel
theorem dX9_round_68 : decode cX9_round 68 = .ok (.istore_n 2, 1) := by decide +kernel
theorem dX9_round_69 : decode cX9_round 69 = .ok (.iload_n 2, 1) := by decide +kernel
theorem dX9_round_70 : decode cX9_round 70 = .ok (.aload_n 0, 1) := by decide +kernel
theorem dX9_round_71 : decode cX9_round 71 = .ok (.getfield 7, 3) := by decide +kernel
theorem dX9_round_74 : decode cX9_round 74 = .ok (.iconst 0, 1) := by decide +kernel
theorem dX9_round_75 : decode cX9_round 75 = .ok (.iaload, 1) := by decide +kernel
theorem dX9_round_76 : decode cX9_round 76 = .ok (.if_icmp .ge 20, 3) := by decide +kernel
theorem dX9_round_79 : decode cX9_round 79 = .ok (.aload_n 0, 1) := by decide +kernel
theorem dX9_round_80 : decode cX9_round 80 = .ok (.iload_n 2, 1) := by decide +kernel
theorem dX9_round_81 : decode cX9_round 81 = .ok (.aload_n 0, 1) := by decide +kernel
theorem dX9_round_82 : decode cX9_round 82 = .ok (.getfield 43, 3) := by decide +kernel
theorem dX9_round_85 : decode cX9_round 85 = .ok (.iload_n 2, 1) := by decide +kernel
theorem dX9_round_86 : decode cX9_round 86 = .ok (.iaload, 1) := by decide +kernel
theorem dX9_round_87 : decode cX9_round 87 = .ok (.invokevirtual 113, 3) := by decide +kernel
theorem dX9_round_90 : decode cX9_round 90 = .ok (.iinc 2 1, 3) := by decide +kernel
theorem dX9_round_93 : decode cX9_round 93 = .ok (.goto (-24), 3) := by decide +kernel
theorem dX9_round_96 : decode cX9_round 96 = .ok (.iload_n 1, 1) := by decide +kernel
theorem dX9_round_97 : decode cX9_round 97 = .ok (.ireturn, 1) := by decide +kernel
theorem dX9_relax_0 : decode cX9_relax 0 = .ok (.aload_n 0, 1) := by decide +kernel
theorem dX9_relax_1 : decode cX9_relax 1 = .ok (.invokevirtual 159, 3) := by decide +kernel
theorem dX9_relax_4 : decode cX9_relax 4 = .ok (.ifCond .le 9, 3) := by decide +kernel
theorem dX9_relax_7 : decode cX9_relax 7 = .ok (.aload_n 0, 1) := by decide +kernel
theorem dX9_relax_8 : decode cX9_relax 8 = .ok (.iconst 1, 1) := by decide +kernel
theorem dX9_relax_9 : decode cX9_relax 9 = .ok (.invokevirtual 93, 3) := by decide +kernel
theorem dX9_relax_12 : decode cX9_relax 12 = .ok (.ireturn, 1) := by decide +kernel
theorem dX9_relax_13 : decode cX9_relax 13 = .ok (.aload_n 0, 1) := by decide +kernel
theorem dX9_relax_14 : decode cX9_relax 14 = .ok (.invokevirtual 131, 3) := by decide +kernel
theorem dX9_relax_17 : decode cX9_relax 17 = .ok (.iconst 0, 1) := by decide +kernel
theorem dX9_relax_18 : decode cX9_relax 18 = .ok (.istore_n 1, 1) := by decide +kernel
theorem dX9_relax_19 : decode cX9_relax 19 = .ok (.iload_n 1, 1) := by decide +kernel
theorem dX9_relax_20 : decode cX9_relax 20 = .ok (.aload_n 0, 1) := by decide +kernel
theorem dX9_relax_21 : decode cX9_relax 21 = .ok (.getfield 7, 3) := by decide +kernel
theorem dX9_relax_24 : decode cX9_relax 24 = .ok (.iconst 0, 1) := by decide +kernel
theorem dX9_relax_25 : decode cX9_relax 25 = .ok (.iaload, 1) := by decide +kernel
theorem dX9_relax_26 : decode cX9_relax 26 = .ok (.if_icmp .ge 15, 3) := by decide +kernel
theorem dX9_relax_29 : decode cX9_relax 29 = .ok (.aload_n 0, 1) := by decide +kernel
theorem dX9_relax_30 : decode cX9_relax 30 = .ok (.iload_n 1, 1) := by decide +kernel
theorem dX9_relax_31 : decode cX9_relax 31 = .ok (.iconst 0, 1) := by decide +kernel
theorem dX9_relax_32 : decode cX9_relax 32 = .ok (.invokevirtual 113, 3) := by decide +kernel
theorem dX9_relax_35 : decode cX9_relax 35 = .ok (.iinc 1 1, 3) := by decide +kernel
theorem dX9_relax_38 : decode cX9_relax 38 = .ok (.goto (-19), 3) := by decide +kernel
theorem dX9_relax_41 : decode cX9_relax 41 = .ok (.iconst 0, 1) := by decide +kernel
theorem dX9_relax_42 : decode cX9_relax 42 = .ok (.istore_n 1, 1) := by decide +kernel
theorem dX9_relax_43 : decode cX9_relax 43 = .ok (.aload_n 0, 1) := by decide +kernel
theorem dX9_relax_44 : decode cX9_relax 44 = .ok (.invokevirtual 177, 3) := by decide +kernel
theorem dX9_relax_47 : decode cX9_relax 47 = .ok (.ifCond .eq 9, 3) := by decide +kernel
theorem dX9_relax_50 : decode cX9_relax 50 = .ok (.iinc 1 1, 3) := by decide +kernel
theorem dX9_relax_53 : decode cX9_relax 53 = .ok (.goto (-10), 3) := by decide +kernel
theorem dX9_relax_56 : decode cX9_relax 56 = .ok (.aload_n 0, 1) := by decide +kernel
theorem dX9_relax_57 : decode cX9_relax 57 = .ok (.iload_n 1, 1) := by decide +kernel
theorem dX9_relax_58 : decode cX9_relax 58 = .ok (.invokevirtual 90, 3) := by decide +kernel
theorem dX9_relax_61 : decode cX9_relax 61 = .ok (.ireturn, 1) := by decide +kernel
theorem dX9_pass_0 : decode cX9_pass 0 = .ok (.iconst 0, 1) := by decide +kernel
theorem dX9_pass_1 : decode cX9_pass 1 = .ok (.istore_n 1, 1) := by decide +kernel
theorem dX9_pass_2 : decode cX9_pass 2 = .ok (.iconst 0, 1) := by decide +kernel
theorem dX9_pass_3 : decode cX9_pass 3 = .ok (.istore_n 2, 1) := by decide +kernel
theorem dX9_pass_4 : decode cX9_pass 4 = .ok (.iload_n 2, 1) := by decide +kernel
theorem dX9_pass_5 : decode cX9_pass 5 = .ok (.aload_n 0, 1) := by decide +kernel
theorem dX9_pass_6 : decode cX9_pass 6 = .ok (.getfield 7, 3) := by decide +kernel
theorem dX9_pass_9 : decode cX9_pass 9 = .ok (.iconst 0, 1) := by decide +kernel
theorem dX9_pass_10 : decode cX9_pass 10 = .ok (.iaload, 1) := by decide +kernel
theorem dX9_pass_11 : decode cX9_pass 11 = .ok (.if_icmp .ge 62, 3) := by decide +kernel
theorem dX9_pass_14 : decode cX9_pass 14 = .ok (.aload_n 0, 1) := by decide +kernel
theorem dX9_pass_15 : decode cX9_pass 15 = .ok (.iload_n 2, 1) := by decide +kernel
theorem dX9_pass_16 : decode cX9_pass 16 = .ok (.invokevirtual 146, 3) := by decide +kernel
theorem dX9_pass_19 : decode cX9_pass 19 = .ok (.ifCond .eq 48, 3) := by decide +kernel
theorem dX9_pass_22 : decode cX9_pass 22 = .ok (.aload_n 0, 1) := by decide +kernel
theorem dX9_pass_23 : decode cX9_pass 23 = .ok (.iload_n 2, 1) := by decide +kernel
theorem dX9_pass_24 : decode cX9_pass 24 = .ok (.invokevirtual 83, 3) := by decide +kernel
theorem dX9_pass_27 : decode cX9_pass 27 = .ok (.ifCond .le 40, 3) := by decide +kernel
theorem dX9_pass_30 : decode cX9_pass 30 = .ok (.aload_n 0, 1) := by decide +kernel
theorem dX9_pass_31 : decode cX9_pass 31 = .ok (.iload_n 2, 1) := by decide +kernel
theorem dX9_pass_32 : decode cX9_pass 32 = .ok (.aload_n 0, 1) := by decide +kernel
theorem dX9_pass_33 : decode cX9_pass 33 = .ok (.iload_n 2, 1) := by decide +kernel
theorem dX9_pass_34 : decode cX9_pass 34 = .ok (.invokevirtual 83, 3) := by decide +kernel
theorem dX9_pass_37 : decode cX9_pass 37 = .ok (.iconst 1, 1) := by decide +kernel
theorem dX9_pass_38 : decode cX9_pass 38 = .ok (.isub, 1) := by decide +kernel
theorem dX9_pass_39 : decode cX9_pass 39 = .ok (.invokevirtual 113, 3) := by decide +kernel
theorem dX9_pass_42 : decode cX9_pass 42 = .ok (.aload_n 0, 1) := by decide +kernel
theorem dX9_pass_43 : decode cX9_pass 43 = .ok (.invokevirtual 174, 3) := by decide +kernel
theorem dX9_pass_46 : decode cX9_pass 46 = .ok (.ifCond .ne 9, 3) := by decide +kernel
theorem dX9_pass_49 : decode cX9_pass 49 = .ok (.iinc 1 1, 3) := by decide +kernel
theorem dX9_pass_52 : decode cX9_pass 52 = .ok (.goto 15, 3) := by decide +kernel
theorem dX9_pass_55 : decode cX9_pass 55 = .ok (.aload_n 0, 1) := by decide +kernel
theorem dX9_pass_56 : decode cX9_pass 56 = .ok (.iload_n 2, 1) := by decide +kernel
theorem dX9_pass_57 : decode cX9_pass 57 = .ok (.aload_n 0, 1) := by decide +kernel
theorem dX9_pass_58 : decode cX9_pass 58 = .ok (.iload_n 2, 1) := by decide +kernel
theorem dX9_pass_59 : decode cX9_pass 59 = .ok (.invokevirtual 83, 3) := by decide +kernel
theorem dX9_pass_62 : decode cX9_pass 62 = .ok (.iconst 1, 1) := by decide +kernel
theorem dX9_pass_63 : decode cX9_pass 63 = .ok (.iadd, 1) := by decide +kernel
theorem dX9_pass_64 : decode cX9_pass 64 = .ok (.invokevirtual 113, 3) := by decide +kernel
theorem dX9_pass_67 : decode cX9_pass 67 = .ok (.iinc 2 1, 3) := by decide +kernel
theorem dX9_pass_70 : decode cX9_pass 70 = .ok (.goto (-66), 3) := by decide +kernel
theorem dX9_pass_73 : decode cX9_pass 73 = .ok (.iload_n 1, 1) := by decide +kernel
theorem dX9_pass_74 : decode cX9_pass 74 = .ok (.ireturn, 1) := by decide +kernel
theorem dX9_shrink_0 : decode cX9_shrink 0 = .ok (.aload_n 0, 1) := by decide +kernel
theorem dX9_shrink_1 : decode cX9_shrink 1 = .ok (.invokevirtual 159, 3) := by decide +kernel
theorem dX9_shrink_4 : decode cX9_shrink 4 = .ok (.ifCond .gt 10, 3) := by decide +kernel
theorem dX9_shrink_7 : decode cX9_shrink 7 = .ok (.aload_n 0, 1) := by decide +kernel
theorem dX9_shrink_8 : decode cX9_shrink 8 = .ok (.invokevirtual 174, 3) := by decide +kernel
theorem dX9_shrink_11 : decode cX9_shrink 11 = .ok (.ifCond .le 9, 3) := by decide +kernel
theorem dX9_shrink_14 : decode cX9_shrink 14 = .ok (.aload_n 0, 1) := by decide +kernel
theorem dX9_shrink_15 : decode cX9_shrink 15 = .ok (.iconst 1, 1) := by decide +kernel
theorem dX9_shrink_16 : decode cX9_shrink 16 = .ok (.invokevirtual 93, 3) := by decide +kernel
theorem dX9_shrink_19 : decode cX9_shrink 19 = .ok (.ireturn, 1) := by decide +kernel
theorem dX9_shrink_20 : decode cX9_shrink 20 = .ok (.aload_n 0, 1) := by decide +kernel
theorem dX9_shrink_21 : decode cX9_shrink 21 = .ok (.invokevirtual 131, 3) := by decide +kernel
theorem dX9_shrink_24 : decode cX9_shrink 24 = .ok (.iconst 0, 1) := by decide +kernel
theorem dX9_shrink_25 : decode cX9_shrink 25 = .ok (.istore_n 1, 1) := by decide +kernel
theorem dX9_shrink_26 : decode cX9_shrink 26 = .ok (.aload_n 0, 1) := by decide +kernel
theorem dX9_shrink_27 : decode cX9_shrink 27 = .ok (.invokevirtual 181, 3) := by decide +kernel
theorem dX9_shrink_30 : decode cX9_shrink 30 = .ok (.istore_n 2, 1) := by decide +kernel
theorem dX9_shrink_31 : decode cX9_shrink 31 = .ok (.iload_n 2, 1) := by decide +kernel
theorem dX9_shrink_32 : decode cX9_shrink 32 = .ok (.ifCond .le 15, 3) := by decide +kernel
theorem dX9_shrink_35 : decode cX9_shrink 35 = .ok (.iload_n 1, 1) := by decide +kernel
theorem dX9_shrink_36 : decode cX9_shrink 36 = .ok (.iload_n 2, 1) := by decide +kernel
theorem dX9_shrink_37 : decode cX9_shrink 37 = .ok (.iadd, 1) := by decide +kernel
theorem dX9_shrink_38 : decode cX9_shrink 38 = .ok (.istore_n 1, 1) := by decide +kernel
theorem dX9_shrink_39 : decode cX9_shrink 39 = .ok (.aload_n 0, 1) := by decide +kernel
theorem dX9_shrink_40 : decode cX9_shrink 40 = .ok (.invokevirtual 181, 3) := by decide +kernel
theorem dX9_shrink_43 : decode cX9_shrink 43 = .ok (.istore_n 2, 1) := by decide +kernel
theorem dX9_shrink_44 : decode cX9_shrink 44 = .ok (.goto (-13), 3) := by decide +kernel
theorem dX9_shrink_47 : decode cX9_shrink 47 = .ok (.aload_n 0, 1) := by decide +kernel
theorem dX9_shrink_48 : decode cX9_shrink 48 = .ok (.iload_n 1, 1) := by decide +kernel
theorem dX9_shrink_49 : decode cX9_shrink 49 = .ok (.invokevirtual 90, 3) := by decide +kernel
theorem dX9_shrink_52 : decode cX9_shrink 52 = .ok (.ireturn, 1) := by decide +kernel
theorem dX9_chooses_0 : decode cX9_chooses 0 = .ok (.iload_n 1, 1) := by decide +kernel
theorem dX9_chooses_1 : decode cX9_chooses 1 = .ok (.istore_n 3, 1) := by decide +kernel
theorem dX9_chooses_2 : decode cX9_chooses 2 = .ok (.aload_n 0, 1) := by decide +kernel
theorem dX9_chooses_3 : decode cX9_chooses 3 = .ok (.getfield 7, 3) := by decide +kernel
theorem dX9_chooses_6 : decode cX9_chooses 6 = .ok (.iconst 0, 1) := by decide +kernel
theorem dX9_chooses_7 : decode cX9_chooses 7 = .ok (.iaload, 1) := by decide +kernel
theorem dX9_chooses_8 : decode cX9_chooses 8 = .ok (.iconst 1, 1) := by decide +kernel
theorem dX9_chooses_9 : decode cX9_chooses 9 = .ok (.isub, 1) := by decide +kernel
theorem dX9_chooses_10 : decode cX9_chooses 10 = .ok (.istore 4, 2) := by decide +kernel
theorem dX9_chooses_12 : decode cX9_chooses 12 = .ok (.iload 4, 2) := by decide +kernel
theorem dX9_chooses_14 : decode cX9_chooses 14 = .ok (.ifCond .lt 31, 3) := by decide +kernel
theorem dX9_chooses_17 : decode cX9_chooses 17 = .ok (.aload_n 0, 1) := by decide +kernel
theorem dX9_chooses_18 : decode cX9_chooses 18 = .ok (.iload 4, 2) := by decide +kernel
theorem dX9_chooses_20 : decode cX9_chooses 20 = .ok (.invokevirtual 146, 3) := by decide +kernel
theorem dX9_chooses_23 : decode cX9_chooses 23 = .ok (.ifCond .eq 16, 3) := by decide +kernel
theorem dX9_chooses_26 : decode cX9_chooses 26 = .ok (.aload_n 0, 1) := by decide +kernel
theorem dX9_chooses_27 : decode cX9_chooses 27 = .ok (.iload 4, 2) := by decide +kernel
theorem dX9_chooses_29 : decode cX9_chooses 29 = .ok (.iload_n 3, 1) := by decide +kernel
theorem dX9_chooses_30 : decode cX9_chooses 30 = .ok (.iconst 3, 1) := by decide +kernel
theorem dX9_chooses_31 : decode cX9_chooses 31 = .ok (.irem, 1) := by decide +kernel
theorem dX9_chooses_32 : decode cX9_chooses 32 = .ok (.invokevirtual 113, 3) := by decide +kernel
theorem dX9_chooses_35 : decode cX9_chooses 35 = .ok (.iload_n 3, 1) := by decide +kernel
theorem dX9_chooses_36 : decode cX9_chooses 36 = .ok (.iconst 3, 1) := by decide +kernel
theorem dX9_chooses_37 : decode cX9_chooses 37 = .ok (.idiv, 1) := by decide +kernel
theorem dX9_chooses_38 : decode cX9_chooses 38 = .ok (.istore_n 3, 1) := by decide +kernel
theorem dX9_chooses_39 : decode cX9_chooses 39 = .ok (.iinc 4 (-1), 3) := by decide +kernel
theorem dX9_chooses_42 : decode cX9_chooses 42 = .ok (.goto (-30), 3) := by decide +kernel
theorem dX9_chooses_45 : decode cX9_chooses 45 = .ok (.return_, 1) := by decide +kernel
theorem dX9_tellChoices_0 : decode cX9_tellChoices 0 = .ok (.iconst 0, 1) := by decide +kernel
theorem dX9_tellChoices_1 : decode cX9_tellChoices 1 = .ok (.istore_n 1, 1) := by decide +kernel
theorem dX9_tellChoices_2 : decode cX9_tellChoices 2 = .ok (.iload_n 1, 1) := by decide +kernel
theorem dX9_tellChoices_3 : decode cX9_tellChoices 3 = .ok (.aload_n 0, 1) := by decide +kernel
theorem dX9_tellChoices_4 : decode cX9_tellChoices 4 = .ok (.getfield 7, 3) := by decide +kernel
theorem dX9_tellChoices_7 : decode cX9_tellChoices 7 = .ok (.iconst 0, 1) := by decide +kernel
theorem dX9_tellChoices_8 : decode cX9_tellChoices 8 = .ok (.iaload, 1) := by decide +kernel
theorem dX9_tellChoices_9 : decode cX9_tellChoices 9 = .ok (.if_icmp .ge 20, 3) := by decide +kernel
theorem dX9_tellChoices_12 : decode cX9_tellChoices 12 = .ok (.aload_n 0, 1) := by decide +kernel
theorem dX9_tellChoices_13 : decode cX9_tellChoices 13 = .ok (.getfield 43, 3) := by decide +kernel
theorem dX9_tellChoices_16 : decode cX9_tellChoices 16 = .ok (.iload_n 1, 1) := by decide +kernel
theorem dX9_tellChoices_17 : decode cX9_tellChoices 17 = .ok (.aload_n 0, 1) := by decide +kernel
theorem dX9_tellChoices_18 : decode cX9_tellChoices 18 = .ok (.iload_n 1, 1) := by decide +kernel
theorem dX9_tellChoices_19 : decode cX9_tellChoices 19 = .ok (.invokevirtual 83, 3) := by decide +kernel
theorem dX9_tellChoices_22 : decode cX9_tellChoices 22 = .ok (.iastore, 1) := by decide +kernel
theorem dX9_tellChoices_23 : decode cX9_tellChoices 23 = .ok (.iinc 1 1, 3) := by decide +kernel
theorem dX9_tellChoices_26 : decode cX9_tellChoices 26 = .ok (.goto (-24), 3) := by decide +kernel
theorem dX9_tellChoices_29 : decode cX9_tellChoices 29 = .ok (.aload_n 0, 1) := by decide +kernel
theorem dX9_tellChoices_30 : decode cX9_tellChoices 30 = .ok (.invokevirtual 156, 3) := by decide +kernel
theorem dX9_tellChoices_33 : decode cX9_tellChoices 33 = .ok (.istore_n 1, 1) := by decide +kernel
theorem dX9_tellChoices_34 : decode cX9_tellChoices 34 = .ok (.iconst 1, 1) := by decide +kernel
theorem dX9_tellChoices_35 : decode cX9_tellChoices 35 = .ok (.istore_n 2, 1) := by decide +kernel
theorem dX9_tellChoices_36 : decode cX9_tellChoices 36 = .ok (.iconst 0, 1) := by decide +kernel
theorem dX9_tellChoices_37 : decode cX9_tellChoices 37 = .ok (.istore_n 3, 1) := by decide +kernel
theorem dX9_tellChoices_38 : decode cX9_tellChoices 38 = .ok (.iload_n 3, 1) := by decide +kernel
theorem dX9_tellChoices_39 : decode cX9_tellChoices 39 = .ok (.iload_n 1, 1) := by decide +kernel
theorem dX9_tellChoices_40 : decode cX9_tellChoices 40 = .ok (.if_icmp .ge 13, 3) := by decide +kernel
theorem dX9_tellChoices_43 : decode cX9_tellChoices 43 = .ok (.iload_n 2, 1) := by decide +kernel
theorem dX9_tellChoices_44 : decode cX9_tellChoices 44 = .ok (.iconst 3, 1) := by decide +kernel
theorem dX9_tellChoices_45 : decode cX9_tellChoices 45 = .ok (.imul, 1) := by decide +kernel
theorem dX9_tellChoices_46 : decode cX9_tellChoices 46 = .ok (.istore_n 2, 1) := by decide +kernel
theorem dX9_tellChoices_47 : decode cX9_tellChoices 47 = .ok (.iinc 3 1, 3) := by decide +kernel
theorem dX9_tellChoices_50 : decode cX9_tellChoices 50 = .ok (.goto (-12), 3) := by decide +kernel
theorem dX9_tellChoices_53 : decode cX9_tellChoices 53 = .ok (.aload_n 0, 1) := by decide +kernel
theorem dX9_tellChoices_54 : decode cX9_tellChoices 54 = .ok (.iconst (-1), 1) := by decide +kernel
theorem dX9_tellChoices_55 : decode cX9_tellChoices 55 = .ok (.putfield 184, 3) := by decide +kernel
theorem dX9_tellChoices_58 : decode cX9_tellChoices 58 = .ok (.aload_n 0, 1) := by decide +kernel
theorem dX9_tellChoices_59 : decode cX9_tellChoices 59 = .ok (.iconst 0, 1) := by decide +kernel
theorem dX9_tellChoices_60 : decode cX9_tellChoices 60 = .ok (.putfield 187, 3) := by decide +kernel
theorem dX9_tellChoices_63 : decode cX9_tellChoices 63 = .ok (.iconst 0, 1) := by decide +kernel
theorem dX9_tellChoices_64 : decode cX9_tellChoices 64 = .ok (.istore_n 3, 1) := by decide +kernel
theorem dX9_tellChoices_65 : decode cX9_tellChoices 65 = .ok (.iload_n 3, 1) := by decide +kernel
theorem dX9_tellChoices_66 : decode cX9_tellChoices 66 = .ok (.iload_n 2, 1) := by decide +kernel
theorem dX9_tellChoices_67 : decode cX9_tellChoices 67 = .ok (.if_icmp .ge 66, 3) := by decide +kernel
theorem dX9_tellChoices_70 : decode cX9_tellChoices 70 = .ok (.aload_n 0, 1) := by decide +kernel
theorem dX9_tellChoices_71 : decode cX9_tellChoices 71 = .ok (.iload_n 3, 1) := by decide +kernel
theorem dX9_tellChoices_72 : decode cX9_tellChoices 72 = .ok (.iload_n 1, 1) := by decide +kernel
theorem dX9_tellChoices_73 : decode cX9_tellChoices 73 = .ok (.invokevirtual 190, 3) := by decide +kernel
theorem dX9_tellChoices_76 : decode cX9_tellChoices 76 = .ok (.aload_n 0, 1) := by decide +kernel
theorem dX9_tellChoices_77 : decode cX9_tellChoices 77 = .ok (.invokevirtual 174, 3) := by decide +kernel
theorem dX9_tellChoices_80 : decode cX9_tellChoices 80 = .ok (.ifCond .ne 47, 3) := by decide +kernel
theorem dX9_tellChoices_83 : decode cX9_tellChoices 83 = .ok (.aload_n 0, 1) := by decide +kernel
theorem dX9_tellChoices_84 : decode cX9_tellChoices 84 = .ok (.dup, 1) := by decide +kernel
theorem dX9_tellChoices_85 : decode cX9_tellChoices 85 = .ok (.getfield 187, 3) := by decide +kernel
theorem dX9_tellChoices_88 : decode cX9_tellChoices 88 = .ok (.iconst 1, 1) := by decide +kernel
theorem dX9_tellChoices_89 : decode cX9_tellChoices 89 = .ok (.iadd, 1) := by decide +kernel
theorem dX9_tellChoices_90 : decode cX9_tellChoices 90 = .ok (.putfield 187, 3) := by decide +kernel
theorem dX9_tellChoices_93 : decode cX9_tellChoices 93 = .ok (.aload_n 0, 1) := by decide +kernel
theorem dX9_tellChoices_94 : decode cX9_tellChoices 94 = .ok (.invokevirtual 149, 3) := by decide +kernel
theorem dX9_tellChoices_97 : decode cX9_tellChoices 97 = .ok (.istore 4, 2) := by decide +kernel
theorem dX9_tellChoices_99 : decode cX9_tellChoices 99 = .ok (.aload_n 0, 1) := by decide +kernel
theorem dX9_tellChoices_100 : decode cX9_tellChoices 100 = .ok (.getfield 184, 3) := by decide +kernel
theorem dX9_tellChoices_103 : decode cX9_tellChoices 103 = .ok (.iconst (-1), 1) := by decide +kernel
theorem dX9_tellChoices_104 : decode cX9_tellChoices 104 = .ok (.if_icmp .eq 12, 3) := by decide +kernel
theorem dX9_tellChoices_107 : decode cX9_tellChoices 107 = .ok (.iload 4, 2) := by decide +kernel
theorem dX9_tellChoices_109 : decode cX9_tellChoices 109 = .ok (.aload_n 0, 1) := by decide +kernel
theorem dX9_tellChoices_110 : decode cX9_tellChoices 110 = .ok (.getfield 193, 3) := by decide +kernel
theorem dX9_tellChoices_113 : decode cX9_tellChoices 113 = .ok (.if_icmp .ge 14, 3) := by decide +kernel
theorem dX9_tellChoices_116 : decode cX9_tellChoices 116 = .ok (.aload_n 0, 1) := by decide +kernel
theorem dX9_tellChoices_117 : decode cX9_tellChoices 117 = .ok (.iload_n 3, 1) := by decide +kernel
theorem dX9_tellChoices_118 : decode cX9_tellChoices 118 = .ok (.putfield 184, 3) := by decide +kernel
theorem dX9_tellChoices_121 : decode cX9_tellChoices 121 = .ok (.aload_n 0, 1) := by decide +kernel
theorem dX9_tellChoices_122 : decode cX9_tellChoices 122 = .ok (.iload 4, 2) := by decide +kernel
theorem dX9_tellChoices_124 : decode cX9_tellChoices 124 = .ok (.putfield 193, 3) := by decide +kernel
theorem dX9_tellChoices_127 : decode cX9_tellChoices 127 = .ok (.iinc 3 1, 3) := by decide +kernel
theorem dX9_tellChoices_130 : decode cX9_tellChoices 130 = .ok (.goto (-65), 3) := by decide +kernel
theorem dX9_tellChoices_133 : decode cX9_tellChoices 133 = .ok (.iconst 0, 1) := by decide +kernel
theorem dX9_tellChoices_134 : decode cX9_tellChoices 134 = .ok (.istore_n 3, 1) := by decide +kernel
theorem dX9_tellChoices_135 : decode cX9_tellChoices 135 = .ok (.iload_n 3, 1) := by decide +kernel
theorem dX9_tellChoices_136 : decode cX9_tellChoices 136 = .ok (.aload_n 0, 1) := by decide +kernel
theorem dX9_tellChoices_137 : decode cX9_tellChoices 137 = .ok (.getfield 7, 3) := by decide +kernel
theorem dX9_tellChoices_140 : decode cX9_tellChoices 140 = .ok (.iconst 0, 1) := by decide +kernel
theorem dX9_tellChoices_141 : decode cX9_tellChoices 141 = .ok (.iaload, 1) := by decide +kernel
theorem dX9_tellChoices_142 : decode cX9_tellChoices 142 = .ok (.if_icmp .ge 20, 3) := by decide +kernel
theorem dX9_tellChoices_145 : decode cX9_tellChoices 145 = .ok (.aload_n 0, 1) := by decide +kernel
theorem dX9_tellChoices_146 : decode cX9_tellChoices 146 = .ok (.iload_n 3, 1) := by decide +kernel
theorem dX9_tellChoices_147 : decode cX9_tellChoices 147 = .ok (.aload_n 0, 1) := by decide +kernel
theorem dX9_tellChoices_148 : decode cX9_tellChoices 148 = .ok (.getfield 43, 3) := by decide +kernel
theorem dX9_tellChoices_151 : decode cX9_tellChoices 151 = .ok (.iload_n 3, 1) := by decide +kernel
theorem dX9_tellChoices_152 : decode cX9_tellChoices 152 = .ok (.iaload, 1) := by decide +kernel
theorem dX9_tellChoices_153 : decode cX9_tellChoices 153 = .ok (.invokevirtual 113, 3) := by decide +kernel
theorem dX9_tellChoices_156 : decode cX9_tellChoices 156 = .ok (.iinc 3 1, 3) := by decide +kernel
theorem dX9_tellChoices_159 : decode cX9_tellChoices 159 = .ok (.goto (-24), 3) := by decide +kernel
theorem dX9_tellChoices_162 : decode cX9_tellChoices 162 = .ok (.return_, 1) := by decide +kernel
theorem dX9_lacksChoices_0 : decode cX9_lacksChoices 0 = .ok (.aload_n 0, 1) := by decide +kernel
theorem dX9_lacksChoices_1 : decode cX9_lacksChoices 1 = .ok (.invokevirtual 159, 3) := by decide +kernel
theorem dX9_lacksChoices_4 : decode cX9_lacksChoices 4 = .ok (.ifCond .le 7, 3) := by decide +kernel
theorem dX9_lacksChoices_7 : decode cX9_lacksChoices 7 = .ok (.iconst 1, 1) := by decide +kernel
theorem dX9_lacksChoices_8 : decode cX9_lacksChoices 8 = .ok (.goto 17, 3) := by decide +kernel
theorem dX9_lacksChoices_11 : decode cX9_lacksChoices 11 = .ok (.aload_n 0, 1) := by decide +kernel
theorem dX9_lacksChoices_12 : decode cX9_lacksChoices 12 = .ok (.invokevirtual 156, 3) := by decide +kernel
theorem dX9_lacksChoices_15 : decode cX9_lacksChoices 15 = .ok (.bipush 8, 2) := by decide +kernel
theorem dX9_lacksChoices_17 : decode cX9_lacksChoices 17 = .ok (.if_icmp .le 7, 3) := by decide +kernel
theorem dX9_lacksChoices_20 : decode cX9_lacksChoices 20 = .ok (.iconst 2, 1) := by decide +kernel
theorem dX9_lacksChoices_21 : decode cX9_lacksChoices 21 = .ok (.goto 4, 3) := by decide +kernel
theorem dX9_lacksChoices_24 : decode cX9_lacksChoices 24 = .ok (.iconst 0, 1) := by decide +kernel
theorem dX9_lacksChoices_25 : decode cX9_lacksChoices 25 = .ok (.ireturn, 1) := by decide +kernel
theorem dX9_leastSize_0 : decode cX9_leastSize 0 = .ok (.aload_n 0, 1) := by decide +kernel
theorem dX9_leastSize_1 : decode cX9_leastSize 1 = .ok (.invokevirtual 196, 3) := by decide +kernel
theorem dX9_leastSize_4 : decode cX9_leastSize 4 = .ok (.istore_n 1, 1) := by decide +kernel
theorem dX9_leastSize_5 : decode cX9_leastSize 5 = .ok (.iload_n 1, 1) := by decide +kernel
theorem dX9_leastSize_6 : decode cX9_leastSize 6 = .ok (.ifCond .eq 9, 3) := by decide +kernel
theorem dX9_leastSize_9 : decode cX9_leastSize 9 = .ok (.aload_n 0, 1) := by decide +kernel
theorem dX9_leastSize_10 : decode cX9_leastSize 10 = .ok (.iload_n 1, 1) := by decide +kernel
theorem dX9_leastSize_11 : decode cX9_leastSize 11 = .ok (.invokevirtual 93, 3) := by decide +kernel
theorem dX9_leastSize_14 : decode cX9_leastSize 14 = .ok (.ireturn, 1) := by decide +kernel
theorem dX9_leastSize_15 : decode cX9_leastSize 15 = .ok (.aload_n 0, 1) := by decide +kernel
theorem dX9_leastSize_16 : decode cX9_leastSize 16 = .ok (.invokevirtual 199, 3) := by decide +kernel
theorem dX9_leastSize_19 : decode cX9_leastSize 19 = .ok (.aload_n 0, 1) := by decide +kernel
theorem dX9_leastSize_20 : decode cX9_leastSize 20 = .ok (.aload_n 0, 1) := by decide +kernel
theorem dX9_leastSize_21 : decode cX9_leastSize 21 = .ok (.getfield 193, 3) := by decide +kernel
theorem dX9_leastSize_24 : decode cX9_leastSize 24 = .ok (.invokevirtual 90, 3) := by decide +kernel
theorem dX9_leastSize_27 : decode cX9_leastSize 27 = .ok (.ireturn, 1) := by decide +kernel
theorem dX9_optimize_0 : decode cX9_optimize 0 = .ok (.aload_n 0, 1) := by decide +kernel
theorem dX9_optimize_1 : decode cX9_optimize 1 = .ok (.invokevirtual 196, 3) := by decide +kernel
theorem dX9_optimize_4 : decode cX9_optimize 4 = .ok (.istore_n 1, 1) := by decide +kernel
theorem dX9_optimize_5 : decode cX9_optimize 5 = .ok (.iload_n 1, 1) := by decide +kernel
theorem dX9_optimize_6 : decode cX9_optimize 6 = .ok (.ifCond .eq 9, 3) := by decide +kernel
theorem dX9_optimize_9 : decode cX9_optimize 9 = .ok (.aload_n 0, 1) := by decide +kernel
theorem dX9_optimize_10 : decode cX9_optimize 10 = .ok (.iload_n 1, 1) := by decide +kernel
theorem dX9_optimize_11 : decode cX9_optimize 11 = .ok (.invokevirtual 93, 3) := by decide +kernel
theorem dX9_optimize_14 : decode cX9_optimize 14 = .ok (.ireturn, 1) := by decide +kernel
theorem dX9_optimize_15 : decode cX9_optimize 15 = .ok (.aload_n 0, 1) := by decide +kernel
theorem dX9_optimize_16 : decode cX9_optimize 16 = .ok (.invokevirtual 131, 3) := by decide +kernel
theorem dX9_optimize_19 : decode cX9_optimize 19 = .ok (.aload_n 0, 1) := by decide +kernel
theorem dX9_optimize_20 : decode cX9_optimize 20 = .ok (.invokevirtual 199, 3) := by decide +kernel
theorem dX9_optimize_23 : decode cX9_optimize 23 = .ok (.aload_n 0, 1) := by decide +kernel
theorem dX9_optimize_24 : decode cX9_optimize 24 = .ok (.aload_n 0, 1) := by decide +kernel
theorem dX9_optimize_25 : decode cX9_optimize 25 = .ok (.getfield 184, 3) := by decide +kernel
theorem dX9_optimize_28 : decode cX9_optimize 28 = .ok (.aload_n 0, 1) := by decide +kernel
theorem dX9_optimize_29 : decode cX9_optimize 29 = .ok (.invokevirtual 156, 3) := by decide +kernel
theorem dX9_optimize_32 : decode cX9_optimize 32 = .ok (.invokevirtual 190, 3) := by decide +kernel
theorem dX9_optimize_35 : decode cX9_optimize 35 = .ok (.aload_n 0, 1) := by decide +kernel
theorem dX9_optimize_36 : decode cX9_optimize 36 = .ok (.aload_n 0, 1) := by decide +kernel
theorem dX9_optimize_37 : decode cX9_optimize 37 = .ok (.getfield 193, 3) := by decide +kernel
theorem dX9_optimize_40 : decode cX9_optimize 40 = .ok (.invokevirtual 90, 3) := by decide +kernel
theorem dX9_optimize_43 : decode cX9_optimize 43 = .ok (.ireturn, 1) := by decide +kernel
theorem dX9_consistentChoices_0 : decode cX9_consistentChoices 0 = .ok (.aload_n 0, 1) := by decide +kernel
theorem dX9_consistentChoices_1 : decode cX9_consistentChoices 1 = .ok (.invokevirtual 196, 3) := by decide +kernel
theorem dX9_consistentChoices_4 : decode cX9_consistentChoices 4 = .ok (.istore_n 1, 1) := by decide +kernel
theorem dX9_consistentChoices_5 : decode cX9_consistentChoices 5 = .ok (.iload_n 1, 1) := by decide +kernel
theorem dX9_consistentChoices_6 : decode cX9_consistentChoices 6 = .ok (.ifCond .eq 9, 3) := by decide +kernel
theorem dX9_consistentChoices_9 : decode cX9_consistentChoices 9 = .ok (.aload_n 0, 1) := by decide +kernel
theorem dX9_consistentChoices_10 : decode cX9_consistentChoices 10 = .ok (.iload_n 1, 1) := by decide +kernel
theorem dX9_consistentChoices_11 : decode cX9_consistentChoices 11 = .ok (.invokevirtual 93, 3) := by decide +kernel
theorem dX9_consistentChoices_14 : decode cX9_consistentChoices 14 = .ok (.ireturn, 1) := by decide +kernel
theorem dX9_consistentChoices_15 : decode cX9_consistentChoices 15 = .ok (.aload_n 0, 1) := by decide +kernel
theorem dX9_consistentChoices_16 : decode cX9_consistentChoices 16 = .ok (.invokevirtual 199, 3) := by decide +kernel
theorem dX9_consistentChoices_19 : decode cX9_consistentChoices 19 = .ok (.aload_n 0, 1) := by decide +kernel
theorem dX9_consistentChoices_20 : decode cX9_consistentChoices 20 = .ok (.aload_n 0, 1) := by decide +kernel
theorem dX9_consistentChoices_21 : decode cX9_consistentChoices 21 = .ok (.getfield 187, 3) := by decide +kernel
theorem dX9_consistentChoices_24 : decode cX9_consistentChoices 24 = .ok (.invokevirtual 90, 3) := by decide +kernel
theorem dX9_consistentChoices_27 : decode cX9_consistentChoices 27 = .ok (.ireturn, 1) := by decide +kernel
theorem dX9_averageForm_0 : decode cX9_averageForm 0 = .ok (.aload_n 0, 1) := by decide +kernel
theorem dX9_averageForm_1 : decode cX9_averageForm 1 = .ok (.invokevirtual 156, 3) := by decide +kernel
theorem dX9_averageForm_4 : decode cX9_averageForm 4 = .ok (.istore_n 1, 1) := by decide +kernel
theorem dX9_averageForm_5 : decode cX9_averageForm 5 = .ok (.aload_n 0, 1) := by decide +kernel
theorem dX9_averageForm_6 : decode cX9_averageForm 6 = .ok (.iload_n 1, 1) := by decide +kernel
theorem dX9_averageForm_7 : decode cX9_averageForm 7 = .ok (.ifCond .ne 7, 3) := by decide +kernel
theorem dX9_averageForm_10 : decode cX9_averageForm 10 = .ok (.iconst 1, 1) := by decide +kernel
theorem dX9_averageForm_11 : decode cX9_averageForm 11 = .ok (.goto 4, 3) := by decide +kernel
theorem dX9_averageForm_14 : decode cX9_averageForm 14 = .ok (.iconst 0, 1) := by decide +kernel
theorem dX9_averageForm_15 : decode cX9_averageForm 15 = .ok (.putfield 46, 3) := by decide +kernel
theorem dX9_averageForm_18 : decode cX9_averageForm 18 = .ok (.iload_n 1, 1) := by decide +kernel
theorem dX9_averageForm_19 : decode cX9_averageForm 19 = .ok (.ifCond .ne 5, 3) := by decide +kernel
theorem dX9_averageForm_22 : decode cX9_averageForm 22 = .ok (.dconst 0, 1) := by decide +kernel
theorem dX9_averageForm_23 : decode cX9_averageForm 23 = .ok (.dreturn, 1) := by decide +kernel
theorem dX9_averageForm_24 : decode cX9_averageForm 24 = .ok (.iconst 0, 1) := by decide +kernel
theorem dX9_averageForm_25 : decode cX9_averageForm 25 = .ok (.istore_n 2, 1) := by decide +kernel
theorem dX9_averageForm_26 : decode cX9_averageForm 26 = .ok (.iconst 0, 1) := by decide +kernel
theorem dX9_averageForm_27 : decode cX9_averageForm 27 = .ok (.istore_n 3, 1) := by decide +kernel
theorem dX9_averageForm_28 : decode cX9_averageForm 28 = .ok (.iload_n 3, 1) := by decide +kernel
theorem dX9_averageForm_29 : decode cX9_averageForm 29 = .ok (.aload_n 0, 1) := by decide +kernel
theorem dX9_averageForm_30 : decode cX9_averageForm 30 = .ok (.getfield 7, 3) := by decide +kernel
theorem dX9_averageForm_33 : decode cX9_averageForm 33 = .ok (.iconst 0, 1) := by decide +kernel
theorem dX9_averageForm_34 : decode cX9_averageForm 34 = .ok (.iaload, 1) := by decide +kernel
theorem dX9_averageForm_35 : decode cX9_averageForm 35 = .ok (.if_icmp .ge 29, 3) := by decide +kernel
theorem dX9_averageForm_38 : decode cX9_averageForm 38 = .ok (.iload_n 2, 1) := by decide +kernel
theorem dX9_averageForm_39 : decode cX9_averageForm 39 = .ok (.aload_n 0, 1) := by decide +kernel
theorem dX9_averageForm_40 : decode cX9_averageForm 40 = .ok (.iload_n 3, 1) := by decide +kernel
theorem dX9_averageForm_41 : decode cX9_averageForm 41 = .ok (.invokevirtual 146, 3) := by decide +kernel
theorem dX9_averageForm_44 : decode cX9_averageForm 44 = .ok (.ifCond .eq 11, 3) := by decide +kernel
theorem dX9_averageForm_47 : decode cX9_averageForm 47 = .ok (.aload_n 0, 1) := by decide +kernel
theorem dX9_averageForm_48 : decode cX9_averageForm 48 = .ok (.iload_n 3, 1) := by decide +kernel
theorem dX9_averageForm_49 : decode cX9_averageForm 49 = .ok (.invokevirtual 83, 3) := by decide +kernel
theorem dX9_averageForm_52 : decode cX9_averageForm 52 = .ok (.goto 4, 3) := by decide +kernel
theorem dX9_averageForm_55 : decode cX9_averageForm 55 = .ok (.iconst 0, 1) := by decide +kernel
theorem dX9_averageForm_56 : decode cX9_averageForm 56 = .ok (.iadd, 1) := by decide +kernel
theorem dX9_averageForm_57 : decode cX9_averageForm 57 = .ok (.istore_n 2, 1) := by decide +kernel
theorem dX9_averageForm_58 : decode cX9_averageForm 58 = .ok (.iinc 3 1, 3) := by decide +kernel
theorem dX9_averageForm_61 : decode cX9_averageForm 61 = .ok (.goto (-33), 3) := by decide +kernel
theorem dX9_averageForm_64 : decode cX9_averageForm 64 = .ok (.iload_n 2, 1) := by decide +kernel
theorem dX9_averageForm_65 : decode cX9_averageForm 65 = .ok (.i2d, 1) := by decide +kernel
theorem dX9_averageForm_66 : decode cX9_averageForm 66 = .ok (.iload_n 1, 1) := by decide +kernel
theorem dX9_averageForm_67 : decode cX9_averageForm 67 = .ok (.i2d, 1) := by decide +kernel
theorem dX9_averageForm_68 : decode cX9_averageForm 68 = .ok (.ddiv, 1) := by decide +kernel
theorem dX9_averageForm_69 : decode cX9_averageForm 69 = .ok (.dreturn, 1) := by decide +kernel
theorem dX9_pools_0 : decode cX9_pools 0 = .ok (.iconst 0, 1) := by decide +kernel
theorem dX9_pools_1 : decode cX9_pools 1 = .ok (.istore_n 1, 1) := by decide +kernel
theorem dX9_pools_2 : decode cX9_pools 2 = .ok (.iconst 0, 1) := by decide +kernel
theorem dX9_pools_3 : decode cX9_pools 3 = .ok (.istore_n 2, 1) := by decide +kernel
theorem dX9_pools_4 : decode cX9_pools 4 = .ok (.iload_n 2, 1) := by decide +kernel
theorem dX9_pools_5 : decode cX9_pools 5 = .ok (.aload_n 0, 1) := by decide +kernel
theorem dX9_pools_6 : decode cX9_pools 6 = .ok (.getfield 7, 3) := by decide +kernel
theorem dX9_pools_9 : decode cX9_pools 9 = .ok (.iconst 0, 1) := by decide +kernel
theorem dX9_pools_10 : decode cX9_pools 10 = .ok (.iaload, 1) := by decide +kernel
theorem dX9_pools_11 : decode cX9_pools 11 = .ok (.if_icmp .ge 27, 3) := by decide +kernel
theorem dX9_pools_14 : decode cX9_pools 14 = .ok (.iload_n 1, 1) := by decide +kernel
theorem dX9_pools_15 : decode cX9_pools 15 = .ok (.aload_n 0, 1) := by decide +kernel
theorem dX9_pools_16 : decode cX9_pools 16 = .ok (.iload_n 2, 1) := by decide +kernel
theorem dX9_pools_17 : decode cX9_pools 17 = .ok (.invokevirtual 53, 3) := by decide +kernel
theorem dX9_pools_20 : decode cX9_pools 20 = .ok (.bipush 7, 2) := by decide +kernel
theorem dX9_pools_22 : decode cX9_pools 22 = .ok (.if_icmp .ne 7, 3) := by decide +kernel
theorem dX9_pools_25 : decode cX9_pools 25 = .ok (.iconst 1, 1) := by decide +kernel
theorem dX9_pools_26 : decode cX9_pools 26 = .ok (.goto 4, 3) := by decide +kernel
theorem dX9_pools_29 : decode cX9_pools 29 = .ok (.iconst 0, 1) := by decide +kernel
theorem dX9_pools_30 : decode cX9_pools 30 = .ok (.iadd, 1) := by decide +kernel
theorem dX9_pools_31 : decode cX9_pools 31 = .ok (.istore_n 1, 1) := by decide +kernel
theorem dX9_pools_32 : decode cX9_pools 32 = .ok (.iinc 2 1, 3) := by decide +kernel
theorem dX9_pools_35 : decode cX9_pools 35 = .ok (.goto (-31), 3) := by decide +kernel
theorem dX9_pools_38 : decode cX9_pools 38 = .ok (.iload_n 1, 1) := by decide +kernel
theorem dX9_pools_39 : decode cX9_pools 39 = .ok (.ireturn, 1) := by decide +kernel
theorem dX9_placeOf_0 : decode cX9_placeOf 0 = .ok (.iload_n 1, 1) := by decide +kernel
theorem dX9_placeOf_1 : decode cX9_placeOf 1 = .ok (.istore_n 2, 1) := by decide +kernel
theorem dX9_placeOf_2 : decode cX9_placeOf 2 = .ok (.iconst 0, 1) := by decide +kernel
theorem dX9_placeOf_3 : decode cX9_placeOf 3 = .ok (.istore_n 3, 1) := by decide +kernel
theorem dX9_placeOf_4 : decode cX9_placeOf 4 = .ok (.iload_n 3, 1) := by decide +kernel
theorem dX9_placeOf_5 : decode cX9_placeOf 5 = .ok (.aload_n 0, 1) := by decide +kernel
theorem dX9_placeOf_6 : decode cX9_placeOf 6 = .ok (.getfield 7, 3) := by decide +kernel
theorem dX9_placeOf_9 : decode cX9_placeOf 9 = .ok (.iconst 0, 1) := by decide +kernel
theorem dX9_placeOf_10 : decode cX9_placeOf 10 = .ok (.iaload, 1) := by decide +kernel
theorem dX9_placeOf_11 : decode cX9_placeOf 11 = .ok (.if_icmp .ge 41, 3) := by decide +kernel
theorem dX9_placeOf_14 : decode cX9_placeOf 14 = .ok (.aload_n 0, 1) := by decide +kernel
theorem dX9_placeOf_15 : decode cX9_placeOf 15 = .ok (.iload_n 3, 1) := by decide +kernel
theorem dX9_placeOf_16 : decode cX9_placeOf 16 = .ok (.invokevirtual 53, 3) := by decide +kernel
theorem dX9_placeOf_19 : decode cX9_placeOf 19 = .ok (.bipush 7, 2) := by decide +kernel
theorem dX9_placeOf_21 : decode cX9_placeOf 21 = .ok (.if_icmp .ne 7, 3) := by decide +kernel
theorem dX9_placeOf_24 : decode cX9_placeOf 24 = .ok (.iload_n 2, 1) := by decide +kernel
theorem dX9_placeOf_25 : decode cX9_placeOf 25 = .ok (.ifCond .le 27, 3) := by decide +kernel
theorem dX9_placeOf_28 : decode cX9_placeOf 28 = .ok (.iload_n 2, 1) := by decide +kernel
theorem dX9_placeOf_29 : decode cX9_placeOf 29 = .ok (.aload_n 0, 1) := by decide +kernel
theorem dX9_placeOf_30 : decode cX9_placeOf 30 = .ok (.iload_n 3, 1) := by decide +kernel
theorem dX9_placeOf_31 : decode cX9_placeOf 31 = .ok (.invokevirtual 53, 3) := by decide +kernel
theorem dX9_placeOf_34 : decode cX9_placeOf 34 = .ok (.bipush 7, 2) := by decide +kernel
theorem dX9_placeOf_36 : decode cX9_placeOf 36 = .ok (.if_icmp .ne 7, 3) := by decide +kernel
theorem dX9_placeOf_39 : decode cX9_placeOf 39 = .ok (.iconst 1, 1) := by decide +kernel
theorem dX9_placeOf_40 : decode cX9_placeOf 40 = .ok (.goto 4, 3) := by decide +kernel
theorem dX9_placeOf_43 : decode cX9_placeOf 43 = .ok (.iconst 0, 1) := by decide +kernel
theorem dX9_placeOf_44 : decode cX9_placeOf 44 = .ok (.isub, 1) := by decide +kernel
theorem dX9_placeOf_45 : decode cX9_placeOf 45 = .ok (.istore_n 2, 1) := by decide +kernel
theorem dX9_placeOf_46 : decode cX9_placeOf 46 = .ok (.iinc 3 1, 3) := by decide +kernel
theorem dX9_placeOf_49 : decode cX9_placeOf 49 = .ok (.goto (-45), 3) := by decide +kernel
theorem dX9_placeOf_52 : decode cX9_placeOf 52 = .ok (.iload_n 3, 1) := by decide +kernel
theorem dX9_placeOf_53 : decode cX9_placeOf 53 = .ok (.ireturn, 1) := by decide +kernel
theorem dX9_poolCount_0 : decode cX9_poolCount 0 = .ok (.aload_n 0, 1) := by decide +kernel
theorem dX9_poolCount_1 : decode cX9_poolCount 1 = .ok (.aload_n 0, 1) := by decide +kernel
theorem dX9_poolCount_2 : decode cX9_poolCount 2 = .ok (.invokevirtual 202, 3) := by decide +kernel
theorem dX9_poolCount_5 : decode cX9_poolCount 5 = .ok (.invokevirtual 90, 3) := by decide +kernel
theorem dX9_poolCount_8 : decode cX9_poolCount 8 = .ok (.ireturn, 1) := by decide +kernel
theorem dX9_literalCount_0 : decode cX9_literalCount 0 = .ok (.iload_n 1, 1) := by decide +kernel
theorem dX9_literalCount_1 : decode cX9_literalCount 1 = .ok (.iconst 0, 1) := by decide +kernel
theorem dX9_literalCount_2 : decode cX9_literalCount 2 = .ok (.aload_n 0, 1) := by decide +kernel
theorem dX9_literalCount_3 : decode cX9_literalCount 3 = .ok (.invokevirtual 202, 3) := by decide +kernel
theorem dX9_literalCount_6 : decode cX9_literalCount 6 = .ok (.invokestatic 49, 3) := by decide +kernel
theorem dX9_literalCount_9 : decode cX9_literalCount 9 = .ok (.ifCond .ne 9, 3) := by decide +kernel
theorem dX9_literalCount_12 : decode cX9_literalCount 12 = .ok (.aload_n 0, 1) := by decide +kernel
theorem dX9_literalCount_13 : decode cX9_literalCount 13 = .ok (.iconst 1, 1) := by decide +kernel
theorem dX9_literalCount_14 : decode cX9_literalCount 14 = .ok (.invokevirtual 93, 3) := by decide +kernel
theorem dX9_literalCount_17 : decode cX9_literalCount 17 = .ok (.ireturn, 1) := by decide +kernel
theorem dX9_literalCount_18 : decode cX9_literalCount 18 = .ok (.aload_n 0, 1) := by decide +kernel
theorem dX9_literalCount_19 : decode cX9_literalCount 19 = .ok (.aload_n 0, 1) := by decide +kernel
theorem dX9_literalCount_20 : decode cX9_literalCount 20 = .ok (.iload_n 1, 1) := by decide +kernel
theorem dX9_literalCount_21 : decode cX9_literalCount 21 = .ok (.invokevirtual 205, 3) := by decide +kernel
theorem dX9_literalCount_24 : decode cX9_literalCount 24 = .ok (.invokevirtual 69, 3) := by decide +kernel
theorem dX9_literalCount_27 : decode cX9_literalCount 27 = .ok (.aload_n 0, 1) := by decide +kernel
theorem dX9_literalCount_28 : decode cX9_literalCount 28 = .ok (.aload_n 0, 1) := by decide +kernel
theorem dX9_literalCount_29 : decode cX9_literalCount 29 = .ok (.getfield 60, 3) := by decide +kernel
theorem dX9_literalCount_32 : decode cX9_literalCount 32 = .ok (.invokevirtual 90, 3) := by decide +kernel
theorem dX9_literalCount_35 : decode cX9_literalCount 35 = .ok (.ireturn, 1) := by decide +kernel
theorem dX9_literal_0 : decode cX9_literal 0 = .ok (.iload_n 1, 1) := by decide +kernel
theorem dX9_literal_1 : decode cX9_literal 1 = .ok (.iconst 0, 1) := by decide +kernel
theorem dX9_literal_2 : decode cX9_literal 2 = .ok (.aload_n 0, 1) := by decide +kernel
theorem dX9_literal_3 : decode cX9_literal 3 = .ok (.invokevirtual 202, 3) := by decide +kernel
theorem dX9_literal_6 : decode cX9_literal 6 = .ok (.invokestatic 49, 3) := by decide +kernel
theorem dX9_literal_9 : decode cX9_literal 9 = .ok (.ifCond .ne 9, 3) := by decide +kernel
theorem dX9_literal_12 : decode cX9_literal 12 = .ok (.aload_n 0, 1) := by decide +kernel
theorem dX9_literal_13 : decode cX9_literal 13 = .ok (.iconst 1, 1) := by decide +kernel
theorem dX9_literal_14 : decode cX9_literal 14 = .ok (.invokevirtual 93, 3) := by decide +kernel
theorem dX9_literal_17 : decode cX9_literal 17 = .ok (.ireturn, 1) := by decide +kernel
theorem dX9_literal_18 : decode cX9_literal 18 = .ok (.aload_n 0, 1) := by decide +kernel
theorem dX9_literal_19 : decode cX9_literal 19 = .ok (.aload_n 0, 1) := by decide +kernel
theorem dX9_literal_20 : decode cX9_literal 20 = .ok (.iload_n 1, 1) := by decide +kernel
theorem dX9_literal_21 : decode cX9_literal 21 = .ok (.invokevirtual 205, 3) := by decide +kernel
theorem dX9_literal_24 : decode cX9_literal 24 = .ok (.invokevirtual 69, 3) := by decide +kernel
theorem dX9_literal_27 : decode cX9_literal 27 = .ok (.iload_n 2, 1) := by decide +kernel
theorem dX9_literal_28 : decode cX9_literal 28 = .ok (.iconst 0, 1) := by decide +kernel
theorem dX9_literal_29 : decode cX9_literal 29 = .ok (.aload_n 0, 1) := by decide +kernel
theorem dX9_literal_30 : decode cX9_literal 30 = .ok (.getfield 60, 3) := by decide +kernel
theorem dX9_literal_33 : decode cX9_literal 33 = .ok (.iconst 1, 1) := by decide +kernel
theorem dX9_literal_34 : decode cX9_literal 34 = .ok (.isub, 1) := by decide +kernel
theorem dX9_literal_35 : decode cX9_literal 35 = .ok (.invokestatic 49, 3) := by decide +kernel
theorem dX9_literal_38 : decode cX9_literal 38 = .ok (.ifCond .eq 16, 3) := by decide +kernel
theorem dX9_literal_41 : decode cX9_literal 41 = .ok (.aload_n 0, 1) := by decide +kernel
theorem dX9_literal_42 : decode cX9_literal 42 = .ok (.aload_n 0, 1) := by decide +kernel
theorem dX9_literal_43 : decode cX9_literal 43 = .ok (.getfield 30, 3) := by decide +kernel
theorem dX9_literal_46 : decode cX9_literal 46 = .ok (.iload_n 2, 1) := by decide +kernel
theorem dX9_literal_47 : decode cX9_literal 47 = .ok (.iaload, 1) := by decide +kernel
theorem dX9_literal_48 : decode cX9_literal 48 = .ok (.invokevirtual 90, 3) := by decide +kernel
theorem dX9_literal_51 : decode cX9_literal 51 = .ok (.goto 8, 3) := by decide +kernel
theorem dX9_literal_54 : decode cX9_literal 54 = .ok (.aload_n 0, 1) := by decide +kernel
theorem dX9_literal_55 : decode cX9_literal 55 = .ok (.iconst 1, 1) := by decide +kernel
theorem dX9_literal_56 : decode cX9_literal 56 = .ok (.invokevirtual 93, 3) := by decide +kernel
theorem dX9_literal_59 : decode cX9_literal 59 = .ok (.ireturn, 1) := by decide +kernel
theorem dX9_literalAddress_0 : decode cX9_literalAddress 0 = .ok (.iload_n 1, 1) := by decide +kernel
theorem dX9_literalAddress_1 : decode cX9_literalAddress 1 = .ok (.iconst 0, 1) := by decide +kernel
theorem dX9_literalAddress_2 : decode cX9_literalAddress 2 = .ok (.aload_n 0, 1) := by decide +kernel
theorem dX9_literalAddress_3 : decode cX9_literalAddress 3 = .ok (.invokevirtual 202, 3) := by decide +kernel
theorem dX9_literalAddress_6 : decode cX9_literalAddress 6 = .ok (.invokestatic 49, 3) := by decide +kernel
theorem dX9_literalAddress_9 : decode cX9_literalAddress 9 = .ok (.ifCond .ne 9, 3) := by decide +kernel
theorem dX9_literalAddress_12 : decode cX9_literalAddress 12 = .ok (.aload_n 0, 1) := by decide +kernel
theorem dX9_literalAddress_13 : decode cX9_literalAddress 13 = .ok (.iconst 1, 1) := by decide +kernel
theorem dX9_literalAddress_14 : decode cX9_literalAddress 14 = .ok (.invokevirtual 93, 3) := by decide +kernel
theorem dX9_literalAddress_17 : decode cX9_literalAddress 17 = .ok (.ireturn, 1) := by decide +kernel
theorem dX9_literalAddress_18 : decode cX9_literalAddress 18 = .ok (.aload_n 0, 1) := by decide +kernel
theorem dX9_literalAddress_19 : decode cX9_literalAddress 19 = .ok (.invokevirtual 143, 3) := by decide +kernel
theorem dX9_literalAddress_22 : decode cX9_literalAddress 22 = .ok (.aload_n 0, 1) := by decide +kernel
theorem dX9_literalAddress_23 : decode cX9_literalAddress 23 = .ok (.iload_n 1, 1) := by decide +kernel
theorem dX9_literalAddress_24 : decode cX9_literalAddress 24 = .ok (.invokevirtual 205, 3) := by decide +kernel
theorem dX9_literalAddress_27 : decode cX9_literalAddress 27 = .ok (.istore_n 3, 1) := by decide +kernel
theorem dX9_literalAddress_28 : decode cX9_literalAddress 28 = .ok (.aload_n 0, 1) := by decide +kernel
theorem dX9_literalAddress_29 : decode cX9_literalAddress 29 = .ok (.iload_n 3, 1) := by decide +kernel
theorem dX9_literalAddress_30 : decode cX9_literalAddress 30 = .ok (.invokevirtual 69, 3) := by decide +kernel
theorem dX9_literalAddress_33 : decode cX9_literalAddress 33 = .ok (.iload_n 2, 1) := by decide +kernel
theorem dX9_literalAddress_34 : decode cX9_literalAddress 34 = .ok (.iconst 0, 1) := by decide +kernel
theorem dX9_literalAddress_35 : decode cX9_literalAddress 35 = .ok (.aload_n 0, 1) := by decide +kernel
theorem dX9_literalAddress_36 : decode cX9_literalAddress 36 = .ok (.getfield 60, 3) := by decide +kernel
theorem dX9_literalAddress_39 : decode cX9_literalAddress 39 = .ok (.iconst 1, 1) := by decide +kernel
theorem dX9_literalAddress_40 : decode cX9_literalAddress 40 = .ok (.isub, 1) := by decide +kernel
theorem dX9_literalAddress_41 : decode cX9_literalAddress 41 = .ok (.invokestatic 49, 3) := by decide +kernel
theorem dX9_literalAddress_44 : decode cX9_literalAddress 44 = .ok (.ifCond .eq 24, 3) := by decide +kernel
theorem dX9_literalAddress_47 : decode cX9_literalAddress 47 = .ok (.aload_n 0, 1) := by decide +kernel
theorem dX9_literalAddress_48 : decode cX9_literalAddress 48 = .ok (.aload_n 0, 1) := by decide +kernel
theorem dX9_literalAddress_49 : decode cX9_literalAddress 49 = .ok (.getfield 27, 3) := by decide +kernel
theorem dX9_literalAddress_52 : decode cX9_literalAddress 52 = .ok (.iload_n 3, 1) := by decide +kernel
theorem dX9_literalAddress_53 : decode cX9_literalAddress 53 = .ok (.iaload, 1) := by decide +kernel
theorem dX9_literalAddress_54 : decode cX9_literalAddress 54 = .ok (.iconst 4, 1) := by decide +kernel
theorem dX9_literalAddress_55 : decode cX9_literalAddress 55 = .ok (.invokestatic 73, 3) := by decide +kernel
theorem dX9_literalAddress_58 : decode cX9_literalAddress 58 = .ok (.iconst 4, 1) := by decide +kernel
theorem dX9_literalAddress_59 : decode cX9_literalAddress 59 = .ok (.iload_n 2, 1) := by decide +kernel
theorem dX9_literalAddress_60 : decode cX9_literalAddress 60 = .ok (.imul, 1) := by decide +kernel
theorem dX9_literalAddress_61 : decode cX9_literalAddress 61 = .ok (.iadd, 1) := by decide +kernel
theorem dX9_literalAddress_62 : decode cX9_literalAddress 62 = .ok (.invokevirtual 90, 3) := by decide +kernel
theorem dX9_literalAddress_65 : decode cX9_literalAddress 65 = .ok (.goto 8, 3) := by decide +kernel
theorem dX9_literalAddress_68 : decode cX9_literalAddress 68 = .ok (.aload_n 0, 1) := by decide +kernel
theorem dX9_literalAddress_69 : decode cX9_literalAddress 69 = .ok (.iconst 1, 1) := by decide +kernel
theorem dX9_literalAddress_70 : decode cX9_literalAddress 70 = .ok (.invokevirtual 93, 3) := by decide +kernel
theorem dX9_literalAddress_73 : decode cX9_literalAddress 73 = .ok (.ireturn, 1) := by decide +kernel
theorem dX9_poolPlace_0 : decode cX9_poolPlace 0 = .ok (.iload_n 1, 1) := by decide +kernel
theorem dX9_poolPlace_1 : decode cX9_poolPlace 1 = .ok (.istore_n 2, 1) := by decide +kernel
theorem dX9_poolPlace_2 : decode cX9_poolPlace 2 = .ok (.iload_n 2, 1) := by decide +kernel
theorem dX9_poolPlace_3 : decode cX9_poolPlace 3 = .ok (.aload_n 0, 1) := by decide +kernel
theorem dX9_poolPlace_4 : decode cX9_poolPlace 4 = .ok (.getfield 7, 3) := by decide +kernel
theorem dX9_poolPlace_7 : decode cX9_poolPlace 7 = .ok (.iconst 0, 1) := by decide +kernel
theorem dX9_poolPlace_8 : decode cX9_poolPlace 8 = .ok (.iaload, 1) := by decide +kernel
theorem dX9_poolPlace_9 : decode cX9_poolPlace 9 = .ok (.if_icmp .ge 19, 3) := by decide +kernel
theorem dX9_poolPlace_12 : decode cX9_poolPlace 12 = .ok (.aload_n 0, 1) := by decide +kernel
theorem dX9_poolPlace_13 : decode cX9_poolPlace 13 = .ok (.iload_n 2, 1) := by decide +kernel
theorem dX9_poolPlace_14 : decode cX9_poolPlace 14 = .ok (.invokevirtual 53, 3) := by decide +kernel
theorem dX9_poolPlace_17 : decode cX9_poolPlace 17 = .ok (.bipush 7, 2) := by decide +kernel
theorem dX9_poolPlace_19 : decode cX9_poolPlace 19 = .ok (.if_icmp .eq 9, 3) := by decide +kernel
theorem dX9_poolPlace_22 : decode cX9_poolPlace 22 = .ok (.iinc 2 1, 3) := by decide +kernel
theorem dX9_poolPlace_25 : decode cX9_poolPlace 25 = .ok (.goto (-23), 3) := by decide +kernel
theorem dX9_poolPlace_28 : decode cX9_poolPlace 28 = .ok (.iload_n 2, 1) := by decide +kernel
theorem dX9_poolPlace_29 : decode cX9_poolPlace 29 = .ok (.ireturn, 1) := by decide +kernel
