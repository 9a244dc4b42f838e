theorem dX1_init_0 : decode cX1_init 0 = .ok (.aload_n 0, 1) := by decide +kernel
theorem dX1_init_1 : decode cX1_init 1 = .ok (.invokespecial 3, 3) := by decide +kernel
theorem dX1_init_4 : decode cX1_init 4 = .ok (.aload_n 0, 1) := by decide +kernel
theorem dX1_init_5 : decode cX1_init 5 = .ok (.bipush 41, 2) := by decide +kernel
theorem dX1_init_7 : decode cX1_init 7 = .ok (.newarray .int, 2) := by decide +kernel
theorem dX1_init_9 : decode cX1_init 9 = .ok (.putfield 9, 3) := by decide +kernel
theorem dX1_init_12 : decode cX1_init 12 = .ok (.aload_n 0, 1) := by decide +kernel
theorem dX1_init_13 : decode cX1_init 13 = .ok (.bipush 40, 2) := by decide +kernel
theorem dX1_init_15 : decode cX1_init 15 = .ok (.newarray .int, 2) := by decide +kernel
theorem dX1_init_17 : decode cX1_init 17 = .ok (.putfield 15, 3) := by decide +kernel
theorem dX1_init_20 : decode cX1_init 20 = .ok (.aload_n 0, 1) := by decide +kernel
theorem dX1_init_21 : decode cX1_init 21 = .ok (.bipush 40, 2) := by decide +kernel
theorem dX1_init_23 : decode cX1_init 23 = .ok (.newarray .int, 2) := by decide +kernel
theorem dX1_init_25 : decode cX1_init 25 = .ok (.putfield 18, 3) := by decide +kernel
theorem dX1_init_28 : decode cX1_init 28 = .ok (.aload_n 0, 1) := by decide +kernel
theorem dX1_init_29 : decode cX1_init 29 = .ok (.iconst 0, 1) := by decide +kernel
theorem dX1_init_30 : decode cX1_init 30 = .ok (.putfield 21, 3) := by decide +kernel
theorem dX1_init_33 : decode cX1_init 33 = .ok (.aload_n 0, 1) := by decide +kernel
theorem dX1_init_34 : decode cX1_init 34 = .ok (.iconst 0, 1) := by decide +kernel
theorem dX1_init_35 : decode cX1_init 35 = .ok (.putfield 25, 3) := by decide +kernel
theorem dX1_init_38 : decode cX1_init 38 = .ok (.aload_n 0, 1) := by decide +kernel
theorem dX1_init_39 : decode cX1_init 39 = .ok (.aload_n 1, 1) := by decide +kernel
theorem dX1_init_40 : decode cX1_init 40 = .ok (.putfield 28, 3) := by decide +kernel
theorem dX1_init_43 : decode cX1_init 43 = .ok (.aload_n 0, 1) := by decide +kernel
theorem dX1_init_44 : decode cX1_init 44 = .ok (.aload_n 2, 1) := by decide +kernel
theorem dX1_init_45 : decode cX1_init 45 = .ok (.putfield 32, 3) := by decide +kernel
theorem dX1_init_48 : decode cX1_init 48 = .ok (.aload_n 0, 1) := by decide +kernel
theorem dX1_init_49 : decode cX1_init 49 = .ok (.aload_n 3, 1) := by decide +kernel
theorem dX1_init_50 : decode cX1_init 50 = .ok (.putfield 36, 3) := by decide +kernel
theorem dX1_init_53 : decode cX1_init 53 = .ok (.return_, 1) := by decide +kernel
theorem dX1_choicesFound_0 : decode cX1_choicesFound 0 = .ok (.aload_n 0, 1) := by decide +kernel
theorem dX1_choicesFound_1 : decode cX1_choicesFound 1 = .ok (.getfield 21, 3) := by decide +kernel
theorem dX1_choicesFound_4 : decode cX1_choicesFound 4 = .ok (.ireturn, 1) := by decide +kernel
theorem dX1_least_0 : decode cX1_least 0 = .ok (.aload_n 0, 1) := by decide +kernel
theorem dX1_least_1 : decode cX1_least 1 = .ok (.getfield 25, 3) := by decide +kernel
theorem dX1_least_4 : decode cX1_least 4 = .ok (.ireturn, 1) := by decide +kernel
theorem dX1_takeBest_0 : decode cX1_takeBest 0 = .ok (.iconst 0, 1) := by decide +kernel
theorem dX1_takeBest_1 : decode cX1_takeBest 1 = .ok (.istore_n 1, 1) := by decide +kernel
theorem dX1_takeBest_2 : decode cX1_takeBest 2 = .ok (.iload_n 1, 1) := by decide +kernel
theorem dX1_takeBest_3 : decode cX1_takeBest 3 = .ok (.aload_n 0, 1) := by decide +kernel
theorem dX1_takeBest_4 : decode cX1_takeBest 4 = .ok (.getfield 28, 3) := by decide +kernel
theorem dX1_takeBest_7 : decode cX1_takeBest 7 = .ok (.invokevirtual 40, 3) := by decide +kernel
theorem dX1_takeBest_10 : decode cX1_takeBest 10 = .ok (.if_icmp .ge 23, 3) := by decide +kernel
theorem dX1_takeBest_13 : decode cX1_takeBest 13 = .ok (.aload_n 0, 1) := by decide +kernel
theorem dX1_takeBest_14 : decode cX1_takeBest 14 = .ok (.getfield 28, 3) := by decide +kernel
theorem dX1_takeBest_17 : decode cX1_takeBest 17 = .ok (.iload_n 1, 1) := by decide +kernel
theorem dX1_takeBest_18 : decode cX1_takeBest 18 = .ok (.aload_n 0, 1) := by decide +kernel
theorem dX1_takeBest_19 : decode cX1_takeBest 19 = .ok (.getfield 18, 3) := by decide +kernel
theorem dX1_takeBest_22 : decode cX1_takeBest 22 = .ok (.iload_n 1, 1) := by decide +kernel
theorem dX1_takeBest_23 : decode cX1_takeBest 23 = .ok (.iaload, 1) := by decide +kernel
theorem dX1_takeBest_24 : decode cX1_takeBest 24 = .ok (.invokevirtual 46, 3) := by decide +kernel
theorem dX1_takeBest_27 : decode cX1_takeBest 27 = .ok (.iinc 1 1, 3) := by decide +kernel
theorem dX1_takeBest_30 : decode cX1_takeBest 30 = .ok (.goto (-28), 3) := by decide +kernel
theorem dX1_takeBest_33 : decode cX1_takeBest 33 = .ok (.return_, 1) := by decide +kernel
theorem dX1_run_0 : decode cX1_run 0 = .ok (.aload_n 0, 1) := by decide +kernel
theorem dX1_run_1 : decode cX1_run 1 = .ok (.iconst 0, 1) := by decide +kernel
theorem dX1_run_2 : decode cX1_run 2 = .ok (.putfield 21, 3) := by decide +kernel
theorem dX1_run_5 : decode cX1_run 5 = .ok (.aload_n 0, 1) := by decide +kernel
theorem dX1_run_6 : decode cX1_run 6 = .ok (.iconst 0, 1) := by decide +kernel
theorem dX1_run_7 : decode cX1_run 7 = .ok (.putfield 25, 3) := by decide +kernel
theorem dX1_run_10 : decode cX1_run 10 = .ok (.aload_n 0, 1) := by decide +kernel
theorem dX1_run_11 : decode cX1_run 11 = .ok (.getfield 15, 3) := by decide +kernel
theorem dX1_run_14 : decode cX1_run 14 = .ok (.iconst 0, 1) := by decide +kernel
theorem dX1_run_15 : decode cX1_run 15 = .ok (.invokestatic 50, 3) := by decide +kernel
theorem dX1_run_18 : decode cX1_run 18 = .ok (.aload_n 0, 1) := by decide +kernel
theorem dX1_run_19 : decode cX1_run 19 = .ok (.getfield 18, 3) := by decide +kernel
theorem dX1_run_22 : decode cX1_run 22 = .ok (.iconst 0, 1) := by decide +kernel
theorem dX1_run_23 : decode cX1_run 23 = .ok (.invokestatic 50, 3) := by decide +kernel
theorem dX1_run_26 : decode cX1_run 26 = .ok (.aload_n 0, 1) := by decide +kernel
theorem dX1_run_27 : decode cX1_run 27 = .ok (.iconst 0, 1) := by decide +kernel
theorem dX1_run_28 : decode cX1_run 28 = .ok (.iconst 0, 1) := by decide +kernel
theorem dX1_run_29 : decode cX1_run 29 = .ok (.iconst 0, 1) := by decide +kernel
theorem dX1_run_30 : decode cX1_run 30 = .ok (.invokevirtual 56, 3) := by decide +kernel
theorem dX1_run_33 : decode cX1_run 33 = .ok (.return_, 1) := by decide +kernel
theorem dX1_tryFrom_0 : decode cX1_tryFrom 0 = .ok (.iload_n 3, 1) := by decide +kernel
theorem dX1_tryFrom_1 : decode cX1_tryFrom 1 = .ok (.bipush 8, 2) := by decide +kernel
theorem dX1_tryFrom_3 : decode cX1_tryFrom 3 = .ok (.if_icmp .le 4, 3) := by decide +kernel
theorem dX1_tryFrom_6 : decode cX1_tryFrom 6 = .ok (.return_, 1) := by decide +kernel
theorem dX1_tryFrom_7 : decode cX1_tryFrom 7 = .ok (.aload_n 0, 1) := by decide +kernel
theorem dX1_tryFrom_8 : decode cX1_tryFrom 8 = .ok (.iload_n 1, 1) := by decide +kernel
theorem dX1_tryFrom_9 : decode cX1_tryFrom 9 = .ok (.iload_n 2, 1) := by decide +kernel
theorem dX1_tryFrom_10 : decode cX1_tryFrom 10 = .ok (.invokevirtual 60, 3) := by decide +kernel
theorem dX1_tryFrom_13 : decode cX1_tryFrom 13 = .ok (.istore 4, 2) := by decide +kernel
theorem dX1_tryFrom_15 : decode cX1_tryFrom 15 = .ok (.iload 4, 2) := by decide +kernel
theorem dX1_tryFrom_17 : decode cX1_tryFrom 17 = .ok (.aload_n 0, 1) := by decide +kernel
theorem dX1_tryFrom_18 : decode cX1_tryFrom 18 = .ok (.getfield 28, 3) := by decide +kernel
theorem dX1_tryFrom_21 : decode cX1_tryFrom 21 = .ok (.invokevirtual 40, 3) := by decide +kernel
theorem dX1_tryFrom_24 : decode cX1_tryFrom 24 = .ok (.if_icmp .ne 17, 3) := by decide +kernel
theorem dX1_tryFrom_27 : decode cX1_tryFrom 27 = .ok (.aload_n 0, 1) := by decide +kernel
theorem dX1_tryFrom_28 : decode cX1_tryFrom 28 = .ok (.aload_n 0, 1) := by decide +kernel
theorem dX1_tryFrom_29 : decode cX1_tryFrom 29 = .ok (.getfield 9, 3) := by decide +kernel
theorem dX1_tryFrom_32 : decode cX1_tryFrom 32 = .ok (.iload 4, 2) := by decide +kernel
theorem dX1_tryFrom_34 : decode cX1_tryFrom 34 = .ok (.iaload, 1) := by decide +kernel
theorem dX1_tryFrom_35 : decode cX1_tryFrom 35 = .ok (.invokevirtual 64, 3) := by decide +kernel
theorem dX1_tryFrom_38 : decode cX1_tryFrom 38 = .ok (.goto 16, 3) := by decide +kernel
theorem dX1_tryFrom_41 : decode cX1_tryFrom 41 = .ok (.iload 4, 2) := by decide +kernel
theorem dX1_tryFrom_43 : decode cX1_tryFrom 43 = .ok (.iconst (-1), 1) := by decide +kernel
theorem dX1_tryFrom_44 : decode cX1_tryFrom 44 = .ok (.if_icmp .eq 10, 3) := by decide +kernel
theorem dX1_tryFrom_47 : decode cX1_tryFrom 47 = .ok (.aload_n 0, 1) := by decide +kernel
theorem dX1_tryFrom_48 : decode cX1_tryFrom 48 = .ok (.iload 4, 2) := by decide +kernel
theorem dX1_tryFrom_50 : decode cX1_tryFrom 50 = .ok (.iload_n 3, 1) := by decide +kernel
theorem dX1_tryFrom_51 : decode cX1_tryFrom 51 = .ok (.invokevirtual 68, 3) := by decide +kernel
theorem dX1_tryFrom_54 : decode cX1_tryFrom 54 = .ok (.return_, 1) := by decide +kernel
theorem dX1_tryForms_0 : decode cX1_tryForms 0 = .ok (.aload_n 0, 1) := by decide +kernel
theorem dX1_tryForms_1 : decode cX1_tryForms 1 = .ok (.getfield 9, 3) := by decide +kernel
theorem dX1_tryForms_4 : decode cX1_tryForms 4 = .ok (.iload_n 1, 1) := by decide +kernel
theorem dX1_tryForms_5 : decode cX1_tryForms 5 = .ok (.iaload, 1) := by decide +kernel
theorem dX1_tryForms_6 : decode cX1_tryForms 6 = .ok (.istore_n 3, 1) := by decide +kernel
theorem dX1_tryForms_7 : decode cX1_tryForms 7 = .ok (.iconst 0, 1) := by decide +kernel
theorem dX1_tryForms_8 : decode cX1_tryForms 8 = .ok (.istore 4, 2) := by decide +kernel
theorem dX1_tryForms_10 : decode cX1_tryForms 10 = .ok (.iload 4, 2) := by decide +kernel
theorem dX1_tryForms_12 : decode cX1_tryForms 12 = .ok (.iconst 2, 1) := by decide +kernel
theorem dX1_tryForms_13 : decode cX1_tryForms 13 = .ok (.if_icmp .gt 56, 3) := by decide +kernel
theorem dX1_tryForms_16 : decode cX1_tryForms 16 = .ok (.iload_n 3, 1) := by decide +kernel
theorem dX1_tryForms_17 : decode cX1_tryForms 17 = .ok (.aload_n 0, 1) := by decide +kernel
theorem dX1_tryForms_18 : decode cX1_tryForms 18 = .ok (.getfield 36, 3) := by decide +kernel
theorem dX1_tryForms_21 : decode cX1_tryForms 21 = .ok (.iload_n 1, 1) := by decide +kernel
theorem dX1_tryForms_22 : decode cX1_tryForms 22 = .ok (.iload 4, 2) := by decide +kernel
theorem dX1_tryForms_24 : decode cX1_tryForms 24 = .ok (.iload_n 3, 1) := by decide +kernel
theorem dX1_tryForms_25 : decode cX1_tryForms 25 = .ok (.invokevirtual 71, 3) := by decide +kernel
theorem dX1_tryForms_28 : decode cX1_tryForms 28 = .ok (.iadd, 1) := by decide +kernel
theorem dX1_tryForms_29 : decode cX1_tryForms 29 = .ok (.istore 5, 2) := by decide +kernel
theorem dX1_tryForms_31 : decode cX1_tryForms 31 = .ok (.aload_n 0, 1) := by decide +kernel
theorem dX1_tryForms_32 : decode cX1_tryForms 32 = .ok (.getfield 15, 3) := by decide +kernel
theorem dX1_tryForms_35 : decode cX1_tryForms 35 = .ok (.iload_n 1, 1) := by decide +kernel
theorem dX1_tryForms_36 : decode cX1_tryForms 36 = .ok (.iload 4, 2) := by decide +kernel
theorem dX1_tryForms_38 : decode cX1_tryForms 38 = .ok (.iastore, 1) := by decide +kernel
theorem dX1_tryForms_39 : decode cX1_tryForms 39 = .ok (.aload_n 0, 1) := by decide +kernel
theorem dX1_tryForms_40 : decode cX1_tryForms 40 = .ok (.iload_n 1, 1) := by decide +kernel
theorem dX1_tryForms_41 : decode cX1_tryForms 41 = .ok (.iload 4, 2) := by decide +kernel
theorem dX1_tryForms_43 : decode cX1_tryForms 43 = .ok (.iload 5, 2) := by decide +kernel
theorem dX1_tryForms_45 : decode cX1_tryForms 45 = .ok (.invokevirtual 77, 3) := by decide +kernel
theorem dX1_tryForms_48 : decode cX1_tryForms 48 = .ok (.ifCond .eq 15, 3) := by decide +kernel
theorem dX1_tryForms_51 : decode cX1_tryForms 51 = .ok (.aload_n 0, 1) := by decide +kernel
theorem dX1_tryForms_52 : decode cX1_tryForms 52 = .ok (.iload_n 1, 1) := by decide +kernel
theorem dX1_tryForms_53 : decode cX1_tryForms 53 = .ok (.iconst 1, 1) := by decide +kernel
theorem dX1_tryForms_54 : decode cX1_tryForms 54 = .ok (.iadd, 1) := by decide +kernel
theorem dX1_tryForms_55 : decode cX1_tryForms 55 = .ok (.iload 5, 2) := by decide +kernel
theorem dX1_tryForms_57 : decode cX1_tryForms 57 = .ok (.iload_n 2, 1) := by decide +kernel
theorem dX1_tryForms_58 : decode cX1_tryForms 58 = .ok (.iconst 1, 1) := by decide +kernel
theorem dX1_tryForms_59 : decode cX1_tryForms 59 = .ok (.iadd, 1) := by decide +kernel
theorem dX1_tryForms_60 : decode cX1_tryForms 60 = .ok (.invokevirtual 56, 3) := by decide +kernel
theorem dX1_tryForms_63 : decode cX1_tryForms 63 = .ok (.iinc 4 1, 3) := by decide +kernel
theorem dX1_tryForms_66 : decode cX1_tryForms 66 = .ok (.goto (-56), 3) := by decide +kernel
theorem dX1_tryForms_69 : decode cX1_tryForms 69 = .ok (.return_, 1) := by decide +kernel
theorem dX1_placeUpToTransfer_0 : decode cX1_placeUpToTransfer 0 = .ok (.iload_n 2, 1) := by decide +kernel
theorem dX1_placeUpToTransfer_1 : decode cX1_placeUpToTransfer 1 = .ok (.istore_n 3, 1) := by decide +kernel
theorem dX1_placeUpToTransfer_2 : decode cX1_placeUpToTransfer 2 = .ok (.aload_n 0, 1) := by decide +kernel
theorem dX1_placeUpToTransfer_3 : decode cX1_placeUpToTransfer 3 = .ok (.getfield 28, 3) := by decide +kernel
theorem dX1_placeUpToTransfer_6 : decode cX1_placeUpToTransfer 6 = .ok (.invokevirtual 40, 3) := by decide +kernel
theorem dX1_placeUpToTransfer_9 : decode cX1_placeUpToTransfer 9 = .ok (.istore 4, 2) := by decide +kernel
theorem dX1_placeUpToTransfer_11 : decode cX1_placeUpToTransfer 11 = .ok (.iload_n 1, 1) := by decide +kernel
theorem dX1_placeUpToTransfer_12 : decode cX1_placeUpToTransfer 12 = .ok (.istore 5, 2) := by decide +kernel
theorem dX1_placeUpToTransfer_14 : decode cX1_placeUpToTransfer 14 = .ok (.iload 5, 2) := by decide +kernel
theorem dX1_placeUpToTransfer_16 : decode cX1_placeUpToTransfer 16 = .ok (.iload 4, 2) := by decide +kernel
theorem dX1_placeUpToTransfer_18 : decode cX1_placeUpToTransfer 18 = .ok (.if_icmp .ge 70, 3) := by decide +kernel
theorem dX1_placeUpToTransfer_21 : decode cX1_placeUpToTransfer 21 = .ok (.aload_n 0, 1) := by decide +kernel
theorem dX1_placeUpToTransfer_22 : decode cX1_placeUpToTransfer 22 = .ok (.getfield 9, 3) := by decide +kernel
theorem dX1_placeUpToTransfer_25 : decode cX1_placeUpToTransfer 25 = .ok (.iload 5, 2) := by decide +kernel
theorem dX1_placeUpToTransfer_27 : decode cX1_placeUpToTransfer 27 = .ok (.iload_n 3, 1) := by decide +kernel
theorem dX1_placeUpToTransfer_28 : decode cX1_placeUpToTransfer 28 = .ok (.iastore, 1) := by decide +kernel
theorem dX1_placeUpToTransfer_29 : decode cX1_placeUpToTransfer 29 = .ok (.aload_n 0, 1) := by decide +kernel
theorem dX1_placeUpToTransfer_30 : decode cX1_placeUpToTransfer 30 = .ok (.getfield 28, 3) := by decide +kernel
theorem dX1_placeUpToTransfer_33 : decode cX1_placeUpToTransfer 33 = .ok (.iload 5, 2) := by decide +kernel
theorem dX1_placeUpToTransfer_35 : decode cX1_placeUpToTransfer 35 = .ok (.invokevirtual 81, 3) := by decide +kernel
theorem dX1_placeUpToTransfer_38 : decode cX1_placeUpToTransfer 38 = .ok (.ifCond .eq 6, 3) := by decide +kernel
theorem dX1_placeUpToTransfer_41 : decode cX1_placeUpToTransfer 41 = .ok (.iload 5, 2) := by decide +kernel
theorem dX1_placeUpToTransfer_43 : decode cX1_placeUpToTransfer 43 = .ok (.ireturn, 1) := by decide +kernel
theorem dX1_placeUpToTransfer_44 : decode cX1_placeUpToTransfer 44 = .ok (.aload_n 0, 1) := by decide +kernel
theorem dX1_placeUpToTransfer_45 : decode cX1_placeUpToTransfer 45 = .ok (.getfield 28, 3) := by decide +kernel
theorem dX1_placeUpToTransfer_48 : decode cX1_placeUpToTransfer 48 = .ok (.iload 5, 2) := by decide +kernel
theorem dX1_placeUpToTransfer_50 : decode cX1_placeUpToTransfer 50 = .ok (.invokevirtual 85, 3) := by decide +kernel
theorem dX1_placeUpToTransfer_53 : decode cX1_placeUpToTransfer 53 = .ok (.iconst 2, 1) := by decide +kernel
theorem dX1_placeUpToTransfer_54 : decode cX1_placeUpToTransfer 54 = .ok (.if_icmp .ne 14, 3) := by decide +kernel
theorem dX1_placeUpToTransfer_57 : decode cX1_placeUpToTransfer 57 = .ok (.aload_n 0, 1) := by decide +kernel
theorem dX1_placeUpToTransfer_58 : decode cX1_placeUpToTransfer 58 = .ok (.iload 5, 2) := by decide +kernel
theorem dX1_placeUpToTransfer_60 : decode cX1_placeUpToTransfer 60 = .ok (.invokevirtual 89, 3) := by decide +kernel
theorem dX1_placeUpToTransfer_63 : decode cX1_placeUpToTransfer 63 = .ok (.ifCond .ne 5, 3) := by decide +kernel
theorem dX1_placeUpToTransfer_66 : decode cX1_placeUpToTransfer 66 = .ok (.iconst (-1), 1) := by decide +kernel
theorem dX1_placeUpToTransfer_67 : decode cX1_placeUpToTransfer 67 = .ok (.ireturn, 1) := by decide +kernel
theorem dX1_placeUpToTransfer_68 : decode cX1_placeUpToTransfer 68 = .ok (.iload_n 3, 1) := by decide +kernel
theorem dX1_placeUpToTransfer_69 : decode cX1_placeUpToTransfer 69 = .ok (.aload_n 0, 1) := by decide +kernel
theorem dX1_placeUpToTransfer_70 : decode cX1_placeUpToTransfer 70 = .ok (.getfield 36, 3) := by decide +kernel
theorem dX1_placeUpToTransfer_73 : decode cX1_placeUpToTransfer 73 = .ok (.iload 5, 2) := by decide +kernel
theorem dX1_placeUpToTransfer_75 : decode cX1_placeUpToTransfer 75 = .ok (.iconst 0, 1) := by decide +kernel
theorem dX1_placeUpToTransfer_76 : decode cX1_placeUpToTransfer 76 = .ok (.iload_n 3, 1) := by decide +kernel
theorem dX1_placeUpToTransfer_77 : decode cX1_placeUpToTransfer 77 = .ok (.invokevirtual 71, 3) := by decide +kernel
theorem dX1_placeUpToTransfer_80 : decode cX1_placeUpToTransfer 80 = .ok (.iadd, 1) := by decide +kernel
theorem dX1_placeUpToTransfer_81 : decode cX1_placeUpToTransfer 81 = .ok (.istore_n 3, 1) := by decide +kernel
theorem dX1_placeUpToTransfer_82 : decode cX1_placeUpToTransfer 82 = .ok (.iinc 5 1, 3) := by decide +kernel
theorem dX1_placeUpToTransfer_85 : decode cX1_placeUpToTransfer 85 = .ok (.goto (-71), 3) := by decide +kernel
theorem dX1_placeUpToTransfer_88 : decode cX1_placeUpToTransfer 88 = .ok (.aload_n 0, 1) := by decide +kernel
theorem dX1_placeUpToTransfer_89 : decode cX1_placeUpToTransfer 89 = .ok (.getfield 9, 3) := by decide +kernel
theorem dX1_placeUpToTransfer_92 : decode cX1_placeUpToTransfer 92 = .ok (.iload 4, 2) := by decide +kernel
theorem dX1_placeUpToTransfer_94 : decode cX1_placeUpToTransfer 94 = .ok (.iload_n 3, 1) := by decide +kernel
theorem dX1_placeUpToTransfer_95 : decode cX1_placeUpToTransfer 95 = .ok (.iastore, 1) := by decide +kernel
theorem dX1_placeUpToTransfer_96 : decode cX1_placeUpToTransfer 96 = .ok (.iload 4, 2) := by decide +kernel
theorem dX1_placeUpToTransfer_98 : decode cX1_placeUpToTransfer 98 = .ok (.ireturn, 1) := by decide +kernel
theorem dX1_fitsBackward_0 : decode cX1_fitsBackward 0 = .ok (.aload_n 0, 1) := by decide +kernel
theorem dX1_fitsBackward_1 : decode cX1_fitsBackward 1 = .ok (.getfield 32, 3) := by decide +kernel
theorem dX1_fitsBackward_4 : decode cX1_fitsBackward 4 = .ok (.aload_n 0, 1) := by decide +kernel
theorem dX1_fitsBackward_5 : decode cX1_fitsBackward 5 = .ok (.getfield 28, 3) := by decide +kernel
theorem dX1_fitsBackward_8 : decode cX1_fitsBackward 8 = .ok (.iload_n 1, 1) := by decide +kernel
theorem dX1_fitsBackward_9 : decode cX1_fitsBackward 9 = .ok (.invokevirtual 92, 3) := by decide +kernel
theorem dX1_fitsBackward_12 : decode cX1_fitsBackward 12 = .ok (.invokevirtual 95, 3) := by decide +kernel
theorem dX1_fitsBackward_15 : decode cX1_fitsBackward 15 = .ok (.istore 4, 2) := by decide +kernel
theorem dX1_fitsBackward_17 : decode cX1_fitsBackward 17 = .ok (.iload 4, 2) := by decide +kernel
theorem dX1_fitsBackward_19 : decode cX1_fitsBackward 19 = .ok (.ifCond .lt 9, 3) := by decide +kernel
theorem dX1_fitsBackward_22 : decode cX1_fitsBackward 22 = .ok (.iload 4, 2) := by decide +kernel
theorem dX1_fitsBackward_24 : decode cX1_fitsBackward 24 = .ok (.iload_n 1, 1) := by decide +kernel
theorem dX1_fitsBackward_25 : decode cX1_fitsBackward 25 = .ok (.if_icmp .le 5, 3) := by decide +kernel
theorem dX1_fitsBackward_28 : decode cX1_fitsBackward 28 = .ok (.iconst 1, 1) := by decide +kernel
theorem dX1_fitsBackward_29 : decode cX1_fitsBackward 29 = .ok (.ireturn, 1) := by decide +kernel
theorem dX1_fitsBackward_30 : decode cX1_fitsBackward 30 = .ok (.aload_n 0, 1) := by decide +kernel
theorem dX1_fitsBackward_31 : decode cX1_fitsBackward 31 = .ok (.getfield 9, 3) := by decide +kernel
theorem dX1_fitsBackward_34 : decode cX1_fitsBackward 34 = .ok (.iload 4, 2) := by decide +kernel
theorem dX1_fitsBackward_36 : decode cX1_fitsBackward 36 = .ok (.iaload, 1) := by decide +kernel
theorem dX1_fitsBackward_37 : decode cX1_fitsBackward 37 = .ok (.iload_n 3, 1) := by decide +kernel
theorem dX1_fitsBackward_38 : decode cX1_fitsBackward 38 = .ok (.isub, 1) := by decide +kernel
theorem dX1_fitsBackward_39 : decode cX1_fitsBackward 39 = .ok (.invokestatic 100, 3) := by decide +kernel
theorem dX1_fitsBackward_42 : decode cX1_fitsBackward 42 = .ok (.iload_n 2, 1) := by decide +kernel
theorem dX1_fitsBackward_43 : decode cX1_fitsBackward 43 = .ok (.if_icmp .gt 7, 3) := by decide +kernel
theorem dX1_fitsBackward_46 : decode cX1_fitsBackward 46 = .ok (.iconst 1, 1) := by decide +kernel
theorem dX1_fitsBackward_47 : decode cX1_fitsBackward 47 = .ok (.goto 4, 3) := by decide +kernel
theorem dX1_fitsBackward_50 : decode cX1_fitsBackward 50 = .ok (.iconst 0, 1) := by decide +kernel
theorem dX1_fitsBackward_51 : decode cX1_fitsBackward 51 = .ok (.ireturn, 1) := by decide +kernel
theorem dX1_allFitForward_0 : decode cX1_allFitForward 0 = .ok (.aload_n 0, 1) := by decide +kernel
theorem dX1_allFitForward_1 : decode cX1_allFitForward 1 = .ok (.getfield 28, 3) := by decide +kernel
theorem dX1_allFitForward_4 : decode cX1_allFitForward 4 = .ok (.iload_n 1, 1) := by decide +kernel
theorem dX1_allFitForward_5 : decode cX1_allFitForward 5 = .ok (.invokevirtual 92, 3) := by decide +kernel
theorem dX1_allFitForward_8 : decode cX1_allFitForward 8 = .ok (.istore_n 2, 1) := by decide +kernel
theorem dX1_allFitForward_9 : decode cX1_allFitForward 9 = .ok (.iconst 0, 1) := by decide +kernel
theorem dX1_allFitForward_10 : decode cX1_allFitForward 10 = .ok (.istore_n 3, 1) := by decide +kernel
theorem dX1_allFitForward_11 : decode cX1_allFitForward 11 = .ok (.iload_n 3, 1) := by decide +kernel
theorem dX1_allFitForward_12 : decode cX1_allFitForward 12 = .ok (.iload_n 1, 1) := by decide +kernel
theorem dX1_allFitForward_13 : decode cX1_allFitForward 13 = .ok (.if_icmp .ge 61, 3) := by decide +kernel
theorem dX1_allFitForward_16 : decode cX1_allFitForward 16 = .ok (.aload_n 0, 1) := by decide +kernel
theorem dX1_allFitForward_17 : decode cX1_allFitForward 17 = .ok (.getfield 28, 3) := by decide +kernel
theorem dX1_allFitForward_20 : decode cX1_allFitForward 20 = .ok (.iload_n 3, 1) := by decide +kernel
theorem dX1_allFitForward_21 : decode cX1_allFitForward 21 = .ok (.invokevirtual 81, 3) := by decide +kernel
theorem dX1_allFitForward_24 : decode cX1_allFitForward 24 = .ok (.ifCond .eq 44, 3) := by decide +kernel
theorem dX1_allFitForward_27 : decode cX1_allFitForward 27 = .ok (.aload_n 0, 1) := by decide +kernel
theorem dX1_allFitForward_28 : decode cX1_allFitForward 28 = .ok (.getfield 28, 3) := by decide +kernel
theorem dX1_allFitForward_31 : decode cX1_allFitForward 31 = .ok (.iload_n 3, 1) := by decide +kernel
theorem dX1_allFitForward_32 : decode cX1_allFitForward 32 = .ok (.invokevirtual 92, 3) := by decide +kernel
theorem dX1_allFitForward_35 : decode cX1_allFitForward 35 = .ok (.iload_n 2, 1) := by decide +kernel
theorem dX1_allFitForward_36 : decode cX1_allFitForward 36 = .ok (.if_icmp .ne 32, 3) := by decide +kernel
theorem dX1_allFitForward_39 : decode cX1_allFitForward 39 = .ok (.aload_n 0, 1) := by decide +kernel
theorem dX1_allFitForward_40 : decode cX1_allFitForward 40 = .ok (.getfield 9, 3) := by decide +kernel
theorem dX1_allFitForward_43 : decode cX1_allFitForward 43 = .ok (.iload_n 1, 1) := by decide +kernel
theorem dX1_allFitForward_44 : decode cX1_allFitForward 44 = .ok (.iaload, 1) := by decide +kernel
theorem dX1_allFitForward_45 : decode cX1_allFitForward 45 = .ok (.aload_n 0, 1) := by decide +kernel
theorem dX1_allFitForward_46 : decode cX1_allFitForward 46 = .ok (.getfield 9, 3) := by decide +kernel
theorem dX1_allFitForward_49 : decode cX1_allFitForward 49 = .ok (.iload_n 3, 1) := by decide +kernel
theorem dX1_allFitForward_50 : decode cX1_allFitForward 50 = .ok (.iconst 1, 1) := by decide +kernel
theorem dX1_allFitForward_51 : decode cX1_allFitForward 51 = .ok (.iadd, 1) := by decide +kernel
theorem dX1_allFitForward_52 : decode cX1_allFitForward 52 = .ok (.iaload, 1) := by decide +kernel
theorem dX1_allFitForward_53 : decode cX1_allFitForward 53 = .ok (.isub, 1) := by decide +kernel
theorem dX1_allFitForward_54 : decode cX1_allFitForward 54 = .ok (.invokestatic 100, 3) := by decide +kernel
theorem dX1_allFitForward_57 : decode cX1_allFitForward 57 = .ok (.aload_n 0, 1) := by decide +kernel
theorem dX1_allFitForward_58 : decode cX1_allFitForward 58 = .ok (.getfield 15, 3) := by decide +kernel
theorem dX1_allFitForward_61 : decode cX1_allFitForward 61 = .ok (.iload_n 3, 1) := by decide +kernel
theorem dX1_allFitForward_62 : decode cX1_allFitForward 62 = .ok (.iaload, 1) := by decide +kernel
theorem dX1_allFitForward_63 : decode cX1_allFitForward 63 = .ok (.if_icmp .le 5, 3) := by decide +kernel
theorem dX1_allFitForward_66 : decode cX1_allFitForward 66 = .ok (.iconst 0, 1) := by decide +kernel
theorem dX1_allFitForward_67 : decode cX1_allFitForward 67 = .ok (.ireturn, 1) := by decide +kernel
theorem dX1_allFitForward_68 : decode cX1_allFitForward 68 = .ok (.iinc 3 1, 3) := by decide +kernel
theorem dX1_allFitForward_71 : decode cX1_allFitForward 71 = .ok (.goto (-60), 3) := by decide +kernel
theorem dX1_allFitForward_74 : decode cX1_allFitForward 74 = .ok (.iconst 1, 1) := by decide +kernel
theorem dX1_allFitForward_75 : decode cX1_allFitForward 75 = .ok (.ireturn, 1) := by decide +kernel
theorem dX1_keep_0 : decode cX1_keep 0 = .ok (.iload_n 1, 1) := by decide +kernel
theorem dX1_keep_1 : decode cX1_keep 1 = .ok (.aload_n 0, 1) := by decide +kernel
theorem dX1_keep_2 : decode cX1_keep 2 = .ok (.getfield 36, 3) := by decide +kernel
theorem dX1_keep_5 : decode cX1_keep 5 = .ok (.aload_n 0, 1) := by decide +kernel
theorem dX1_keep_6 : decode cX1_keep 6 = .ok (.getfield 32, 3) := by decide +kernel
theorem dX1_keep_9 : decode cX1_keep 9 = .ok (.invokevirtual 103, 3) := by decide +kernel
theorem dX1_keep_12 : decode cX1_keep 12 = .ok (.iload_n 1, 1) := by decide +kernel
theorem dX1_keep_13 : decode cX1_keep 13 = .ok (.invokevirtual 106, 3) := by decide +kernel
theorem dX1_keep_16 : decode cX1_keep 16 = .ok (.iadd, 1) := by decide +kernel
theorem dX1_keep_17 : decode cX1_keep 17 = .ok (.istore_n 2, 1) := by decide +kernel
theorem dX1_keep_18 : decode cX1_keep 18 = .ok (.aload_n 0, 1) := by decide +kernel
theorem dX1_keep_19 : decode cX1_keep 19 = .ok (.getfield 21, 3) := by decide +kernel
theorem dX1_keep_22 : decode cX1_keep 22 = .ok (.ifCond .eq 11, 3) := by decide +kernel
theorem dX1_keep_25 : decode cX1_keep 25 = .ok (.iload_n 2, 1) := by decide +kernel
theorem dX1_keep_26 : decode cX1_keep 26 = .ok (.aload_n 0, 1) := by decide +kernel
theorem dX1_keep_27 : decode cX1_keep 27 = .ok (.getfield 25, 3) := by decide +kernel
theorem dX1_keep_30 : decode cX1_keep 30 = .ok (.if_icmp .ge 23, 3) := by decide +kernel
theorem dX1_keep_33 : decode cX1_keep 33 = .ok (.aload_n 0, 1) := by decide +kernel
theorem dX1_keep_34 : decode cX1_keep 34 = .ok (.iload_n 2, 1) := by decide +kernel
theorem dX1_keep_35 : decode cX1_keep 35 = .ok (.putfield 25, 3) := by decide +kernel
theorem dX1_keep_38 : decode cX1_keep 38 = .ok (.aload_n 0, 1) := by decide +kernel
theorem dX1_keep_39 : decode cX1_keep 39 = .ok (.getfield 15, 3) := by decide +kernel
theorem dX1_keep_42 : decode cX1_keep 42 = .ok (.iconst 0, 1) := by decide +kernel
theorem dX1_keep_43 : decode cX1_keep 43 = .ok (.aload_n 0, 1) := by decide +kernel
theorem dX1_keep_44 : decode cX1_keep 44 = .ok (.getfield 18, 3) := by decide +kernel
theorem dX1_keep_47 : decode cX1_keep 47 = .ok (.iconst 0, 1) := by decide +kernel
theorem dX1_keep_48 : decode cX1_keep 48 = .ok (.bipush 40, 2) := by decide +kernel
theorem dX1_keep_50 : decode cX1_keep 50 = .ok (.invokestatic 109, 3) := by decide +kernel
theorem dX1_keep_53 : decode cX1_keep 53 = .ok (.aload_n 0, 1) := by decide +kernel
theorem dX1_keep_54 : decode cX1_keep 54 = .ok (.dup, 1) := by decide +kernel
theorem dX1_keep_55 : decode cX1_keep 55 = .ok (.getfield 21, 3) := by decide +kernel
theorem dX1_keep_58 : decode cX1_keep 58 = .ok (.iconst 1, 1) := by decide +kernel
theorem dX1_keep_59 : decode cX1_keep 59 = .ok (.iadd, 1) := by decide +kernel
theorem dX1_keep_60 : decode cX1_keep 60 = .ok (.putfield 21, 3) := by decide +kernel
theorem dX1_keep_63 : decode cX1_keep 63 = .ok (.return_, 1) := by decide +kernel
