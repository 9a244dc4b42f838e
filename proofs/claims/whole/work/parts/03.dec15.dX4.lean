theorem dX4_init_0 : decode cX4_init 0 = .ok (.aload_n 0, 1) := by decide +kernel
theorem dX4_init_1 : decode cX4_init 1 = .ok (.invokespecial 3, 3) := by decide +kernel
theorem dX4_init_4 : decode cX4_init 4 = .ok (.aload_n 0, 1) := by decide +kernel
theorem dX4_init_5 : decode cX4_init 5 = .ok (.bipush 41, 2) := by decide +kernel
theorem dX4_init_7 : decode cX4_init 7 = .ok (.newarray .int, 2) := by decide +kernel
theorem dX4_init_9 : decode cX4_init 9 = .ok (.putfield 9, 3) := by decide +kernel
theorem dX4_init_12 : decode cX4_init 12 = .ok (.aload_n 0, 1) := by decide +kernel
theorem dX4_init_13 : decode cX4_init 13 = .ok (.aload_n 1, 1) := by decide +kernel
theorem dX4_init_14 : decode cX4_init 14 = .ok (.putfield 15, 3) := by decide +kernel
theorem dX4_init_17 : decode cX4_init 17 = .ok (.aload_n 0, 1) := by decide +kernel
theorem dX4_init_18 : decode cX4_init 18 = .ok (.aload_n 2, 1) := by decide +kernel
theorem dX4_init_19 : decode cX4_init 19 = .ok (.putfield 19, 3) := by decide +kernel
theorem dX4_init_22 : decode cX4_init 22 = .ok (.return_, 1) := by decide +kernel
theorem dX4_compute_0 : decode cX4_compute 0 = .ok (.iconst 0, 1) := by decide +kernel
theorem dX4_compute_1 : decode cX4_compute 1 = .ok (.istore_n 1, 1) := by decide +kernel
theorem dX4_compute_2 : decode cX4_compute 2 = .ok (.aload_n 0, 1) := by decide +kernel
theorem dX4_compute_3 : decode cX4_compute 3 = .ok (.getfield 15, 3) := by decide +kernel
theorem dX4_compute_6 : decode cX4_compute 6 = .ok (.invokevirtual 23, 3) := by decide +kernel
theorem dX4_compute_9 : decode cX4_compute 9 = .ok (.istore_n 2, 1) := by decide +kernel
theorem dX4_compute_10 : decode cX4_compute 10 = .ok (.iconst 0, 1) := by decide +kernel
theorem dX4_compute_11 : decode cX4_compute 11 = .ok (.istore_n 3, 1) := by decide +kernel
theorem dX4_compute_12 : decode cX4_compute 12 = .ok (.iload_n 3, 1) := by decide +kernel
theorem dX4_compute_13 : decode cX4_compute 13 = .ok (.iload_n 2, 1) := by decide +kernel
theorem dX4_compute_14 : decode cX4_compute 14 = .ok (.if_icmp .ge 33, 3) := by decide +kernel
theorem dX4_compute_17 : decode cX4_compute 17 = .ok (.aload_n 0, 1) := by decide +kernel
theorem dX4_compute_18 : decode cX4_compute 18 = .ok (.getfield 9, 3) := by decide +kernel
theorem dX4_compute_21 : decode cX4_compute 21 = .ok (.iload_n 3, 1) := by decide +kernel
theorem dX4_compute_22 : decode cX4_compute 22 = .ok (.iload_n 1, 1) := by decide +kernel
theorem dX4_compute_23 : decode cX4_compute 23 = .ok (.iastore, 1) := by decide +kernel
theorem dX4_compute_24 : decode cX4_compute 24 = .ok (.iload_n 1, 1) := by decide +kernel
theorem dX4_compute_25 : decode cX4_compute 25 = .ok (.aload_n 0, 1) := by decide +kernel
theorem dX4_compute_26 : decode cX4_compute 26 = .ok (.iload_n 3, 1) := by decide +kernel
theorem dX4_compute_27 : decode cX4_compute 27 = .ok (.aload_n 0, 1) := by decide +kernel
theorem dX4_compute_28 : decode cX4_compute 28 = .ok (.getfield 15, 3) := by decide +kernel
theorem dX4_compute_31 : decode cX4_compute 31 = .ok (.iload_n 3, 1) := by decide +kernel
theorem dX4_compute_32 : decode cX4_compute 32 = .ok (.invokevirtual 29, 3) := by decide +kernel
theorem dX4_compute_35 : decode cX4_compute 35 = .ok (.iload_n 1, 1) := by decide +kernel
theorem dX4_compute_36 : decode cX4_compute 36 = .ok (.invokevirtual 33, 3) := by decide +kernel
theorem dX4_compute_39 : decode cX4_compute 39 = .ok (.iadd, 1) := by decide +kernel
theorem dX4_compute_40 : decode cX4_compute 40 = .ok (.istore_n 1, 1) := by decide +kernel
theorem dX4_compute_41 : decode cX4_compute 41 = .ok (.iinc 3 1, 3) := by decide +kernel
theorem dX4_compute_44 : decode cX4_compute 44 = .ok (.goto (-32), 3) := by decide +kernel
theorem dX4_compute_47 : decode cX4_compute 47 = .ok (.aload_n 0, 1) := by decide +kernel
theorem dX4_compute_48 : decode cX4_compute 48 = .ok (.getfield 9, 3) := by decide +kernel
theorem dX4_compute_51 : decode cX4_compute 51 = .ok (.iload_n 2, 1) := by decide +kernel
theorem dX4_compute_52 : decode cX4_compute 52 = .ok (.iload_n 1, 1) := by decide +kernel
theorem dX4_compute_53 : decode cX4_compute 53 = .ok (.iastore, 1) := by decide +kernel
theorem dX4_compute_54 : decode cX4_compute 54 = .ok (.return_, 1) := by decide +kernel
theorem dX4_sizeWith_0 : decode cX4_sizeWith 0 = .ok (.aload_n 0, 1) := by decide +kernel
theorem dX4_sizeWith_1 : decode cX4_sizeWith 1 = .ok (.getfield 15, 3) := by decide +kernel
theorem dX4_sizeWith_4 : decode cX4_sizeWith 4 = .ok (.iload_n 1, 1) := by decide +kernel
theorem dX4_sizeWith_5 : decode cX4_sizeWith 5 = .ok (.invokevirtual 37, 3) := by decide +kernel
theorem dX4_sizeWith_8 : decode cX4_sizeWith 8 = .ok (.tableswitch 98 0 7 #[48, 48, 98, 57, 72, 77, 82, 84], 48) := by decide +kernel
theorem dX4_sizeWith_56 : decode cX4_sizeWith 56 = .ok (.aload_n 0, 1) := by decide +kernel
theorem dX4_sizeWith_57 : decode cX4_sizeWith 57 = .ok (.getfield 15, 3) := by decide +kernel
theorem dX4_sizeWith_60 : decode cX4_sizeWith 60 = .ok (.iload_n 1, 1) := by decide +kernel
theorem dX4_sizeWith_61 : decode cX4_sizeWith 61 = .ok (.invokevirtual 40, 3) := by decide +kernel
theorem dX4_sizeWith_64 : decode cX4_sizeWith 64 = .ok (.ireturn, 1) := by decide +kernel
theorem dX4_sizeWith_65 : decode cX4_sizeWith 65 = .ok (.iload_n 3, 1) := by decide +kernel
theorem dX4_sizeWith_66 : decode cX4_sizeWith 66 = .ok (.iconst 1, 1) := by decide +kernel
theorem dX4_sizeWith_67 : decode cX4_sizeWith 67 = .ok (.aload_n 0, 1) := by decide +kernel
theorem dX4_sizeWith_68 : decode cX4_sizeWith 68 = .ok (.getfield 15, 3) := by decide +kernel
theorem dX4_sizeWith_71 : decode cX4_sizeWith 71 = .ok (.iload_n 1, 1) := by decide +kernel
theorem dX4_sizeWith_72 : decode cX4_sizeWith 72 = .ok (.invokevirtual 40, 3) := by decide +kernel
theorem dX4_sizeWith_75 : decode cX4_sizeWith 75 = .ok (.ishl, 1) := by decide +kernel
theorem dX4_sizeWith_76 : decode cX4_sizeWith 76 = .ok (.invokestatic 43, 3) := by decide +kernel
theorem dX4_sizeWith_79 : decode cX4_sizeWith 79 = .ok (.ireturn, 1) := by decide +kernel
theorem dX4_sizeWith_80 : decode cX4_sizeWith 80 = .ok (.iload_n 2, 1) := by decide +kernel
theorem dX4_sizeWith_81 : decode cX4_sizeWith 81 = .ok (.invokestatic 47, 3) := by decide +kernel
theorem dX4_sizeWith_84 : decode cX4_sizeWith 84 = .ok (.ireturn, 1) := by decide +kernel
theorem dX4_sizeWith_85 : decode cX4_sizeWith 85 = .ok (.iload_n 2, 1) := by decide +kernel
theorem dX4_sizeWith_86 : decode cX4_sizeWith 86 = .ok (.invokestatic 50, 3) := by decide +kernel
theorem dX4_sizeWith_89 : decode cX4_sizeWith 89 = .ok (.ireturn, 1) := by decide +kernel
theorem dX4_sizeWith_90 : decode cX4_sizeWith 90 = .ok (.iconst 2, 1) := by decide +kernel
theorem dX4_sizeWith_91 : decode cX4_sizeWith 91 = .ok (.ireturn, 1) := by decide +kernel
theorem dX4_sizeWith_92 : decode cX4_sizeWith 92 = .ok (.aload_n 0, 1) := by decide +kernel
theorem dX4_sizeWith_93 : decode cX4_sizeWith 93 = .ok (.aload_n 0, 1) := by decide +kernel
theorem dX4_sizeWith_94 : decode cX4_sizeWith 94 = .ok (.getfield 19, 3) := by decide +kernel
theorem dX4_sizeWith_97 : decode cX4_sizeWith 97 = .ok (.iload_n 1, 1) := by decide +kernel
theorem dX4_sizeWith_98 : decode cX4_sizeWith 98 = .ok (.invokevirtual 53, 3) := by decide +kernel
theorem dX4_sizeWith_101 : decode cX4_sizeWith 101 = .ok (.iload_n 3, 1) := by decide +kernel
theorem dX4_sizeWith_102 : decode cX4_sizeWith 102 = .ok (.invokevirtual 58, 3) := by decide +kernel
theorem dX4_sizeWith_105 : decode cX4_sizeWith 105 = .ok (.ireturn, 1) := by decide +kernel
theorem dX4_sizeWith_106 : decode cX4_sizeWith 106 = .ok (.iconst 0, 1) := by decide +kernel
theorem dX4_sizeWith_107 : decode cX4_sizeWith 107 = .ok (.ireturn, 1) := by decide +kernel
theorem dX4_poolSize_0 : decode cX4_poolSize 0 = .ok (.aload_n 0, 1) := by decide +kernel
theorem dX4_poolSize_1 : decode cX4_poolSize 1 = .ok (.getfield 19, 3) := by decide +kernel
theorem dX4_poolSize_4 : decode cX4_poolSize 4 = .ok (.iload_n 1, 1) := by decide +kernel
theorem dX4_poolSize_5 : decode cX4_poolSize 5 = .ok (.invokevirtual 61, 3) := by decide +kernel
theorem dX4_poolSize_8 : decode cX4_poolSize 8 = .ok (.istore_n 3, 1) := by decide +kernel
theorem dX4_poolSize_9 : decode cX4_poolSize 9 = .ok (.iload_n 3, 1) := by decide +kernel
theorem dX4_poolSize_10 : decode cX4_poolSize 10 = .ok (.ifCond .ne 7, 3) := by decide +kernel
theorem dX4_poolSize_13 : decode cX4_poolSize 13 = .ok (.iconst 0, 1) := by decide +kernel
theorem dX4_poolSize_14 : decode cX4_poolSize 14 = .ok (.goto 12, 3) := by decide +kernel
theorem dX4_poolSize_17 : decode cX4_poolSize 17 = .ok (.iload_n 2, 1) := by decide +kernel
theorem dX4_poolSize_18 : decode cX4_poolSize 18 = .ok (.iconst 4, 1) := by decide +kernel
theorem dX4_poolSize_19 : decode cX4_poolSize 19 = .ok (.invokestatic 43, 3) := by decide +kernel
theorem dX4_poolSize_22 : decode cX4_poolSize 22 = .ok (.iconst 4, 1) := by decide +kernel
theorem dX4_poolSize_23 : decode cX4_poolSize 23 = .ok (.iload_n 3, 1) := by decide +kernel
theorem dX4_poolSize_24 : decode cX4_poolSize 24 = .ok (.imul, 1) := by decide +kernel
theorem dX4_poolSize_25 : decode cX4_poolSize 25 = .ok (.iadd, 1) := by decide +kernel
theorem dX4_poolSize_26 : decode cX4_poolSize 26 = .ok (.ireturn, 1) := by decide +kernel
theorem dX4_addressAt_0 : decode cX4_addressAt 0 = .ok (.iload_n 1, 1) := by decide +kernel
theorem dX4_addressAt_1 : decode cX4_addressAt 1 = .ok (.ifCond .lt 18, 3) := by decide +kernel
theorem dX4_addressAt_4 : decode cX4_addressAt 4 = .ok (.iload_n 1, 1) := by decide +kernel
theorem dX4_addressAt_5 : decode cX4_addressAt 5 = .ok (.bipush 40, 2) := by decide +kernel
theorem dX4_addressAt_7 : decode cX4_addressAt 7 = .ok (.if_icmp .gt 12, 3) := by decide +kernel
theorem dX4_addressAt_10 : decode cX4_addressAt 10 = .ok (.aload_n 0, 1) := by decide +kernel
theorem dX4_addressAt_11 : decode cX4_addressAt 11 = .ok (.getfield 9, 3) := by decide +kernel
theorem dX4_addressAt_14 : decode cX4_addressAt 14 = .ok (.iload_n 1, 1) := by decide +kernel
theorem dX4_addressAt_15 : decode cX4_addressAt 15 = .ok (.iaload, 1) := by decide +kernel
theorem dX4_addressAt_16 : decode cX4_addressAt 16 = .ok (.goto 4, 3) := by decide +kernel
theorem dX4_addressAt_19 : decode cX4_addressAt 19 = .ok (.iconst 0, 1) := by decide +kernel
theorem dX4_addressAt_20 : decode cX4_addressAt 20 = .ok (.ireturn, 1) := by decide +kernel
theorem dX4_sizeAt_0 : decode cX4_sizeAt 0 = .ok (.aload_n 0, 1) := by decide +kernel
theorem dX4_sizeAt_1 : decode cX4_sizeAt 1 = .ok (.iload_n 1, 1) := by decide +kernel
theorem dX4_sizeAt_2 : decode cX4_sizeAt 2 = .ok (.iconst 1, 1) := by decide +kernel
theorem dX4_sizeAt_3 : decode cX4_sizeAt 3 = .ok (.iadd, 1) := by decide +kernel
theorem dX4_sizeAt_4 : decode cX4_sizeAt 4 = .ok (.invokevirtual 64, 3) := by decide +kernel
theorem dX4_sizeAt_7 : decode cX4_sizeAt 7 = .ok (.aload_n 0, 1) := by decide +kernel
theorem dX4_sizeAt_8 : decode cX4_sizeAt 8 = .ok (.iload_n 1, 1) := by decide +kernel
theorem dX4_sizeAt_9 : decode cX4_sizeAt 9 = .ok (.invokevirtual 64, 3) := by decide +kernel
theorem dX4_sizeAt_12 : decode cX4_sizeAt 12 = .ok (.isub, 1) := by decide +kernel
theorem dX4_sizeAt_13 : decode cX4_sizeAt 13 = .ok (.ireturn, 1) := by decide +kernel
theorem dX4_sizeOfItems_0 : decode cX4_sizeOfItems 0 = .ok (.aload_n 0, 1) := by decide +kernel
theorem dX4_sizeOfItems_1 : decode cX4_sizeOfItems 1 = .ok (.aload_n 0, 1) := by decide +kernel
theorem dX4_sizeOfItems_2 : decode cX4_sizeOfItems 2 = .ok (.getfield 15, 3) := by decide +kernel
theorem dX4_sizeOfItems_5 : decode cX4_sizeOfItems 5 = .ok (.invokevirtual 23, 3) := by decide +kernel
theorem dX4_sizeOfItems_8 : decode cX4_sizeOfItems 8 = .ok (.invokevirtual 64, 3) := by decide +kernel
theorem dX4_sizeOfItems_11 : decode cX4_sizeOfItems 11 = .ok (.ireturn, 1) := by decide +kernel
theorem dX4_sizeWithEndPool_0 : decode cX4_sizeWithEndPool 0 = .ok (.aload_n 0, 1) := by decide +kernel
theorem dX4_sizeWithEndPool_1 : decode cX4_sizeWithEndPool 1 = .ok (.invokevirtual 67, 3) := by decide +kernel
theorem dX4_sizeWithEndPool_4 : decode cX4_sizeWithEndPool 4 = .ok (.aload_n 0, 1) := by decide +kernel
theorem dX4_sizeWithEndPool_5 : decode cX4_sizeWithEndPool 5 = .ok (.aload_n 0, 1) := by decide +kernel
theorem dX4_sizeWithEndPool_6 : decode cX4_sizeWithEndPool 6 = .ok (.getfield 19, 3) := by decide +kernel
theorem dX4_sizeWithEndPool_9 : decode cX4_sizeWithEndPool 9 = .ok (.invokevirtual 70, 3) := by decide +kernel
theorem dX4_sizeWithEndPool_12 : decode cX4_sizeWithEndPool 12 = .ok (.aload_n 0, 1) := by decide +kernel
theorem dX4_sizeWithEndPool_13 : decode cX4_sizeWithEndPool 13 = .ok (.invokevirtual 67, 3) := by decide +kernel
theorem dX4_sizeWithEndPool_16 : decode cX4_sizeWithEndPool 16 = .ok (.invokevirtual 58, 3) := by decide +kernel
theorem dX4_sizeWithEndPool_19 : decode cX4_sizeWithEndPool 19 = .ok (.iadd, 1) := by decide +kernel
theorem dX4_sizeWithEndPool_20 : decode cX4_sizeWithEndPool 20 = .ok (.ireturn, 1) := by decide +kernel
theorem dX4_paddingBytes_0 : decode cX4_paddingBytes 0 = .ok (.iconst 0, 1) := by decide +kernel
theorem dX4_paddingBytes_1 : decode cX4_paddingBytes 1 = .ok (.istore_n 1, 1) := by decide +kernel
theorem dX4_paddingBytes_2 : decode cX4_paddingBytes 2 = .ok (.iconst 0, 1) := by decide +kernel
theorem dX4_paddingBytes_3 : decode cX4_paddingBytes 3 = .ok (.istore_n 2, 1) := by decide +kernel
theorem dX4_paddingBytes_4 : decode cX4_paddingBytes 4 = .ok (.iload_n 2, 1) := by decide +kernel
theorem dX4_paddingBytes_5 : decode cX4_paddingBytes 5 = .ok (.aload_n 0, 1) := by decide +kernel
theorem dX4_paddingBytes_6 : decode cX4_paddingBytes 6 = .ok (.getfield 15, 3) := by decide +kernel
theorem dX4_paddingBytes_9 : decode cX4_paddingBytes 9 = .ok (.invokevirtual 23, 3) := by decide +kernel
theorem dX4_paddingBytes_12 : decode cX4_paddingBytes 12 = .ok (.if_icmp .ge 29, 3) := by decide +kernel
theorem dX4_paddingBytes_15 : decode cX4_paddingBytes 15 = .ok (.aload_n 0, 1) := by decide +kernel
theorem dX4_paddingBytes_16 : decode cX4_paddingBytes 16 = .ok (.getfield 15, 3) := by decide +kernel
theorem dX4_paddingBytes_19 : decode cX4_paddingBytes 19 = .ok (.iload_n 2, 1) := by decide +kernel
theorem dX4_paddingBytes_20 : decode cX4_paddingBytes 20 = .ok (.invokevirtual 37, 3) := by decide +kernel
theorem dX4_paddingBytes_23 : decode cX4_paddingBytes 23 = .ok (.iconst 3, 1) := by decide +kernel
theorem dX4_paddingBytes_24 : decode cX4_paddingBytes 24 = .ok (.if_icmp .ne 11, 3) := by decide +kernel
theorem dX4_paddingBytes_27 : decode cX4_paddingBytes 27 = .ok (.iload_n 1, 1) := by decide +kernel
theorem dX4_paddingBytes_28 : decode cX4_paddingBytes 28 = .ok (.aload_n 0, 1) := by decide +kernel
theorem dX4_paddingBytes_29 : decode cX4_paddingBytes 29 = .ok (.iload_n 2, 1) := by decide +kernel
theorem dX4_paddingBytes_30 : decode cX4_paddingBytes 30 = .ok (.invokevirtual 73, 3) := by decide +kernel
theorem dX4_paddingBytes_33 : decode cX4_paddingBytes 33 = .ok (.iadd, 1) := by decide +kernel
theorem dX4_paddingBytes_34 : decode cX4_paddingBytes 34 = .ok (.istore_n 1, 1) := by decide +kernel
theorem dX4_paddingBytes_35 : decode cX4_paddingBytes 35 = .ok (.iinc 2 1, 3) := by decide +kernel
theorem dX4_paddingBytes_38 : decode cX4_paddingBytes 38 = .ok (.goto (-34), 3) := by decide +kernel
theorem dX4_paddingBytes_41 : decode cX4_paddingBytes 41 = .ok (.iconst 0, 1) := by decide +kernel
theorem dX4_paddingBytes_42 : decode cX4_paddingBytes 42 = .ok (.istore_n 2, 1) := by decide +kernel
theorem dX4_paddingBytes_43 : decode cX4_paddingBytes 43 = .ok (.iload_n 2, 1) := by decide +kernel
theorem dX4_paddingBytes_44 : decode cX4_paddingBytes 44 = .ok (.aload_n 0, 1) := by decide +kernel
theorem dX4_paddingBytes_45 : decode cX4_paddingBytes 45 = .ok (.getfield 19, 3) := by decide +kernel
theorem dX4_paddingBytes_48 : decode cX4_paddingBytes 48 = .ok (.invokevirtual 70, 3) := by decide +kernel
theorem dX4_paddingBytes_51 : decode cX4_paddingBytes 51 = .ok (.if_icmp .gt 42, 3) := by decide +kernel
theorem dX4_paddingBytes_54 : decode cX4_paddingBytes 54 = .ok (.aload_n 0, 1) := by decide +kernel
theorem dX4_paddingBytes_55 : decode cX4_paddingBytes 55 = .ok (.iload_n 2, 1) := by decide +kernel
theorem dX4_paddingBytes_56 : decode cX4_paddingBytes 56 = .ok (.aload_n 0, 1) := by decide +kernel
theorem dX4_paddingBytes_57 : decode cX4_paddingBytes 57 = .ok (.aload_n 0, 1) := by decide +kernel
theorem dX4_paddingBytes_58 : decode cX4_paddingBytes 58 = .ok (.getfield 19, 3) := by decide +kernel
theorem dX4_paddingBytes_61 : decode cX4_paddingBytes 61 = .ok (.iload_n 2, 1) := by decide +kernel
theorem dX4_paddingBytes_62 : decode cX4_paddingBytes 62 = .ok (.invokevirtual 76, 3) := by decide +kernel
theorem dX4_paddingBytes_65 : decode cX4_paddingBytes 65 = .ok (.invokevirtual 64, 3) := by decide +kernel
theorem dX4_paddingBytes_68 : decode cX4_paddingBytes 68 = .ok (.invokevirtual 58, 3) := by decide +kernel
theorem dX4_paddingBytes_71 : decode cX4_paddingBytes 71 = .ok (.istore_n 3, 1) := by decide +kernel
theorem dX4_paddingBytes_72 : decode cX4_paddingBytes 72 = .ok (.iload_n 1, 1) := by decide +kernel
theorem dX4_paddingBytes_73 : decode cX4_paddingBytes 73 = .ok (.iload_n 3, 1) := by decide +kernel
theorem dX4_paddingBytes_74 : decode cX4_paddingBytes 74 = .ok (.iconst 4, 1) := by decide +kernel
theorem dX4_paddingBytes_75 : decode cX4_paddingBytes 75 = .ok (.aload_n 0, 1) := by decide +kernel
theorem dX4_paddingBytes_76 : decode cX4_paddingBytes 76 = .ok (.getfield 19, 3) := by decide +kernel
theorem dX4_paddingBytes_79 : decode cX4_paddingBytes 79 = .ok (.iload_n 2, 1) := by decide +kernel
theorem dX4_paddingBytes_80 : decode cX4_paddingBytes 80 = .ok (.invokevirtual 61, 3) := by decide +kernel
theorem dX4_paddingBytes_83 : decode cX4_paddingBytes 83 = .ok (.imul, 1) := by decide +kernel
theorem dX4_paddingBytes_84 : decode cX4_paddingBytes 84 = .ok (.isub, 1) := by decide +kernel
theorem dX4_paddingBytes_85 : decode cX4_paddingBytes 85 = .ok (.iadd, 1) := by decide +kernel
theorem dX4_paddingBytes_86 : decode cX4_paddingBytes 86 = .ok (.istore_n 1, 1) := by decide +kernel
theorem dX4_paddingBytes_87 : decode cX4_paddingBytes 87 = .ok (.iinc 2 1, 3) := by decide +kernel
theorem dX4_paddingBytes_90 : decode cX4_paddingBytes 90 = .ok (.goto (-47), 3) := by decide +kernel
theorem dX4_paddingBytes_93 : decode cX4_paddingBytes 93 = .ok (.iload_n 1, 1) := by decide +kernel
theorem dX4_paddingBytes_94 : decode cX4_paddingBytes 94 = .ok (.ireturn, 1) := by decide +kernel
theorem dX4_lastItemUpTo_0 : decode cX4_lastItemUpTo 0 = .ok (.iconst 0, 1) := by decide +kernel
theorem dX4_lastItemUpTo_1 : decode cX4_lastItemUpTo 1 = .ok (.istore_n 2, 1) := by decide +kernel
theorem dX4_lastItemUpTo_2 : decode cX4_lastItemUpTo 2 = .ok (.iconst 0, 1) := by decide +kernel
theorem dX4_lastItemUpTo_3 : decode cX4_lastItemUpTo 3 = .ok (.istore_n 3, 1) := by decide +kernel
theorem dX4_lastItemUpTo_4 : decode cX4_lastItemUpTo 4 = .ok (.iload_n 3, 1) := by decide +kernel
theorem dX4_lastItemUpTo_5 : decode cX4_lastItemUpTo 5 = .ok (.aload_n 0, 1) := by decide +kernel
theorem dX4_lastItemUpTo_6 : decode cX4_lastItemUpTo 6 = .ok (.getfield 15, 3) := by decide +kernel
theorem dX4_lastItemUpTo_9 : decode cX4_lastItemUpTo 9 = .ok (.invokevirtual 23, 3) := by decide +kernel
theorem dX4_lastItemUpTo_12 : decode cX4_lastItemUpTo 12 = .ok (.if_icmp .ge 21, 3) := by decide +kernel
theorem dX4_lastItemUpTo_15 : decode cX4_lastItemUpTo 15 = .ok (.aload_n 0, 1) := by decide +kernel
theorem dX4_lastItemUpTo_16 : decode cX4_lastItemUpTo 16 = .ok (.getfield 9, 3) := by decide +kernel
theorem dX4_lastItemUpTo_19 : decode cX4_lastItemUpTo 19 = .ok (.iload_n 3, 1) := by decide +kernel
theorem dX4_lastItemUpTo_20 : decode cX4_lastItemUpTo 20 = .ok (.iaload, 1) := by decide +kernel
theorem dX4_lastItemUpTo_21 : decode cX4_lastItemUpTo 21 = .ok (.iload_n 1, 1) := by decide +kernel
theorem dX4_lastItemUpTo_22 : decode cX4_lastItemUpTo 22 = .ok (.if_icmp .gt 5, 3) := by decide +kernel
theorem dX4_lastItemUpTo_25 : decode cX4_lastItemUpTo 25 = .ok (.iload_n 3, 1) := by decide +kernel
theorem dX4_lastItemUpTo_26 : decode cX4_lastItemUpTo 26 = .ok (.istore_n 2, 1) := by decide +kernel
theorem dX4_lastItemUpTo_27 : decode cX4_lastItemUpTo 27 = .ok (.iinc 3 1, 3) := by decide +kernel
theorem dX4_lastItemUpTo_30 : decode cX4_lastItemUpTo 30 = .ok (.goto (-26), 3) := by decide +kernel
theorem dX4_lastItemUpTo_33 : decode cX4_lastItemUpTo 33 = .ok (.iload_n 2, 1) := by decide +kernel
theorem dX4_lastItemUpTo_34 : decode cX4_lastItemUpTo 34 = .ok (.ireturn, 1) := by decide +kernel
theorem dX4_addressWith_0 : decode cX4_addressWith 0 = .ok (.iconst 0, 1) := by decide +kernel
theorem dX4_addressWith_1 : decode cX4_addressWith 1 = .ok (.istore_n 3, 1) := by decide +kernel
theorem dX4_addressWith_2 : decode cX4_addressWith 2 = .ok (.iconst 0, 1) := by decide +kernel
theorem dX4_addressWith_3 : decode cX4_addressWith 3 = .ok (.istore 4, 2) := by decide +kernel
theorem dX4_addressWith_5 : decode cX4_addressWith 5 = .ok (.iload 4, 2) := by decide +kernel
theorem dX4_addressWith_7 : decode cX4_addressWith 7 = .ok (.iload_n 1, 1) := by decide +kernel
theorem dX4_addressWith_8 : decode cX4_addressWith 8 = .ok (.if_icmp .ge 32, 3) := by decide +kernel
theorem dX4_addressWith_11 : decode cX4_addressWith 11 = .ok (.iload 4, 2) := by decide +kernel
theorem dX4_addressWith_13 : decode cX4_addressWith 13 = .ok (.aload_n 0, 1) := by decide +kernel
theorem dX4_addressWith_14 : decode cX4_addressWith 14 = .ok (.getfield 15, 3) := by decide +kernel
theorem dX4_addressWith_17 : decode cX4_addressWith 17 = .ok (.invokevirtual 23, 3) := by decide +kernel
theorem dX4_addressWith_20 : decode cX4_addressWith 20 = .ok (.if_icmp .ge 20, 3) := by decide +kernel
theorem dX4_addressWith_23 : decode cX4_addressWith 23 = .ok (.iload_n 3, 1) := by decide +kernel
theorem dX4_addressWith_24 : decode cX4_addressWith 24 = .ok (.aload_n 0, 1) := by decide +kernel
theorem dX4_addressWith_25 : decode cX4_addressWith 25 = .ok (.iload 4, 2) := by decide +kernel
theorem dX4_addressWith_27 : decode cX4_addressWith 27 = .ok (.iload_n 2, 1) := by decide +kernel
theorem dX4_addressWith_28 : decode cX4_addressWith 28 = .ok (.iload_n 3, 1) := by decide +kernel
theorem dX4_addressWith_29 : decode cX4_addressWith 29 = .ok (.invokevirtual 33, 3) := by decide +kernel
theorem dX4_addressWith_32 : decode cX4_addressWith 32 = .ok (.iadd, 1) := by decide +kernel
theorem dX4_addressWith_33 : decode cX4_addressWith 33 = .ok (.istore_n 3, 1) := by decide +kernel
theorem dX4_addressWith_34 : decode cX4_addressWith 34 = .ok (.iinc 4 1, 3) := by decide +kernel
theorem dX4_addressWith_37 : decode cX4_addressWith 37 = .ok (.goto (-32), 3) := by decide +kernel
theorem dX4_addressWith_40 : decode cX4_addressWith 40 = .ok (.iload_n 3, 1) := by decide +kernel
theorem dX4_addressWith_41 : decode cX4_addressWith 41 = .ok (.ireturn, 1) := by decide +kernel
theorem dX4_addressOfLiteral_0 : decode cX4_addressOfLiteral 0 = .ok (.aload_n 0, 1) := by decide +kernel
theorem dX4_addressOfLiteral_1 : decode cX4_addressOfLiteral 1 = .ok (.aload_n 0, 1) := by decide +kernel
theorem dX4_addressOfLiteral_2 : decode cX4_addressOfLiteral 2 = .ok (.getfield 19, 3) := by decide +kernel
theorem dX4_addressOfLiteral_5 : decode cX4_addressOfLiteral 5 = .ok (.iload_n 1, 1) := by decide +kernel
theorem dX4_addressOfLiteral_6 : decode cX4_addressOfLiteral 6 = .ok (.invokevirtual 76, 3) := by decide +kernel
theorem dX4_addressOfLiteral_9 : decode cX4_addressOfLiteral 9 = .ok (.invokevirtual 64, 3) := by decide +kernel
theorem dX4_addressOfLiteral_12 : decode cX4_addressOfLiteral 12 = .ok (.iload_n 3, 1) := by decide +kernel
theorem dX4_addressOfLiteral_13 : decode cX4_addressOfLiteral 13 = .ok (.iadd, 1) := by decide +kernel
theorem dX4_addressOfLiteral_14 : decode cX4_addressOfLiteral 14 = .ok (.istore 4, 2) := by decide +kernel
theorem dX4_addressOfLiteral_16 : decode cX4_addressOfLiteral 16 = .ok (.iload 4, 2) := by decide +kernel
theorem dX4_addressOfLiteral_18 : decode cX4_addressOfLiteral 18 = .ok (.iload 4, 2) := by decide +kernel
theorem dX4_addressOfLiteral_20 : decode cX4_addressOfLiteral 20 = .ok (.iconst 4, 1) := by decide +kernel
theorem dX4_addressOfLiteral_21 : decode cX4_addressOfLiteral 21 = .ok (.invokestatic 43, 3) := by decide +kernel
theorem dX4_addressOfLiteral_24 : decode cX4_addressOfLiteral 24 = .ok (.iadd, 1) := by decide +kernel
theorem dX4_addressOfLiteral_25 : decode cX4_addressOfLiteral 25 = .ok (.iconst 4, 1) := by decide +kernel
theorem dX4_addressOfLiteral_26 : decode cX4_addressOfLiteral 26 = .ok (.iload_n 2, 1) := by decide +kernel
theorem dX4_addressOfLiteral_27 : decode cX4_addressOfLiteral 27 = .ok (.imul, 1) := by decide +kernel
theorem dX4_addressOfLiteral_28 : decode cX4_addressOfLiteral 28 = .ok (.iadd, 1) := by decide +kernel
theorem dX4_addressOfLiteral_29 : decode cX4_addressOfLiteral 29 = .ok (.ireturn, 1) := by decide +kernel
theorem dX4_distanceWith_0 : decode cX4_distanceWith 0 = .ok (.aload_n 0, 1) := by decide +kernel
theorem dX4_distanceWith_1 : decode cX4_distanceWith 1 = .ok (.aload_n 0, 1) := by decide +kernel
theorem dX4_distanceWith_2 : decode cX4_distanceWith 2 = .ok (.getfield 19, 3) := by decide +kernel
theorem dX4_distanceWith_5 : decode cX4_distanceWith 5 = .ok (.iload_n 1, 1) := by decide +kernel
theorem dX4_distanceWith_6 : decode cX4_distanceWith 6 = .ok (.invokevirtual 53, 3) := by decide +kernel
theorem dX4_distanceWith_9 : decode cX4_distanceWith 9 = .ok (.aload_n 0, 1) := by decide +kernel
theorem dX4_distanceWith_10 : decode cX4_distanceWith 10 = .ok (.getfield 19, 3) := by decide +kernel
theorem dX4_distanceWith_13 : decode cX4_distanceWith 13 = .ok (.iload_n 1, 1) := by decide +kernel
theorem dX4_distanceWith_14 : decode cX4_distanceWith 14 = .ok (.invokevirtual 79, 3) := by decide +kernel
theorem dX4_distanceWith_17 : decode cX4_distanceWith 17 = .ok (.iload_n 2, 1) := by decide +kernel
theorem dX4_distanceWith_18 : decode cX4_distanceWith 18 = .ok (.invokevirtual 82, 3) := by decide +kernel
theorem dX4_distanceWith_21 : decode cX4_distanceWith 21 = .ok (.istore_n 3, 1) := by decide +kernel
theorem dX4_distanceWith_22 : decode cX4_distanceWith 22 = .ok (.iload_n 3, 1) := by decide +kernel
theorem dX4_distanceWith_23 : decode cX4_distanceWith 23 = .ok (.aload_n 0, 1) := by decide +kernel
theorem dX4_distanceWith_24 : decode cX4_distanceWith 24 = .ok (.iload_n 1, 1) := by decide +kernel
theorem dX4_distanceWith_25 : decode cX4_distanceWith 25 = .ok (.invokevirtual 64, 3) := by decide +kernel
theorem dX4_distanceWith_28 : decode cX4_distanceWith 28 = .ok (.iconst 2, 1) := by decide +kernel
theorem dX4_distanceWith_29 : decode cX4_distanceWith 29 = .ok (.iadd, 1) := by decide +kernel
theorem dX4_distanceWith_30 : decode cX4_distanceWith 30 = .ok (.isub, 1) := by decide +kernel
theorem dX4_distanceWith_31 : decode cX4_distanceWith 31 = .ok (.ireturn, 1) := by decide +kernel
theorem dX4_loadsBeyondReach_0 : decode cX4_loadsBeyondReach 0 = .ok (.iconst 0, 1) := by decide +kernel
theorem dX4_loadsBeyondReach_1 : decode cX4_loadsBeyondReach 1 = .ok (.istore_n 1, 1) := by decide +kernel
theorem dX4_loadsBeyondReach_2 : decode cX4_loadsBeyondReach 2 = .ok (.iconst 0, 1) := by decide +kernel
theorem dX4_loadsBeyondReach_3 : decode cX4_loadsBeyondReach 3 = .ok (.istore_n 2, 1) := by decide +kernel
theorem dX4_loadsBeyondReach_4 : decode cX4_loadsBeyondReach 4 = .ok (.iload_n 2, 1) := by decide +kernel
theorem dX4_loadsBeyondReach_5 : decode cX4_loadsBeyondReach 5 = .ok (.aload_n 0, 1) := by decide +kernel
theorem dX4_loadsBeyondReach_6 : decode cX4_loadsBeyondReach 6 = .ok (.getfield 15, 3) := by decide +kernel
theorem dX4_loadsBeyondReach_9 : decode cX4_loadsBeyondReach 9 = .ok (.invokevirtual 23, 3) := by decide +kernel
theorem dX4_loadsBeyondReach_12 : decode cX4_loadsBeyondReach 12 = .ok (.if_icmp .ge 36, 3) := by decide +kernel
theorem dX4_loadsBeyondReach_15 : decode cX4_loadsBeyondReach 15 = .ok (.aload_n 0, 1) := by decide +kernel
theorem dX4_loadsBeyondReach_16 : decode cX4_loadsBeyondReach 16 = .ok (.getfield 15, 3) := by decide +kernel
theorem dX4_loadsBeyondReach_19 : decode cX4_loadsBeyondReach 19 = .ok (.iload_n 2, 1) := by decide +kernel
theorem dX4_loadsBeyondReach_20 : decode cX4_loadsBeyondReach 20 = .ok (.invokevirtual 37, 3) := by decide +kernel
theorem dX4_loadsBeyondReach_23 : decode cX4_loadsBeyondReach 23 = .ok (.bipush 6, 2) := by decide +kernel
theorem dX4_loadsBeyondReach_25 : decode cX4_loadsBeyondReach 25 = .ok (.if_icmp .ne 17, 3) := by decide +kernel
theorem dX4_loadsBeyondReach_28 : decode cX4_loadsBeyondReach 28 = .ok (.aload_n 0, 1) := by decide +kernel
theorem dX4_loadsBeyondReach_29 : decode cX4_loadsBeyondReach 29 = .ok (.iload_n 2, 1) := by decide +kernel
theorem dX4_loadsBeyondReach_30 : decode cX4_loadsBeyondReach 30 = .ok (.iconst 0, 1) := by decide +kernel
theorem dX4_loadsBeyondReach_31 : decode cX4_loadsBeyondReach 31 = .ok (.invokevirtual 85, 3) := by decide +kernel
theorem dX4_loadsBeyondReach_34 : decode cX4_loadsBeyondReach 34 = .ok (.bipush 60, 2) := by decide +kernel
theorem dX4_loadsBeyondReach_36 : decode cX4_loadsBeyondReach 36 = .ok (.if_icmp .le 6, 3) := by decide +kernel
theorem dX4_loadsBeyondReach_39 : decode cX4_loadsBeyondReach 39 = .ok (.iinc 1 1, 3) := by decide +kernel
theorem dX4_loadsBeyondReach_42 : decode cX4_loadsBeyondReach 42 = .ok (.iinc 2 1, 3) := by decide +kernel
theorem dX4_loadsBeyondReach_45 : decode cX4_loadsBeyondReach 45 = .ok (.goto (-41), 3) := by decide +kernel
theorem dX4_loadsBeyondReach_48 : decode cX4_loadsBeyondReach 48 = .ok (.iload_n 1, 1) := by decide +kernel
theorem dX4_loadsBeyondReach_49 : decode cX4_loadsBeyondReach 49 = .ok (.ireturn, 1) := by decide +kernel
theorem dX4_slackOf_0 : decode cX4_slackOf 0 = .ok (.bipush 50, 2) := by decide +kernel
theorem dX4_slackOf_2 : decode cX4_slackOf 2 = .ok (.istore_n 2, 1) := by decide +kernel
theorem dX4_slackOf_3 : decode cX4_slackOf 3 = .ok (.iload_n 2, 1) := by decide +kernel
theorem dX4_slackOf_4 : decode cX4_slackOf 4 = .ok (.ifCond .le 22, 3) := by decide +kernel
theorem dX4_slackOf_7 : decode cX4_slackOf 7 = .ok (.aload_n 0, 1) := by decide +kernel
theorem dX4_slackOf_8 : decode cX4_slackOf 8 = .ok (.iload_n 1, 1) := by decide +kernel
theorem dX4_slackOf_9 : decode cX4_slackOf 9 = .ok (.iload_n 2, 1) := by decide +kernel
theorem dX4_slackOf_10 : decode cX4_slackOf 10 = .ok (.invokevirtual 85, 3) := by decide +kernel
theorem dX4_slackOf_13 : decode cX4_slackOf 13 = .ok (.bipush 60, 2) := by decide +kernel
theorem dX4_slackOf_15 : decode cX4_slackOf 15 = .ok (.if_icmp .gt 5, 3) := by decide +kernel
theorem dX4_slackOf_18 : decode cX4_slackOf 18 = .ok (.iload_n 2, 1) := by decide +kernel
theorem dX4_slackOf_19 : decode cX4_slackOf 19 = .ok (.ireturn, 1) := by decide +kernel
theorem dX4_slackOf_20 : decode cX4_slackOf 20 = .ok (.iinc 2 (-1), 3) := by decide +kernel
theorem dX4_slackOf_23 : decode cX4_slackOf 23 = .ok (.goto (-20), 3) := by decide +kernel
theorem dX4_slackOf_26 : decode cX4_slackOf 26 = .ok (.iconst 0, 1) := by decide +kernel
theorem dX4_slackOf_27 : decode cX4_slackOf 27 = .ok (.ireturn, 1) := by decide +kernel
