theorem dX2_init_0 : decode cX2_init 0 = .ok (.aload_n 0, 1) := by decide +kernel
theorem dX2_init_1 : decode cX2_init 1 = .ok (.invokespecial 3, 3) := by decide +kernel
theorem dX2_init_4 : decode cX2_init 4 = .ok (.aload_n 0, 1) := by decide +kernel
theorem dX2_init_5 : decode cX2_init 5 = .ok (.bipush 10, 2) := by decide +kernel
theorem dX2_init_7 : decode cX2_init 7 = .ok (.anewarray 9, 3) := by decide +kernel
theorem dX2_init_10 : decode cX2_init 10 = .ok (.putfield 11, 3) := by decide +kernel
theorem dX2_init_13 : decode cX2_init 13 = .ok (.aload_n 0, 1) := by decide +kernel
theorem dX2_init_14 : decode cX2_init 14 = .ok (.iconst 0, 1) := by decide +kernel
theorem dX2_init_15 : decode cX2_init 15 = .ok (.putfield 17, 3) := by decide +kernel
theorem dX2_init_18 : decode cX2_init 18 = .ok (.aload_n 0, 1) := by decide +kernel
theorem dX2_init_19 : decode cX2_init 19 = .ok (.iconst 0, 1) := by decide +kernel
theorem dX2_init_20 : decode cX2_init 20 = .ok (.putfield 21, 3) := by decide +kernel
theorem dX2_init_23 : decode cX2_init 23 = .ok (.iconst 0, 1) := by decide +kernel
theorem dX2_init_24 : decode cX2_init 24 = .ok (.istore_n 1, 1) := by decide +kernel
theorem dX2_init_25 : decode cX2_init 25 = .ok (.iload_n 1, 1) := by decide +kernel
theorem dX2_init_26 : decode cX2_init 26 = .ok (.bipush 10, 2) := by decide +kernel
theorem dX2_init_28 : decode cX2_init 28 = .ok (.if_icmp .ge 22, 3) := by decide +kernel
theorem dX2_init_31 : decode cX2_init 31 = .ok (.aload_n 0, 1) := by decide +kernel
theorem dX2_init_32 : decode cX2_init 32 = .ok (.getfield 11, 3) := by decide +kernel
theorem dX2_init_35 : decode cX2_init 35 = .ok (.iload_n 1, 1) := by decide +kernel
theorem dX2_init_36 : decode cX2_init 36 = .ok (.new 9, 3) := by decide +kernel
theorem dX2_init_39 : decode cX2_init 39 = .ok (.dup, 1) := by decide +kernel
theorem dX2_init_40 : decode cX2_init 40 = .ok (.invokespecial 24, 3) := by decide +kernel
theorem dX2_init_43 : decode cX2_init 43 = .ok (.aastore, 1) := by decide +kernel
theorem dX2_init_44 : decode cX2_init 44 = .ok (.iinc 1 1, 3) := by decide +kernel
theorem dX2_init_47 : decode cX2_init 47 = .ok (.goto (-22), 3) := by decide +kernel
theorem dX2_init_50 : decode cX2_init 50 = .ok (.return_, 1) := by decide +kernel
theorem dX2_isEmpty_0 : decode cX2_isEmpty 0 = .ok (.aload_n 0, 1) := by decide +kernel
theorem dX2_isEmpty_1 : decode cX2_isEmpty 1 = .ok (.getfield 21, 3) := by decide +kernel
theorem dX2_isEmpty_4 : decode cX2_isEmpty 4 = .ok (.ifCond .ne 7, 3) := by decide +kernel
theorem dX2_isEmpty_7 : decode cX2_isEmpty 7 = .ok (.iconst 1, 1) := by decide +kernel
theorem dX2_isEmpty_8 : decode cX2_isEmpty 8 = .ok (.goto 4, 3) := by decide +kernel
theorem dX2_isEmpty_11 : decode cX2_isEmpty 11 = .ok (.iconst 0, 1) := by decide +kernel
theorem dX2_isEmpty_12 : decode cX2_isEmpty 12 = .ok (.ireturn, 1) := by decide +kernel
theorem dX2_remember_0 : decode cX2_remember 0 = .ok (.aload_n 0, 1) := by decide +kernel
theorem dX2_remember_1 : decode cX2_remember 1 = .ok (.aload_n 0, 1) := by decide +kernel
theorem dX2_remember_2 : decode cX2_remember 2 = .ok (.getfield 17, 3) := by decide +kernel
theorem dX2_remember_5 : decode cX2_remember 5 = .ok (.bipush 9, 2) := by decide +kernel
theorem dX2_remember_7 : decode cX2_remember 7 = .ok (.if_icmp .ge 12, 3) := by decide +kernel
theorem dX2_remember_10 : decode cX2_remember 10 = .ok (.aload_n 0, 1) := by decide +kernel
theorem dX2_remember_11 : decode cX2_remember 11 = .ok (.getfield 17, 3) := by decide +kernel
theorem dX2_remember_14 : decode cX2_remember 14 = .ok (.iconst 1, 1) := by decide +kernel
theorem dX2_remember_15 : decode cX2_remember 15 = .ok (.iadd, 1) := by decide +kernel
theorem dX2_remember_16 : decode cX2_remember 16 = .ok (.goto 4, 3) := by decide +kernel
theorem dX2_remember_19 : decode cX2_remember 19 = .ok (.iconst 0, 1) := by decide +kernel
theorem dX2_remember_20 : decode cX2_remember 20 = .ok (.putfield 17, 3) := by decide +kernel
theorem dX2_remember_23 : decode cX2_remember 23 = .ok (.aload_n 0, 1) := by decide +kernel
theorem dX2_remember_24 : decode cX2_remember 24 = .ok (.getfield 11, 3) := by decide +kernel
theorem dX2_remember_27 : decode cX2_remember 27 = .ok (.aload_n 0, 1) := by decide +kernel
theorem dX2_remember_28 : decode cX2_remember 28 = .ok (.getfield 17, 3) := by decide +kernel
theorem dX2_remember_31 : decode cX2_remember 31 = .ok (.aaload, 1) := by decide +kernel
theorem dX2_remember_32 : decode cX2_remember 32 = .ok (.aload_n 1, 1) := by decide +kernel
theorem dX2_remember_33 : decode cX2_remember 33 = .ok (.invokevirtual 25, 3) := by decide +kernel
theorem dX2_remember_36 : decode cX2_remember 36 = .ok (.aload_n 0, 1) := by decide +kernel
theorem dX2_remember_37 : decode cX2_remember 37 = .ok (.getfield 21, 3) := by decide +kernel
theorem dX2_remember_40 : decode cX2_remember 40 = .ok (.bipush 10, 2) := by decide +kernel
theorem dX2_remember_42 : decode cX2_remember 42 = .ok (.if_icmp .ge 13, 3) := by decide +kernel
theorem dX2_remember_45 : decode cX2_remember 45 = .ok (.aload_n 0, 1) := by decide +kernel
theorem dX2_remember_46 : decode cX2_remember 46 = .ok (.dup, 1) := by decide +kernel
theorem dX2_remember_47 : decode cX2_remember 47 = .ok (.getfield 21, 3) := by decide +kernel
theorem dX2_remember_50 : decode cX2_remember 50 = .ok (.iconst 1, 1) := by decide +kernel
theorem dX2_remember_51 : decode cX2_remember 51 = .ok (.iadd, 1) := by decide +kernel
theorem dX2_remember_52 : decode cX2_remember 52 = .ok (.putfield 21, 3) := by decide +kernel
theorem dX2_remember_55 : decode cX2_remember 55 = .ok (.return_, 1) := by decide +kernel
theorem dX2_takeBack_0 : decode cX2_takeBack 0 = .ok (.aload_n 0, 1) := by decide +kernel
theorem dX2_takeBack_1 : decode cX2_takeBack 1 = .ok (.getfield 21, 3) := by decide +kernel
theorem dX2_takeBack_4 : decode cX2_takeBack 4 = .ok (.ifCond .le 48, 3) := by decide +kernel
theorem dX2_takeBack_7 : decode cX2_takeBack 7 = .ok (.aload_n 1, 1) := by decide +kernel
theorem dX2_takeBack_8 : decode cX2_takeBack 8 = .ok (.aload_n 0, 1) := by decide +kernel
theorem dX2_takeBack_9 : decode cX2_takeBack 9 = .ok (.getfield 11, 3) := by decide +kernel
theorem dX2_takeBack_12 : decode cX2_takeBack 12 = .ok (.aload_n 0, 1) := by decide +kernel
theorem dX2_takeBack_13 : decode cX2_takeBack 13 = .ok (.getfield 17, 3) := by decide +kernel
theorem dX2_takeBack_16 : decode cX2_takeBack 16 = .ok (.aaload, 1) := by decide +kernel
theorem dX2_takeBack_17 : decode cX2_takeBack 17 = .ok (.invokevirtual 25, 3) := by decide +kernel
theorem dX2_takeBack_20 : decode cX2_takeBack 20 = .ok (.aload_n 0, 1) := by decide +kernel
theorem dX2_takeBack_21 : decode cX2_takeBack 21 = .ok (.aload_n 0, 1) := by decide +kernel
theorem dX2_takeBack_22 : decode cX2_takeBack 22 = .ok (.getfield 17, 3) := by decide +kernel
theorem dX2_takeBack_25 : decode cX2_takeBack 25 = .ok (.ifCond .le 12, 3) := by decide +kernel
theorem dX2_takeBack_28 : decode cX2_takeBack 28 = .ok (.aload_n 0, 1) := by decide +kernel
theorem dX2_takeBack_29 : decode cX2_takeBack 29 = .ok (.getfield 17, 3) := by decide +kernel
theorem dX2_takeBack_32 : decode cX2_takeBack 32 = .ok (.iconst 1, 1) := by decide +kernel
theorem dX2_takeBack_33 : decode cX2_takeBack 33 = .ok (.isub, 1) := by decide +kernel
theorem dX2_takeBack_34 : decode cX2_takeBack 34 = .ok (.goto 5, 3) := by decide +kernel
theorem dX2_takeBack_37 : decode cX2_takeBack 37 = .ok (.bipush 9, 2) := by decide +kernel
theorem dX2_takeBack_39 : decode cX2_takeBack 39 = .ok (.putfield 17, 3) := by decide +kernel
theorem dX2_takeBack_42 : decode cX2_takeBack 42 = .ok (.aload_n 0, 1) := by decide +kernel
theorem dX2_takeBack_43 : decode cX2_takeBack 43 = .ok (.dup, 1) := by decide +kernel
theorem dX2_takeBack_44 : decode cX2_takeBack 44 = .ok (.getfield 21, 3) := by decide +kernel
theorem dX2_takeBack_47 : decode cX2_takeBack 47 = .ok (.iconst 1, 1) := by decide +kernel
theorem dX2_takeBack_48 : decode cX2_takeBack 48 = .ok (.isub, 1) := by decide +kernel
theorem dX2_takeBack_49 : decode cX2_takeBack 49 = .ok (.putfield 21, 3) := by decide +kernel
theorem dX2_takeBack_52 : decode cX2_takeBack 52 = .ok (.aload_n 0, 1) := by decide +kernel
theorem dX2_takeBack_53 : decode cX2_takeBack 53 = .ok (.getfield 21, 3) := by decide +kernel
theorem dX2_takeBack_56 : decode cX2_takeBack 56 = .ok (.ireturn, 1) := by decide +kernel
theorem dX2_forget_0 : decode cX2_forget 0 = .ok (.aload_n 0, 1) := by decide +kernel
theorem dX2_forget_1 : decode cX2_forget 1 = .ok (.iconst 0, 1) := by decide +kernel
theorem dX2_forget_2 : decode cX2_forget 2 = .ok (.putfield 21, 3) := by decide +kernel
theorem dX2_forget_5 : decode cX2_forget 5 = .ok (.return_, 1) := by decide +kernel
