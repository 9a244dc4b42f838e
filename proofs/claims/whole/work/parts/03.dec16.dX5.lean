theorem dX5_init_0 : decode cX5_init 0 = .ok (.aload_n 0, 1) := by decide +kernel
theorem dX5_init_1 : decode cX5_init 1 = .ok (.invokespecial 3, 3) := by decide +kernel
theorem dX5_init_4 : decode cX5_init 4 = .ok (.aload_n 0, 1) := by decide +kernel
theorem dX5_init_5 : decode cX5_init 5 = .ok (.bipush 10, 2) := by decide +kernel
theorem dX5_init_7 : decode cX5_init 7 = .ok (.newarray .int, 2) := by decide +kernel
theorem dX5_init_9 : decode cX5_init 9 = .ok (.putfield 9, 3) := by decide +kernel
theorem dX5_init_12 : decode cX5_init 12 = .ok (.aload_n 0, 1) := by decide +kernel
theorem dX5_init_13 : decode cX5_init 13 = .ok (.bipush 40, 2) := by decide +kernel
theorem dX5_init_15 : decode cX5_init 15 = .ok (.newarray .int, 2) := by decide +kernel
theorem dX5_init_17 : decode cX5_init 17 = .ok (.putfield 15, 3) := by decide +kernel
theorem dX5_init_20 : decode cX5_init 20 = .ok (.aload_n 0, 1) := by decide +kernel
theorem dX5_init_21 : decode cX5_init 21 = .ok (.bipush 40, 2) := by decide +kernel
theorem dX5_init_23 : decode cX5_init 23 = .ok (.newarray .int, 2) := by decide +kernel
theorem dX5_init_25 : decode cX5_init 25 = .ok (.putfield 18, 3) := by decide +kernel
theorem dX5_init_28 : decode cX5_init 28 = .ok (.aload_n 0, 1) := by decide +kernel
theorem dX5_init_29 : decode cX5_init 29 = .ok (.bipush 41, 2) := by decide +kernel
theorem dX5_init_31 : decode cX5_init 31 = .ok (.newarray .int, 2) := by decide +kernel
theorem dX5_init_33 : decode cX5_init 33 = .ok (.putfield 21, 3) := by decide +kernel
theorem dX5_init_36 : decode cX5_init 36 = .ok (.aload_n 0, 1) := by decide +kernel
theorem dX5_init_37 : decode cX5_init 37 = .ok (.bipush 41, 2) := by decide +kernel
theorem dX5_init_39 : decode cX5_init 39 = .ok (.newarray .int, 2) := by decide +kernel
theorem dX5_init_41 : decode cX5_init 41 = .ok (.putfield 24, 3) := by decide +kernel
theorem dX5_init_44 : decode cX5_init 44 = .ok (.aload_n 0, 1) := by decide +kernel
theorem dX5_init_45 : decode cX5_init 45 = .ok (.bipush 100, 2) := by decide +kernel
theorem dX5_init_47 : decode cX5_init 47 = .ok (.newarray .int, 2) := by decide +kernel
theorem dX5_init_49 : decode cX5_init 49 = .ok (.putfield 27, 3) := by decide +kernel
theorem dX5_init_52 : decode cX5_init 52 = .ok (.aload_n 0, 1) := by decide +kernel
theorem dX5_init_53 : decode cX5_init 53 = .ok (.bipush 100, 2) := by decide +kernel
theorem dX5_init_55 : decode cX5_init 55 = .ok (.newarray .int, 2) := by decide +kernel
theorem dX5_init_57 : decode cX5_init 57 = .ok (.putfield 30, 3) := by decide +kernel
theorem dX5_init_60 : decode cX5_init 60 = .ok (.aload_n 0, 1) := by decide +kernel
theorem dX5_init_61 : decode cX5_init 61 = .ok (.iconst 0, 1) := by decide +kernel
theorem dX5_init_62 : decode cX5_init 62 = .ok (.putfield 33, 3) := by decide +kernel
theorem dX5_init_65 : decode cX5_init 65 = .ok (.aload_n 0, 1) := by decide +kernel
theorem dX5_init_66 : decode cX5_init 66 = .ok (.aload_n 1, 1) := by decide +kernel
theorem dX5_init_67 : decode cX5_init 67 = .ok (.putfield 37, 3) := by decide +kernel
theorem dX5_init_70 : decode cX5_init 70 = .ok (.return_, 1) := by decide +kernel
theorem dX5_read_0 : decode cX5_read 0 = .ok (.aload_n 0, 1) := by decide +kernel
theorem dX5_read_1 : decode cX5_read 1 = .ok (.getfield 9, 3) := by decide +kernel
theorem dX5_read_4 : decode cX5_read 4 = .ok (.iconst (-1), 1) := by decide +kernel
theorem dX5_read_5 : decode cX5_read 5 = .ok (.invokestatic 41, 3) := by decide +kernel
theorem dX5_read_8 : decode cX5_read 8 = .ok (.aload_n 0, 1) := by decide +kernel
theorem dX5_read_9 : decode cX5_read 9 = .ok (.getfield 27, 3) := by decide +kernel
theorem dX5_read_12 : decode cX5_read 12 = .ok (.iconst (-1), 1) := by decide +kernel
theorem dX5_read_13 : decode cX5_read 13 = .ok (.invokestatic 41, 3) := by decide +kernel
theorem dX5_read_16 : decode cX5_read 16 = .ok (.aload_n 0, 1) := by decide +kernel
theorem dX5_read_17 : decode cX5_read 17 = .ok (.iconst 0, 1) := by decide +kernel
theorem dX5_read_18 : decode cX5_read 18 = .ok (.putfield 33, 3) := by decide +kernel
theorem dX5_read_21 : decode cX5_read 21 = .ok (.aload_n 0, 1) := by decide +kernel
theorem dX5_read_22 : decode cX5_read 22 = .ok (.getfield 24, 3) := by decide +kernel
theorem dX5_read_25 : decode cX5_read 25 = .ok (.iconst 0, 1) := by decide +kernel
theorem dX5_read_26 : decode cX5_read 26 = .ok (.iconst 0, 1) := by decide +kernel
theorem dX5_read_27 : decode cX5_read 27 = .ok (.iastore, 1) := by decide +kernel
theorem dX5_read_28 : decode cX5_read 28 = .ok (.iconst 0, 1) := by decide +kernel
theorem dX5_read_29 : decode cX5_read 29 = .ok (.istore_n 1, 1) := by decide +kernel
theorem dX5_read_30 : decode cX5_read 30 = .ok (.iload_n 1, 1) := by decide +kernel
theorem dX5_read_31 : decode cX5_read 31 = .ok (.aload_n 0, 1) := by decide +kernel
theorem dX5_read_32 : decode cX5_read 32 = .ok (.getfield 37, 3) := by decide +kernel
theorem dX5_read_35 : decode cX5_read 35 = .ok (.invokevirtual 47, 3) := by decide +kernel
theorem dX5_read_38 : decode cX5_read 38 = .ok (.if_icmp .ge 20, 3) := by decide +kernel
theorem dX5_read_41 : decode cX5_read 41 = .ok (.iload_n 1, 1) := by decide +kernel
theorem dX5_read_42 : decode cX5_read 42 = .ok (.bipush 40, 2) := by decide +kernel
theorem dX5_read_44 : decode cX5_read 44 = .ok (.if_icmp .ge 14, 3) := by decide +kernel
theorem dX5_read_47 : decode cX5_read 47 = .ok (.aload_n 0, 1) := by decide +kernel
theorem dX5_read_48 : decode cX5_read 48 = .ok (.iload_n 1, 1) := by decide +kernel
theorem dX5_read_49 : decode cX5_read 49 = .ok (.invokevirtual 53, 3) := by decide +kernel
theorem dX5_read_52 : decode cX5_read 52 = .ok (.iinc 1 1, 3) := by decide +kernel
theorem dX5_read_55 : decode cX5_read 55 = .ok (.goto (-25), 3) := by decide +kernel
theorem dX5_read_58 : decode cX5_read 58 = .ok (.aload_n 0, 1) := by decide +kernel
theorem dX5_read_59 : decode cX5_read 59 = .ok (.getfield 21, 3) := by decide +kernel
theorem dX5_read_62 : decode cX5_read 62 = .ok (.aload_n 0, 1) := by decide +kernel
theorem dX5_read_63 : decode cX5_read 63 = .ok (.getfield 33, 3) := by decide +kernel
theorem dX5_read_66 : decode cX5_read 66 = .ok (.aload_n 0, 1) := by decide +kernel
theorem dX5_read_67 : decode cX5_read 67 = .ok (.getfield 37, 3) := by decide +kernel
theorem dX5_read_70 : decode cX5_read 70 = .ok (.invokevirtual 47, 3) := by decide +kernel
theorem dX5_read_73 : decode cX5_read 73 = .ok (.iastore, 1) := by decide +kernel
theorem dX5_read_74 : decode cX5_read 74 = .ok (.return_, 1) := by decide +kernel
theorem dX5_readItem_0 : decode cX5_readItem 0 = .ok (.aload_n 0, 1) := by decide +kernel
theorem dX5_readItem_1 : decode cX5_readItem 1 = .ok (.getfield 37, 3) := by decide +kernel
theorem dX5_readItem_4 : decode cX5_readItem 4 = .ok (.iload_n 1, 1) := by decide +kernel
theorem dX5_readItem_5 : decode cX5_readItem 5 = .ok (.invokevirtual 57, 3) := by decide +kernel
theorem dX5_readItem_8 : decode cX5_readItem 8 = .ok (.istore_n 2, 1) := by decide +kernel
theorem dX5_readItem_9 : decode cX5_readItem 9 = .ok (.aload_n 0, 1) := by decide +kernel
theorem dX5_readItem_10 : decode cX5_readItem 10 = .ok (.getfield 15, 3) := by decide +kernel
theorem dX5_readItem_13 : decode cX5_readItem 13 = .ok (.iload_n 1, 1) := by decide +kernel
theorem dX5_readItem_14 : decode cX5_readItem 14 = .ok (.aload_n 0, 1) := by decide +kernel
theorem dX5_readItem_15 : decode cX5_readItem 15 = .ok (.getfield 33, 3) := by decide +kernel
theorem dX5_readItem_18 : decode cX5_readItem 18 = .ok (.iastore, 1) := by decide +kernel
theorem dX5_readItem_19 : decode cX5_readItem 19 = .ok (.aload_n 0, 1) := by decide +kernel
theorem dX5_readItem_20 : decode cX5_readItem 20 = .ok (.getfield 37, 3) := by decide +kernel
theorem dX5_readItem_23 : decode cX5_readItem 23 = .ok (.iload_n 1, 1) := by decide +kernel
theorem dX5_readItem_24 : decode cX5_readItem 24 = .ok (.invokevirtual 61, 3) := by decide +kernel
theorem dX5_readItem_27 : decode cX5_readItem 27 = .ok (.lookupswitch 114 #[(2, 33), (6, 53), (7, 72)], 33) := by decide +kernel
theorem dX5_readItem_60 : decode cX5_readItem 60 = .ok (.iload_n 2, 1) := by decide +kernel
theorem dX5_readItem_61 : decode cX5_readItem 61 = .ok (.ifCond .lt 80, 3) := by decide +kernel
theorem dX5_readItem_64 : decode cX5_readItem 64 = .ok (.iload_n 2, 1) := by decide +kernel
theorem dX5_readItem_65 : decode cX5_readItem 65 = .ok (.bipush 10, 2) := by decide +kernel
theorem dX5_readItem_67 : decode cX5_readItem 67 = .ok (.if_icmp .ge 74, 3) := by decide +kernel
theorem dX5_readItem_70 : decode cX5_readItem 70 = .ok (.aload_n 0, 1) := by decide +kernel
theorem dX5_readItem_71 : decode cX5_readItem 71 = .ok (.getfield 9, 3) := by decide +kernel
theorem dX5_readItem_74 : decode cX5_readItem 74 = .ok (.iload_n 2, 1) := by decide +kernel
theorem dX5_readItem_75 : decode cX5_readItem 75 = .ok (.iload_n 1, 1) := by decide +kernel
theorem dX5_readItem_76 : decode cX5_readItem 76 = .ok (.iastore, 1) := by decide +kernel
theorem dX5_readItem_77 : decode cX5_readItem 77 = .ok (.goto 64, 3) := by decide +kernel
theorem dX5_readItem_80 : decode cX5_readItem 80 = .ok (.iload_n 2, 1) := by decide +kernel
theorem dX5_readItem_81 : decode cX5_readItem 81 = .ok (.ifCond .lt 60, 3) := by decide +kernel
theorem dX5_readItem_84 : decode cX5_readItem 84 = .ok (.iload_n 2, 1) := by decide +kernel
theorem dX5_readItem_85 : decode cX5_readItem 85 = .ok (.bipush 100, 2) := by decide +kernel
theorem dX5_readItem_87 : decode cX5_readItem 87 = .ok (.if_icmp .ge 54, 3) := by decide +kernel
theorem dX5_readItem_90 : decode cX5_readItem 90 = .ok (.aload_n 0, 1) := by decide +kernel
theorem dX5_readItem_91 : decode cX5_readItem 91 = .ok (.iload_n 1, 1) := by decide +kernel
theorem dX5_readItem_92 : decode cX5_readItem 92 = .ok (.iload_n 2, 1) := by decide +kernel
theorem dX5_readItem_93 : decode cX5_readItem 93 = .ok (.invokevirtual 64, 3) := by decide +kernel
theorem dX5_readItem_96 : decode cX5_readItem 96 = .ok (.goto 45, 3) := by decide +kernel
theorem dX5_readItem_99 : decode cX5_readItem 99 = .ok (.aload_n 0, 1) := by decide +kernel
theorem dX5_readItem_100 : decode cX5_readItem 100 = .ok (.getfield 33, 3) := by decide +kernel
theorem dX5_readItem_103 : decode cX5_readItem 103 = .ok (.bipush 40, 2) := by decide +kernel
theorem dX5_readItem_105 : decode cX5_readItem 105 = .ok (.if_icmp .ge 36, 3) := by decide +kernel
theorem dX5_readItem_108 : decode cX5_readItem 108 = .ok (.aload_n 0, 1) := by decide +kernel
theorem dX5_readItem_109 : decode cX5_readItem 109 = .ok (.getfield 21, 3) := by decide +kernel
theorem dX5_readItem_112 : decode cX5_readItem 112 = .ok (.aload_n 0, 1) := by decide +kernel
theorem dX5_readItem_113 : decode cX5_readItem 113 = .ok (.getfield 33, 3) := by decide +kernel
theorem dX5_readItem_116 : decode cX5_readItem 116 = .ok (.iload_n 1, 1) := by decide +kernel
theorem dX5_readItem_117 : decode cX5_readItem 117 = .ok (.iastore, 1) := by decide +kernel
theorem dX5_readItem_118 : decode cX5_readItem 118 = .ok (.aload_n 0, 1) := by decide +kernel
theorem dX5_readItem_119 : decode cX5_readItem 119 = .ok (.dup, 1) := by decide +kernel
theorem dX5_readItem_120 : decode cX5_readItem 120 = .ok (.getfield 33, 3) := by decide +kernel
theorem dX5_readItem_123 : decode cX5_readItem 123 = .ok (.iconst 1, 1) := by decide +kernel
theorem dX5_readItem_124 : decode cX5_readItem 124 = .ok (.iadd, 1) := by decide +kernel
theorem dX5_readItem_125 : decode cX5_readItem 125 = .ok (.putfield 33, 3) := by decide +kernel
theorem dX5_readItem_128 : decode cX5_readItem 128 = .ok (.aload_n 0, 1) := by decide +kernel
theorem dX5_readItem_129 : decode cX5_readItem 129 = .ok (.getfield 24, 3) := by decide +kernel
theorem dX5_readItem_132 : decode cX5_readItem 132 = .ok (.aload_n 0, 1) := by decide +kernel
theorem dX5_readItem_133 : decode cX5_readItem 133 = .ok (.getfield 33, 3) := by decide +kernel
theorem dX5_readItem_136 : decode cX5_readItem 136 = .ok (.iconst 0, 1) := by decide +kernel
theorem dX5_readItem_137 : decode cX5_readItem 137 = .ok (.iastore, 1) := by decide +kernel
theorem dX5_readItem_138 : decode cX5_readItem 138 = .ok (.goto 3, 3) := by decide +kernel
theorem dX5_readItem_141 : decode cX5_readItem 141 = .ok (.return_, 1) := by decide +kernel
theorem dX5_readLoad_0 : decode cX5_readLoad 0 = .ok (.aload_n 0, 1) := by decide +kernel
theorem dX5_readLoad_1 : decode cX5_readLoad 1 = .ok (.getfield 27, 3) := by decide +kernel
theorem dX5_readLoad_4 : decode cX5_readLoad 4 = .ok (.iload_n 2, 1) := by decide +kernel
theorem dX5_readLoad_5 : decode cX5_readLoad 5 = .ok (.iaload, 1) := by decide +kernel
theorem dX5_readLoad_6 : decode cX5_readLoad 6 = .ok (.aload_n 0, 1) := by decide +kernel
theorem dX5_readLoad_7 : decode cX5_readLoad 7 = .ok (.getfield 33, 3) := by decide +kernel
theorem dX5_readLoad_10 : decode cX5_readLoad 10 = .ok (.if_icmp .eq 41, 3) := by decide +kernel
theorem dX5_readLoad_13 : decode cX5_readLoad 13 = .ok (.aload_n 0, 1) := by decide +kernel
theorem dX5_readLoad_14 : decode cX5_readLoad 14 = .ok (.getfield 27, 3) := by decide +kernel
theorem dX5_readLoad_17 : decode cX5_readLoad 17 = .ok (.iload_n 2, 1) := by decide +kernel
theorem dX5_readLoad_18 : decode cX5_readLoad 18 = .ok (.aload_n 0, 1) := by decide +kernel
theorem dX5_readLoad_19 : decode cX5_readLoad 19 = .ok (.getfield 33, 3) := by decide +kernel
theorem dX5_readLoad_22 : decode cX5_readLoad 22 = .ok (.iastore, 1) := by decide +kernel
theorem dX5_readLoad_23 : decode cX5_readLoad 23 = .ok (.aload_n 0, 1) := by decide +kernel
theorem dX5_readLoad_24 : decode cX5_readLoad 24 = .ok (.getfield 30, 3) := by decide +kernel
theorem dX5_readLoad_27 : decode cX5_readLoad 27 = .ok (.iload_n 2, 1) := by decide +kernel
theorem dX5_readLoad_28 : decode cX5_readLoad 28 = .ok (.aload_n 0, 1) := by decide +kernel
theorem dX5_readLoad_29 : decode cX5_readLoad 29 = .ok (.getfield 24, 3) := by decide +kernel
theorem dX5_readLoad_32 : decode cX5_readLoad 32 = .ok (.aload_n 0, 1) := by decide +kernel
theorem dX5_readLoad_33 : decode cX5_readLoad 33 = .ok (.getfield 33, 3) := by decide +kernel
theorem dX5_readLoad_36 : decode cX5_readLoad 36 = .ok (.iaload, 1) := by decide +kernel
theorem dX5_readLoad_37 : decode cX5_readLoad 37 = .ok (.iastore, 1) := by decide +kernel
theorem dX5_readLoad_38 : decode cX5_readLoad 38 = .ok (.aload_n 0, 1) := by decide +kernel
theorem dX5_readLoad_39 : decode cX5_readLoad 39 = .ok (.getfield 24, 3) := by decide +kernel
theorem dX5_readLoad_42 : decode cX5_readLoad 42 = .ok (.aload_n 0, 1) := by decide +kernel
theorem dX5_readLoad_43 : decode cX5_readLoad 43 = .ok (.getfield 33, 3) := by decide +kernel
theorem dX5_readLoad_46 : decode cX5_readLoad 46 = .ok (.dup2, 1) := by decide +kernel
theorem dX5_readLoad_47 : decode cX5_readLoad 47 = .ok (.iaload, 1) := by decide +kernel
theorem dX5_readLoad_48 : decode cX5_readLoad 48 = .ok (.iconst 1, 1) := by decide +kernel
theorem dX5_readLoad_49 : decode cX5_readLoad 49 = .ok (.iadd, 1) := by decide +kernel
theorem dX5_readLoad_50 : decode cX5_readLoad 50 = .ok (.iastore, 1) := by decide +kernel
theorem dX5_readLoad_51 : decode cX5_readLoad 51 = .ok (.aload_n 0, 1) := by decide +kernel
theorem dX5_readLoad_52 : decode cX5_readLoad 52 = .ok (.getfield 18, 3) := by decide +kernel
theorem dX5_readLoad_55 : decode cX5_readLoad 55 = .ok (.iload_n 1, 1) := by decide +kernel
theorem dX5_readLoad_56 : decode cX5_readLoad 56 = .ok (.aload_n 0, 1) := by decide +kernel
theorem dX5_readLoad_57 : decode cX5_readLoad 57 = .ok (.getfield 30, 3) := by decide +kernel
theorem dX5_readLoad_60 : decode cX5_readLoad 60 = .ok (.iload_n 2, 1) := by decide +kernel
theorem dX5_readLoad_61 : decode cX5_readLoad 61 = .ok (.iaload, 1) := by decide +kernel
theorem dX5_readLoad_62 : decode cX5_readLoad 62 = .ok (.iastore, 1) := by decide +kernel
theorem dX5_readLoad_63 : decode cX5_readLoad 63 = .ok (.return_, 1) := by decide +kernel
theorem dX5_definerOf_0 : decode cX5_definerOf 0 = .ok (.iload_n 1, 1) := by decide +kernel
theorem dX5_definerOf_1 : decode cX5_definerOf 1 = .ok (.ifCond .lt 18, 3) := by decide +kernel
theorem dX5_definerOf_4 : decode cX5_definerOf 4 = .ok (.iload_n 1, 1) := by decide +kernel
theorem dX5_definerOf_5 : decode cX5_definerOf 5 = .ok (.bipush 10, 2) := by decide +kernel
theorem dX5_definerOf_7 : decode cX5_definerOf 7 = .ok (.if_icmp .ge 12, 3) := by decide +kernel
theorem dX5_definerOf_10 : decode cX5_definerOf 10 = .ok (.aload_n 0, 1) := by decide +kernel
theorem dX5_definerOf_11 : decode cX5_definerOf 11 = .ok (.getfield 9, 3) := by decide +kernel
theorem dX5_definerOf_14 : decode cX5_definerOf 14 = .ok (.iload_n 1, 1) := by decide +kernel
theorem dX5_definerOf_15 : decode cX5_definerOf 15 = .ok (.iaload, 1) := by decide +kernel
theorem dX5_definerOf_16 : decode cX5_definerOf 16 = .ok (.goto 4, 3) := by decide +kernel
theorem dX5_definerOf_19 : decode cX5_definerOf 19 = .ok (.iconst (-1), 1) := by decide +kernel
theorem dX5_definerOf_20 : decode cX5_definerOf 20 = .ok (.ireturn, 1) := by decide +kernel
theorem dX5_endPoolNumber_0 : decode cX5_endPoolNumber 0 = .ok (.aload_n 0, 1) := by decide +kernel
theorem dX5_endPoolNumber_1 : decode cX5_endPoolNumber 1 = .ok (.getfield 33, 3) := by decide +kernel
theorem dX5_endPoolNumber_4 : decode cX5_endPoolNumber 4 = .ok (.ireturn, 1) := by decide +kernel
theorem dX5_poolAt_0 : decode cX5_poolAt 0 = .ok (.aload_n 0, 1) := by decide +kernel
theorem dX5_poolAt_1 : decode cX5_poolAt 1 = .ok (.getfield 37, 3) := by decide +kernel
theorem dX5_poolAt_4 : decode cX5_poolAt 4 = .ok (.iload_n 1, 1) := by decide +kernel
theorem dX5_poolAt_5 : decode cX5_poolAt 5 = .ok (.invokevirtual 68, 3) := by decide +kernel
theorem dX5_poolAt_8 : decode cX5_poolAt 8 = .ok (.ifCond .eq 12, 3) := by decide +kernel
theorem dX5_poolAt_11 : decode cX5_poolAt 11 = .ok (.aload_n 0, 1) := by decide +kernel
theorem dX5_poolAt_12 : decode cX5_poolAt 12 = .ok (.getfield 15, 3) := by decide +kernel
theorem dX5_poolAt_15 : decode cX5_poolAt 15 = .ok (.iload_n 1, 1) := by decide +kernel
theorem dX5_poolAt_16 : decode cX5_poolAt 16 = .ok (.iaload, 1) := by decide +kernel
theorem dX5_poolAt_17 : decode cX5_poolAt 17 = .ok (.goto 7, 3) := by decide +kernel
theorem dX5_poolAt_20 : decode cX5_poolAt 20 = .ok (.aload_n 0, 1) := by decide +kernel
theorem dX5_poolAt_21 : decode cX5_poolAt 21 = .ok (.getfield 33, 3) := by decide +kernel
theorem dX5_poolAt_24 : decode cX5_poolAt 24 = .ok (.ireturn, 1) := by decide +kernel
theorem dX5_literalIndexAt_0 : decode cX5_literalIndexAt 0 = .ok (.aload_n 0, 1) := by decide +kernel
theorem dX5_literalIndexAt_1 : decode cX5_literalIndexAt 1 = .ok (.getfield 37, 3) := by decide +kernel
theorem dX5_literalIndexAt_4 : decode cX5_literalIndexAt 4 = .ok (.iload_n 1, 1) := by decide +kernel
theorem dX5_literalIndexAt_5 : decode cX5_literalIndexAt 5 = .ok (.invokevirtual 68, 3) := by decide +kernel
theorem dX5_literalIndexAt_8 : decode cX5_literalIndexAt 8 = .ok (.ifCond .eq 12, 3) := by decide +kernel
theorem dX5_literalIndexAt_11 : decode cX5_literalIndexAt 11 = .ok (.aload_n 0, 1) := by decide +kernel
theorem dX5_literalIndexAt_12 : decode cX5_literalIndexAt 12 = .ok (.getfield 18, 3) := by decide +kernel
theorem dX5_literalIndexAt_15 : decode cX5_literalIndexAt 15 = .ok (.iload_n 1, 1) := by decide +kernel
theorem dX5_literalIndexAt_16 : decode cX5_literalIndexAt 16 = .ok (.iaload, 1) := by decide +kernel
theorem dX5_literalIndexAt_17 : decode cX5_literalIndexAt 17 = .ok (.goto 4, 3) := by decide +kernel
theorem dX5_literalIndexAt_20 : decode cX5_literalIndexAt 20 = .ok (.iconst 0, 1) := by decide +kernel
theorem dX5_literalIndexAt_21 : decode cX5_literalIndexAt 21 = .ok (.ireturn, 1) := by decide +kernel
theorem dX5_literalsIn_0 : decode cX5_literalsIn 0 = .ok (.iload_n 1, 1) := by decide +kernel
theorem dX5_literalsIn_1 : decode cX5_literalsIn 1 = .ok (.ifCond .lt 20, 3) := by decide +kernel
theorem dX5_literalsIn_4 : decode cX5_literalsIn 4 = .ok (.iload_n 1, 1) := by decide +kernel
theorem dX5_literalsIn_5 : decode cX5_literalsIn 5 = .ok (.aload_n 0, 1) := by decide +kernel
theorem dX5_literalsIn_6 : decode cX5_literalsIn 6 = .ok (.getfield 33, 3) := by decide +kernel
theorem dX5_literalsIn_9 : decode cX5_literalsIn 9 = .ok (.if_icmp .gt 12, 3) := by decide +kernel
theorem dX5_literalsIn_12 : decode cX5_literalsIn 12 = .ok (.aload_n 0, 1) := by decide +kernel
theorem dX5_literalsIn_13 : decode cX5_literalsIn 13 = .ok (.getfield 24, 3) := by decide +kernel
theorem dX5_literalsIn_16 : decode cX5_literalsIn 16 = .ok (.iload_n 1, 1) := by decide +kernel
theorem dX5_literalsIn_17 : decode cX5_literalsIn 17 = .ok (.iaload, 1) := by decide +kernel
theorem dX5_literalsIn_18 : decode cX5_literalsIn 18 = .ok (.goto 4, 3) := by decide +kernel
theorem dX5_literalsIn_21 : decode cX5_literalsIn 21 = .ok (.iconst 0, 1) := by decide +kernel
theorem dX5_literalsIn_22 : decode cX5_literalsIn 22 = .ok (.ireturn, 1) := by decide +kernel
theorem dX5_itemOfPool_0 : decode cX5_itemOfPool 0 = .ok (.iload_n 1, 1) := by decide +kernel
theorem dX5_itemOfPool_1 : decode cX5_itemOfPool 1 = .ok (.ifCond .lt 20, 3) := by decide +kernel
theorem dX5_itemOfPool_4 : decode cX5_itemOfPool 4 = .ok (.iload_n 1, 1) := by decide +kernel
theorem dX5_itemOfPool_5 : decode cX5_itemOfPool 5 = .ok (.aload_n 0, 1) := by decide +kernel
theorem dX5_itemOfPool_6 : decode cX5_itemOfPool 6 = .ok (.getfield 33, 3) := by decide +kernel
theorem dX5_itemOfPool_9 : decode cX5_itemOfPool 9 = .ok (.if_icmp .gt 12, 3) := by decide +kernel
theorem dX5_itemOfPool_12 : decode cX5_itemOfPool 12 = .ok (.aload_n 0, 1) := by decide +kernel
theorem dX5_itemOfPool_13 : decode cX5_itemOfPool 13 = .ok (.getfield 21, 3) := by decide +kernel
theorem dX5_itemOfPool_16 : decode cX5_itemOfPool 16 = .ok (.iload_n 1, 1) := by decide +kernel
theorem dX5_itemOfPool_17 : decode cX5_itemOfPool 17 = .ok (.iaload, 1) := by decide +kernel
theorem dX5_itemOfPool_18 : decode cX5_itemOfPool 18 = .ok (.goto 10, 3) := by decide +kernel
theorem dX5_itemOfPool_21 : decode cX5_itemOfPool 21 = .ok (.aload_n 0, 1) := by decide +kernel
theorem dX5_itemOfPool_22 : decode cX5_itemOfPool 22 = .ok (.getfield 37, 3) := by decide +kernel
theorem dX5_itemOfPool_25 : decode cX5_itemOfPool 25 = .ok (.invokevirtual 47, 3) := by decide +kernel
theorem dX5_itemOfPool_28 : decode cX5_itemOfPool 28 = .ok (.ireturn, 1) := by decide +kernel
theorem dX5_valueOf_0 : decode cX5_valueOf 0 = .ok (.iconst 0, 1) := by decide +kernel
theorem dX5_valueOf_1 : decode cX5_valueOf 1 = .ok (.istore_n 3, 1) := by decide +kernel
theorem dX5_valueOf_2 : decode cX5_valueOf 2 = .ok (.iload_n 3, 1) := by decide +kernel
theorem dX5_valueOf_3 : decode cX5_valueOf 3 = .ok (.aload_n 0, 1) := by decide +kernel
theorem dX5_valueOf_4 : decode cX5_valueOf 4 = .ok (.getfield 37, 3) := by decide +kernel
theorem dX5_valueOf_7 : decode cX5_valueOf 7 = .ok (.invokevirtual 47, 3) := by decide +kernel
theorem dX5_valueOf_10 : decode cX5_valueOf 10 = .ok (.if_icmp .ge 51, 3) := by decide +kernel
theorem dX5_valueOf_13 : decode cX5_valueOf 13 = .ok (.aload_n 0, 1) := by decide +kernel
theorem dX5_valueOf_14 : decode cX5_valueOf 14 = .ok (.getfield 37, 3) := by decide +kernel
theorem dX5_valueOf_17 : decode cX5_valueOf 17 = .ok (.iload_n 3, 1) := by decide +kernel
theorem dX5_valueOf_18 : decode cX5_valueOf 18 = .ok (.invokevirtual 61, 3) := by decide +kernel
theorem dX5_valueOf_21 : decode cX5_valueOf 21 = .ok (.bipush 6, 2) := by decide +kernel
theorem dX5_valueOf_23 : decode cX5_valueOf 23 = .ok (.if_icmp .ne 32, 3) := by decide +kernel
theorem dX5_valueOf_26 : decode cX5_valueOf 26 = .ok (.aload_n 0, 1) := by decide +kernel
theorem dX5_valueOf_27 : decode cX5_valueOf 27 = .ok (.getfield 15, 3) := by decide +kernel
theorem dX5_valueOf_30 : decode cX5_valueOf 30 = .ok (.iload_n 3, 1) := by decide +kernel
theorem dX5_valueOf_31 : decode cX5_valueOf 31 = .ok (.iaload, 1) := by decide +kernel
theorem dX5_valueOf_32 : decode cX5_valueOf 32 = .ok (.iload_n 1, 1) := by decide +kernel
theorem dX5_valueOf_33 : decode cX5_valueOf 33 = .ok (.if_icmp .ne 22, 3) := by decide +kernel
theorem dX5_valueOf_36 : decode cX5_valueOf 36 = .ok (.aload_n 0, 1) := by decide +kernel
theorem dX5_valueOf_37 : decode cX5_valueOf 37 = .ok (.getfield 18, 3) := by decide +kernel
theorem dX5_valueOf_40 : decode cX5_valueOf 40 = .ok (.iload_n 3, 1) := by decide +kernel
theorem dX5_valueOf_41 : decode cX5_valueOf 41 = .ok (.iaload, 1) := by decide +kernel
theorem dX5_valueOf_42 : decode cX5_valueOf 42 = .ok (.iload_n 2, 1) := by decide +kernel
theorem dX5_valueOf_43 : decode cX5_valueOf 43 = .ok (.if_icmp .ne 12, 3) := by decide +kernel
theorem dX5_valueOf_46 : decode cX5_valueOf 46 = .ok (.aload_n 0, 1) := by decide +kernel
theorem dX5_valueOf_47 : decode cX5_valueOf 47 = .ok (.getfield 37, 3) := by decide +kernel
theorem dX5_valueOf_50 : decode cX5_valueOf 50 = .ok (.iload_n 3, 1) := by decide +kernel
theorem dX5_valueOf_51 : decode cX5_valueOf 51 = .ok (.invokevirtual 57, 3) := by decide +kernel
theorem dX5_valueOf_54 : decode cX5_valueOf 54 = .ok (.ireturn, 1) := by decide +kernel
theorem dX5_valueOf_55 : decode cX5_valueOf 55 = .ok (.iinc 3 1, 3) := by decide +kernel
theorem dX5_valueOf_58 : decode cX5_valueOf 58 = .ok (.goto (-56), 3) := by decide +kernel
theorem dX5_valueOf_61 : decode cX5_valueOf 61 = .ok (.iconst 0, 1) := by decide +kernel
theorem dX5_valueOf_62 : decode cX5_valueOf 62 = .ok (.ireturn, 1) := by decide +kernel
