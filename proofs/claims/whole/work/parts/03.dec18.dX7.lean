theorem dX7_init_0 : decode cX7_init 0 = .ok (.aload_n 0, 1) := by decide +kernel
theorem dX7_init_1 : decode cX7_init 1 = .ok (.invokespecial 3, 3) := by decide +kernel
theorem dX7_init_4 : decode cX7_init 4 = .ok (.aload_n 0, 1) := by decide +kernel
theorem dX7_init_5 : decode cX7_init 5 = .ok (.aload_n 1, 1) := by decide +kernel
theorem dX7_init_6 : decode cX7_init 6 = .ok (.putfield 9, 3) := by decide +kernel
theorem dX7_init_9 : decode cX7_init 9 = .ok (.aload_n 0, 1) := by decide +kernel
theorem dX7_init_10 : decode cX7_init 10 = .ok (.aload_n 2, 1) := by decide +kernel
theorem dX7_init_11 : decode cX7_init 11 = .ok (.putfield 15, 3) := by decide +kernel
theorem dX7_init_14 : decode cX7_init 14 = .ok (.aload_n 0, 1) := by decide +kernel
theorem dX7_init_15 : decode cX7_init 15 = .ok (.aload_n 3, 1) := by decide +kernel
theorem dX7_init_16 : decode cX7_init 16 = .ok (.putfield 19, 3) := by decide +kernel
theorem dX7_init_19 : decode cX7_init 19 = .ok (.return_, 1) := by decide +kernel
theorem dX7_number_0 : decode cX7_number 0 = .ok (.iconst 0, 1) := by decide +kernel
theorem dX7_number_1 : decode cX7_number 1 = .ok (.istore_n 1, 1) := by decide +kernel
theorem dX7_number_2 : decode cX7_number 2 = .ok (.iconst 0, 1) := by decide +kernel
theorem dX7_number_3 : decode cX7_number 3 = .ok (.istore_n 2, 1) := by decide +kernel
theorem dX7_number_4 : decode cX7_number 4 = .ok (.iload_n 2, 1) := by decide +kernel
theorem dX7_number_5 : decode cX7_number 5 = .ok (.aload_n 0, 1) := by decide +kernel
theorem dX7_number_6 : decode cX7_number 6 = .ok (.getfield 9, 3) := by decide +kernel
theorem dX7_number_9 : decode cX7_number 9 = .ok (.invokevirtual 23, 3) := by decide +kernel
theorem dX7_number_12 : decode cX7_number 12 = .ok (.if_icmp .ge 23, 3) := by decide +kernel
theorem dX7_number_15 : decode cX7_number 15 = .ok (.aload_n 0, 1) := by decide +kernel
theorem dX7_number_16 : decode cX7_number 16 = .ok (.getfield 9, 3) := by decide +kernel
theorem dX7_number_19 : decode cX7_number 19 = .ok (.iload_n 2, 1) := by decide +kernel
theorem dX7_number_20 : decode cX7_number 20 = .ok (.invokevirtual 29, 3) := by decide +kernel
theorem dX7_number_23 : decode cX7_number 23 = .ok (.ifCond .eq 6, 3) := by decide +kernel
theorem dX7_number_26 : decode cX7_number 26 = .ok (.iinc 1 1, 3) := by decide +kernel
theorem dX7_number_29 : decode cX7_number 29 = .ok (.iinc 2 1, 3) := by decide +kernel
theorem dX7_number_32 : decode cX7_number 32 = .ok (.goto (-28), 3) := by decide +kernel
theorem dX7_number_35 : decode cX7_number 35 = .ok (.iload_n 1, 1) := by decide +kernel
theorem dX7_number_36 : decode cX7_number 36 = .ok (.ireturn, 1) := by decide +kernel
theorem dX7_numberWith_0 : decode cX7_numberWith 0 = .ok (.iconst 0, 1) := by decide +kernel
theorem dX7_numberWith_1 : decode cX7_numberWith 1 = .ok (.istore_n 2, 1) := by decide +kernel
theorem dX7_numberWith_2 : decode cX7_numberWith 2 = .ok (.iconst 0, 1) := by decide +kernel
theorem dX7_numberWith_3 : decode cX7_numberWith 3 = .ok (.istore_n 3, 1) := by decide +kernel
theorem dX7_numberWith_4 : decode cX7_numberWith 4 = .ok (.iload_n 3, 1) := by decide +kernel
theorem dX7_numberWith_5 : decode cX7_numberWith 5 = .ok (.aload_n 0, 1) := by decide +kernel
theorem dX7_numberWith_6 : decode cX7_numberWith 6 = .ok (.getfield 9, 3) := by decide +kernel
theorem dX7_numberWith_9 : decode cX7_numberWith 9 = .ok (.invokevirtual 23, 3) := by decide +kernel
theorem dX7_numberWith_12 : decode cX7_numberWith 12 = .ok (.if_icmp .ge 35, 3) := by decide +kernel
theorem dX7_numberWith_15 : decode cX7_numberWith 15 = .ok (.aload_n 0, 1) := by decide +kernel
theorem dX7_numberWith_16 : decode cX7_numberWith 16 = .ok (.getfield 9, 3) := by decide +kernel
theorem dX7_numberWith_19 : decode cX7_numberWith 19 = .ok (.iload_n 3, 1) := by decide +kernel
theorem dX7_numberWith_20 : decode cX7_numberWith 20 = .ok (.invokevirtual 29, 3) := by decide +kernel
theorem dX7_numberWith_23 : decode cX7_numberWith 23 = .ok (.ifCond .eq 18, 3) := by decide +kernel
theorem dX7_numberWith_26 : decode cX7_numberWith 26 = .ok (.aload_n 0, 1) := by decide +kernel
theorem dX7_numberWith_27 : decode cX7_numberWith 27 = .ok (.getfield 9, 3) := by decide +kernel
theorem dX7_numberWith_30 : decode cX7_numberWith 30 = .ok (.iload_n 3, 1) := by decide +kernel
theorem dX7_numberWith_31 : decode cX7_numberWith 31 = .ok (.invokevirtual 33, 3) := by decide +kernel
theorem dX7_numberWith_34 : decode cX7_numberWith 34 = .ok (.iload_n 1, 1) := by decide +kernel
theorem dX7_numberWith_35 : decode cX7_numberWith 35 = .ok (.if_icmp .ne 6, 3) := by decide +kernel
theorem dX7_numberWith_38 : decode cX7_numberWith 38 = .ok (.iinc 2 1, 3) := by decide +kernel
theorem dX7_numberWith_41 : decode cX7_numberWith 41 = .ok (.iinc 3 1, 3) := by decide +kernel
theorem dX7_numberWith_44 : decode cX7_numberWith 44 = .ok (.goto (-40), 3) := by decide +kernel
theorem dX7_numberWith_47 : decode cX7_numberWith 47 = .ok (.iload_n 2, 1) := by decide +kernel
theorem dX7_numberWith_48 : decode cX7_numberWith 48 = .ok (.ireturn, 1) := by decide +kernel
theorem dX7_sumOfForms_0 : decode cX7_sumOfForms 0 = .ok (.aload_n 0, 1) := by decide +kernel
theorem dX7_sumOfForms_1 : decode cX7_sumOfForms 1 = .ok (.iconst 1, 1) := by decide +kernel
theorem dX7_sumOfForms_2 : decode cX7_sumOfForms 2 = .ok (.invokevirtual 37, 3) := by decide +kernel
theorem dX7_sumOfForms_5 : decode cX7_sumOfForms 5 = .ok (.iconst 2, 1) := by decide +kernel
theorem dX7_sumOfForms_6 : decode cX7_sumOfForms 6 = .ok (.aload_n 0, 1) := by decide +kernel
theorem dX7_sumOfForms_7 : decode cX7_sumOfForms 7 = .ok (.iconst 2, 1) := by decide +kernel
theorem dX7_sumOfForms_8 : decode cX7_sumOfForms 8 = .ok (.invokevirtual 37, 3) := by decide +kernel
theorem dX7_sumOfForms_11 : decode cX7_sumOfForms 11 = .ok (.imul, 1) := by decide +kernel
theorem dX7_sumOfForms_12 : decode cX7_sumOfForms 12 = .ok (.iadd, 1) := by decide +kernel
theorem dX7_sumOfForms_13 : decode cX7_sumOfForms 13 = .ok (.ireturn, 1) := by decide +kernel
theorem dX7_isDefined_0 : decode cX7_isDefined 0 = .ok (.aload_n 0, 1) := by decide +kernel
theorem dX7_isDefined_1 : decode cX7_isDefined 1 = .ok (.getfield 15, 3) := by decide +kernel
theorem dX7_isDefined_4 : decode cX7_isDefined 4 = .ok (.aload_n 0, 1) := by decide +kernel
theorem dX7_isDefined_5 : decode cX7_isDefined 5 = .ok (.getfield 9, 3) := by decide +kernel
theorem dX7_isDefined_8 : decode cX7_isDefined 8 = .ok (.iload_n 1, 1) := by decide +kernel
theorem dX7_isDefined_9 : decode cX7_isDefined 9 = .ok (.invokevirtual 40, 3) := by decide +kernel
theorem dX7_isDefined_12 : decode cX7_isDefined 12 = .ok (.invokevirtual 43, 3) := by decide +kernel
theorem dX7_isDefined_15 : decode cX7_isDefined 15 = .ok (.iconst (-1), 1) := by decide +kernel
theorem dX7_isDefined_16 : decode cX7_isDefined 16 = .ok (.if_icmp .eq 7, 3) := by decide +kernel
theorem dX7_isDefined_19 : decode cX7_isDefined 19 = .ok (.iconst 1, 1) := by decide +kernel
theorem dX7_isDefined_20 : decode cX7_isDefined 20 = .ok (.goto 4, 3) := by decide +kernel
theorem dX7_isDefined_23 : decode cX7_isDefined 23 = .ok (.iconst 0, 1) := by decide +kernel
theorem dX7_isDefined_24 : decode cX7_isDefined 24 = .ok (.ireturn, 1) := by decide +kernel
theorem dX7_numberUndefined_0 : decode cX7_numberUndefined 0 = .ok (.iconst 0, 1) := by decide +kernel
theorem dX7_numberUndefined_1 : decode cX7_numberUndefined 1 = .ok (.istore_n 1, 1) := by decide +kernel
theorem dX7_numberUndefined_2 : decode cX7_numberUndefined 2 = .ok (.iconst 0, 1) := by decide +kernel
theorem dX7_numberUndefined_3 : decode cX7_numberUndefined 3 = .ok (.istore_n 2, 1) := by decide +kernel
theorem dX7_numberUndefined_4 : decode cX7_numberUndefined 4 = .ok (.iload_n 2, 1) := by decide +kernel
theorem dX7_numberUndefined_5 : decode cX7_numberUndefined 5 = .ok (.aload_n 0, 1) := by decide +kernel
theorem dX7_numberUndefined_6 : decode cX7_numberUndefined 6 = .ok (.getfield 9, 3) := by decide +kernel
theorem dX7_numberUndefined_9 : decode cX7_numberUndefined 9 = .ok (.invokevirtual 23, 3) := by decide +kernel
theorem dX7_numberUndefined_12 : decode cX7_numberUndefined 12 = .ok (.if_icmp .ge 31, 3) := by decide +kernel
theorem dX7_numberUndefined_15 : decode cX7_numberUndefined 15 = .ok (.aload_n 0, 1) := by decide +kernel
theorem dX7_numberUndefined_16 : decode cX7_numberUndefined 16 = .ok (.getfield 9, 3) := by decide +kernel
theorem dX7_numberUndefined_19 : decode cX7_numberUndefined 19 = .ok (.iload_n 2, 1) := by decide +kernel
theorem dX7_numberUndefined_20 : decode cX7_numberUndefined 20 = .ok (.invokevirtual 29, 3) := by decide +kernel
theorem dX7_numberUndefined_23 : decode cX7_numberUndefined 23 = .ok (.ifCond .eq 14, 3) := by decide +kernel
theorem dX7_numberUndefined_26 : decode cX7_numberUndefined 26 = .ok (.aload_n 0, 1) := by decide +kernel
theorem dX7_numberUndefined_27 : decode cX7_numberUndefined 27 = .ok (.iload_n 2, 1) := by decide +kernel
theorem dX7_numberUndefined_28 : decode cX7_numberUndefined 28 = .ok (.invokevirtual 48, 3) := by decide +kernel
theorem dX7_numberUndefined_31 : decode cX7_numberUndefined 31 = .ok (.ifCond .ne 6, 3) := by decide +kernel
theorem dX7_numberUndefined_34 : decode cX7_numberUndefined 34 = .ok (.iinc 1 1, 3) := by decide +kernel
theorem dX7_numberUndefined_37 : decode cX7_numberUndefined 37 = .ok (.iinc 2 1, 3) := by decide +kernel
theorem dX7_numberUndefined_40 : decode cX7_numberUndefined 40 = .ok (.goto (-36), 3) := by decide +kernel
theorem dX7_numberUndefined_43 : decode cX7_numberUndefined 43 = .ok (.iload_n 1, 1) := by decide +kernel
theorem dX7_numberUndefined_44 : decode cX7_numberUndefined 44 = .ok (.ireturn, 1) := by decide +kernel
theorem dX7_displacementAt_0 : decode cX7_displacementAt 0 = .ok (.aload_n 0, 1) := by decide +kernel
theorem dX7_displacementAt_1 : decode cX7_displacementAt 1 = .ok (.getfield 15, 3) := by decide +kernel
theorem dX7_displacementAt_4 : decode cX7_displacementAt 4 = .ok (.aload_n 0, 1) := by decide +kernel
theorem dX7_displacementAt_5 : decode cX7_displacementAt 5 = .ok (.getfield 9, 3) := by decide +kernel
theorem dX7_displacementAt_8 : decode cX7_displacementAt 8 = .ok (.iload_n 1, 1) := by decide +kernel
theorem dX7_displacementAt_9 : decode cX7_displacementAt 9 = .ok (.invokevirtual 40, 3) := by decide +kernel
theorem dX7_displacementAt_12 : decode cX7_displacementAt 12 = .ok (.invokevirtual 43, 3) := by decide +kernel
theorem dX7_displacementAt_15 : decode cX7_displacementAt 15 = .ok (.istore_n 2, 1) := by decide +kernel
theorem dX7_displacementAt_16 : decode cX7_displacementAt 16 = .ok (.aload_n 0, 1) := by decide +kernel
theorem dX7_displacementAt_17 : decode cX7_displacementAt 17 = .ok (.getfield 19, 3) := by decide +kernel
theorem dX7_displacementAt_20 : decode cX7_displacementAt 20 = .ok (.iload_n 2, 1) := by decide +kernel
theorem dX7_displacementAt_21 : decode cX7_displacementAt 21 = .ok (.invokevirtual 51, 3) := by decide +kernel
theorem dX7_displacementAt_24 : decode cX7_displacementAt 24 = .ok (.aload_n 0, 1) := by decide +kernel
theorem dX7_displacementAt_25 : decode cX7_displacementAt 25 = .ok (.getfield 19, 3) := by decide +kernel
theorem dX7_displacementAt_28 : decode cX7_displacementAt 28 = .ok (.iload_n 1, 1) := by decide +kernel
theorem dX7_displacementAt_29 : decode cX7_displacementAt 29 = .ok (.iconst 1, 1) := by decide +kernel
theorem dX7_displacementAt_30 : decode cX7_displacementAt 30 = .ok (.iadd, 1) := by decide +kernel
theorem dX7_displacementAt_31 : decode cX7_displacementAt 31 = .ok (.invokevirtual 51, 3) := by decide +kernel
theorem dX7_displacementAt_34 : decode cX7_displacementAt 34 = .ok (.isub, 1) := by decide +kernel
theorem dX7_displacementAt_35 : decode cX7_displacementAt 35 = .ok (.ireturn, 1) := by decide +kernel
theorem dX7_isFitting_0 : decode cX7_isFitting 0 = .ok (.aload_n 0, 1) := by decide +kernel
theorem dX7_isFitting_1 : decode cX7_isFitting 1 = .ok (.iload_n 1, 1) := by decide +kernel
theorem dX7_isFitting_2 : decode cX7_isFitting 2 = .ok (.invokevirtual 56, 3) := by decide +kernel
theorem dX7_isFitting_5 : decode cX7_isFitting 5 = .ok (.invokestatic 59, 3) := by decide +kernel
theorem dX7_isFitting_8 : decode cX7_isFitting 8 = .ok (.aload_n 0, 1) := by decide +kernel
theorem dX7_isFitting_9 : decode cX7_isFitting 9 = .ok (.getfield 9, 3) := by decide +kernel
theorem dX7_isFitting_12 : decode cX7_isFitting 12 = .ok (.iload_n 1, 1) := by decide +kernel
theorem dX7_isFitting_13 : decode cX7_isFitting 13 = .ok (.invokevirtual 33, 3) := by decide +kernel
theorem dX7_isFitting_16 : decode cX7_isFitting 16 = .ok (.if_icmp .gt 7, 3) := by decide +kernel
theorem dX7_isFitting_19 : decode cX7_isFitting 19 = .ok (.iconst 1, 1) := by decide +kernel
theorem dX7_isFitting_20 : decode cX7_isFitting 20 = .ok (.goto 4, 3) := by decide +kernel
theorem dX7_isFitting_23 : decode cX7_isFitting 23 = .ok (.iconst 0, 1) := by decide +kernel
theorem dX7_isFitting_24 : decode cX7_isFitting 24 = .ok (.ireturn, 1) := by decide +kernel
theorem dX7_numberMisfitting_0 : decode cX7_numberMisfitting 0 = .ok (.iconst 0, 1) := by decide +kernel
theorem dX7_numberMisfitting_1 : decode cX7_numberMisfitting 1 = .ok (.istore_n 1, 1) := by decide +kernel
theorem dX7_numberMisfitting_2 : decode cX7_numberMisfitting 2 = .ok (.iconst 0, 1) := by decide +kernel
theorem dX7_numberMisfitting_3 : decode cX7_numberMisfitting 3 = .ok (.istore_n 2, 1) := by decide +kernel
theorem dX7_numberMisfitting_4 : decode cX7_numberMisfitting 4 = .ok (.iload_n 2, 1) := by decide +kernel
theorem dX7_numberMisfitting_5 : decode cX7_numberMisfitting 5 = .ok (.aload_n 0, 1) := by decide +kernel
theorem dX7_numberMisfitting_6 : decode cX7_numberMisfitting 6 = .ok (.getfield 9, 3) := by decide +kernel
theorem dX7_numberMisfitting_9 : decode cX7_numberMisfitting 9 = .ok (.invokevirtual 23, 3) := by decide +kernel
theorem dX7_numberMisfitting_12 : decode cX7_numberMisfitting 12 = .ok (.if_icmp .ge 31, 3) := by decide +kernel
theorem dX7_numberMisfitting_15 : decode cX7_numberMisfitting 15 = .ok (.aload_n 0, 1) := by decide +kernel
theorem dX7_numberMisfitting_16 : decode cX7_numberMisfitting 16 = .ok (.getfield 9, 3) := by decide +kernel
theorem dX7_numberMisfitting_19 : decode cX7_numberMisfitting 19 = .ok (.iload_n 2, 1) := by decide +kernel
theorem dX7_numberMisfitting_20 : decode cX7_numberMisfitting 20 = .ok (.invokevirtual 29, 3) := by decide +kernel
theorem dX7_numberMisfitting_23 : decode cX7_numberMisfitting 23 = .ok (.ifCond .eq 14, 3) := by decide +kernel
theorem dX7_numberMisfitting_26 : decode cX7_numberMisfitting 26 = .ok (.aload_n 0, 1) := by decide +kernel
theorem dX7_numberMisfitting_27 : decode cX7_numberMisfitting 27 = .ok (.iload_n 2, 1) := by decide +kernel
theorem dX7_numberMisfitting_28 : decode cX7_numberMisfitting 28 = .ok (.invokevirtual 62, 3) := by decide +kernel
theorem dX7_numberMisfitting_31 : decode cX7_numberMisfitting 31 = .ok (.ifCond .ne 6, 3) := by decide +kernel
theorem dX7_numberMisfitting_34 : decode cX7_numberMisfitting 34 = .ok (.iinc 1 1, 3) := by decide +kernel
theorem dX7_numberMisfitting_37 : decode cX7_numberMisfitting 37 = .ok (.iinc 2 1, 3) := by decide +kernel
theorem dX7_numberMisfitting_40 : decode cX7_numberMisfitting 40 = .ok (.goto (-36), 3) := by decide +kernel
theorem dX7_numberMisfitting_43 : decode cX7_numberMisfitting 43 = .ok (.iload_n 1, 1) := by decide +kernel
theorem dX7_numberMisfitting_44 : decode cX7_numberMisfitting 44 = .ok (.ireturn, 1) := by decide +kernel
theorem dX7_growAll_0 : decode cX7_growAll 0 = .ok (.iconst 0, 1) := by decide +kernel
theorem dX7_growAll_1 : decode cX7_growAll 1 = .ok (.istore_n 1, 1) := by decide +kernel
theorem dX7_growAll_2 : decode cX7_growAll 2 = .ok (.iload_n 1, 1) := by decide +kernel
theorem dX7_growAll_3 : decode cX7_growAll 3 = .ok (.aload_n 0, 1) := by decide +kernel
theorem dX7_growAll_4 : decode cX7_growAll 4 = .ok (.getfield 9, 3) := by decide +kernel
theorem dX7_growAll_7 : decode cX7_growAll 7 = .ok (.invokevirtual 23, 3) := by decide +kernel
theorem dX7_growAll_10 : decode cX7_growAll 10 = .ok (.if_icmp .ge 18, 3) := by decide +kernel
theorem dX7_growAll_13 : decode cX7_growAll 13 = .ok (.aload_n 0, 1) := by decide +kernel
theorem dX7_growAll_14 : decode cX7_growAll 14 = .ok (.getfield 9, 3) := by decide +kernel
theorem dX7_growAll_17 : decode cX7_growAll 17 = .ok (.iload_n 1, 1) := by decide +kernel
theorem dX7_growAll_18 : decode cX7_growAll 18 = .ok (.iconst 0, 1) := by decide +kernel
theorem dX7_growAll_19 : decode cX7_growAll 19 = .ok (.invokevirtual 65, 3) := by decide +kernel
theorem dX7_growAll_22 : decode cX7_growAll 22 = .ok (.iinc 1 1, 3) := by decide +kernel
theorem dX7_growAll_25 : decode cX7_growAll 25 = .ok (.goto (-23), 3) := by decide +kernel
theorem dX7_growAll_28 : decode cX7_growAll 28 = .ok (.iconst 0, 1) := by decide +kernel
theorem dX7_growAll_29 : decode cX7_growAll 29 = .ok (.istore_n 1, 1) := by decide +kernel
theorem dX7_growAll_30 : decode cX7_growAll 30 = .ok (.iload_n 1, 1) := by decide +kernel
theorem dX7_growAll_31 : decode cX7_growAll 31 = .ok (.bipush 80, 2) := by decide +kernel
theorem dX7_growAll_33 : decode cX7_growAll 33 = .ok (.if_icmp .ge 16, 3) := by decide +kernel
theorem dX7_growAll_36 : decode cX7_growAll 36 = .ok (.aload_n 0, 1) := by decide +kernel
theorem dX7_growAll_37 : decode cX7_growAll 37 = .ok (.invokevirtual 69, 3) := by decide +kernel
theorem dX7_growAll_40 : decode cX7_growAll 40 = .ok (.ifCond .eq 9, 3) := by decide +kernel
theorem dX7_growAll_43 : decode cX7_growAll 43 = .ok (.iinc 1 1, 3) := by decide +kernel
theorem dX7_growAll_46 : decode cX7_growAll 46 = .ok (.goto (-16), 3) := by decide +kernel
theorem dX7_growAll_49 : decode cX7_growAll 49 = .ok (.iload_n 1, 1) := by decide +kernel
theorem dX7_growAll_50 : decode cX7_growAll 50 = .ok (.ireturn, 1) := by decide +kernel
theorem dX7_growMisfits_0 : decode cX7_growMisfits 0 = .ok (.iconst 0, 1) := by decide +kernel
theorem dX7_growMisfits_1 : decode cX7_growMisfits 1 = .ok (.istore_n 1, 1) := by decide +kernel
theorem dX7_growMisfits_2 : decode cX7_growMisfits 2 = .ok (.aload_n 0, 1) := by decide +kernel
theorem dX7_growMisfits_3 : decode cX7_growMisfits 3 = .ok (.getfield 19, 3) := by decide +kernel
theorem dX7_growMisfits_6 : decode cX7_growMisfits 6 = .ok (.invokevirtual 73, 3) := by decide +kernel
theorem dX7_growMisfits_9 : decode cX7_growMisfits 9 = .ok (.iconst 0, 1) := by decide +kernel
theorem dX7_growMisfits_10 : decode cX7_growMisfits 10 = .ok (.istore_n 2, 1) := by decide +kernel
theorem dX7_growMisfits_11 : decode cX7_growMisfits 11 = .ok (.iload_n 2, 1) := by decide +kernel
theorem dX7_growMisfits_12 : decode cX7_growMisfits 12 = .ok (.aload_n 0, 1) := by decide +kernel
theorem dX7_growMisfits_13 : decode cX7_growMisfits 13 = .ok (.getfield 9, 3) := by decide +kernel
theorem dX7_growMisfits_16 : decode cX7_growMisfits 16 = .ok (.invokevirtual 23, 3) := by decide +kernel
theorem dX7_growMisfits_19 : decode cX7_growMisfits 19 = .ok (.if_icmp .ge 46, 3) := by decide +kernel
theorem dX7_growMisfits_22 : decode cX7_growMisfits 22 = .ok (.aload_n 0, 1) := by decide +kernel
theorem dX7_growMisfits_23 : decode cX7_growMisfits 23 = .ok (.getfield 9, 3) := by decide +kernel
theorem dX7_growMisfits_26 : decode cX7_growMisfits 26 = .ok (.iload_n 2, 1) := by decide +kernel
theorem dX7_growMisfits_27 : decode cX7_growMisfits 27 = .ok (.invokevirtual 29, 3) := by decide +kernel
theorem dX7_growMisfits_30 : decode cX7_growMisfits 30 = .ok (.ifCond .eq 29, 3) := by decide +kernel
theorem dX7_growMisfits_33 : decode cX7_growMisfits 33 = .ok (.aload_n 0, 1) := by decide +kernel
theorem dX7_growMisfits_34 : decode cX7_growMisfits 34 = .ok (.iload_n 2, 1) := by decide +kernel
theorem dX7_growMisfits_35 : decode cX7_growMisfits 35 = .ok (.invokevirtual 62, 3) := by decide +kernel
theorem dX7_growMisfits_38 : decode cX7_growMisfits 38 = .ok (.ifCond .ne 21, 3) := by decide +kernel
theorem dX7_growMisfits_41 : decode cX7_growMisfits 41 = .ok (.aload_n 0, 1) := by decide +kernel
theorem dX7_growMisfits_42 : decode cX7_growMisfits 42 = .ok (.getfield 9, 3) := by decide +kernel
theorem dX7_growMisfits_45 : decode cX7_growMisfits 45 = .ok (.iload_n 2, 1) := by decide +kernel
theorem dX7_growMisfits_46 : decode cX7_growMisfits 46 = .ok (.aload_n 0, 1) := by decide +kernel
theorem dX7_growMisfits_47 : decode cX7_growMisfits 47 = .ok (.iload_n 2, 1) := by decide +kernel
theorem dX7_growMisfits_48 : decode cX7_growMisfits 48 = .ok (.invokevirtual 56, 3) := by decide +kernel
theorem dX7_growMisfits_51 : decode cX7_growMisfits 51 = .ok (.invokestatic 59, 3) := by decide +kernel
theorem dX7_growMisfits_54 : decode cX7_growMisfits 54 = .ok (.invokevirtual 65, 3) := by decide +kernel
theorem dX7_growMisfits_57 : decode cX7_growMisfits 57 = .ok (.iconst 1, 1) := by decide +kernel
theorem dX7_growMisfits_58 : decode cX7_growMisfits 58 = .ok (.istore_n 1, 1) := by decide +kernel
theorem dX7_growMisfits_59 : decode cX7_growMisfits 59 = .ok (.iinc 2 1, 3) := by decide +kernel
theorem dX7_growMisfits_62 : decode cX7_growMisfits 62 = .ok (.goto (-51), 3) := by decide +kernel
theorem dX7_growMisfits_65 : decode cX7_growMisfits 65 = .ok (.iload_n 1, 1) := by decide +kernel
theorem dX7_growMisfits_66 : decode cX7_growMisfits 66 = .ok (.ireturn, 1) := by decide +kernel
theorem dX7_shrinkAll_0 : decode cX7_shrinkAll 0 = .ok (.iconst 0, 1) := by decide +kernel
theorem dX7_shrinkAll_1 : decode cX7_shrinkAll 1 = .ok (.istore_n 1, 1) := by decide +kernel
theorem dX7_shrinkAll_2 : decode cX7_shrinkAll 2 = .ok (.iconst 1, 1) := by decide +kernel
theorem dX7_shrinkAll_3 : decode cX7_shrinkAll 3 = .ok (.istore_n 2, 1) := by decide +kernel
theorem dX7_shrinkAll_4 : decode cX7_shrinkAll 4 = .ok (.iconst 0, 1) := by decide +kernel
theorem dX7_shrinkAll_5 : decode cX7_shrinkAll 5 = .ok (.istore_n 3, 1) := by decide +kernel
theorem dX7_shrinkAll_6 : decode cX7_shrinkAll 6 = .ok (.iload_n 2, 1) := by decide +kernel
theorem dX7_shrinkAll_7 : decode cX7_shrinkAll 7 = .ok (.ifCond .eq 64, 3) := by decide +kernel
theorem dX7_shrinkAll_10 : decode cX7_shrinkAll 10 = .ok (.iload_n 3, 1) := by decide +kernel
theorem dX7_shrinkAll_11 : decode cX7_shrinkAll 11 = .ok (.bipush 80, 2) := by decide +kernel
theorem dX7_shrinkAll_13 : decode cX7_shrinkAll 13 = .ok (.if_icmp .gt 58, 3) := by decide +kernel
theorem dX7_shrinkAll_16 : decode cX7_shrinkAll 16 = .ok (.iconst 0, 1) := by decide +kernel
theorem dX7_shrinkAll_17 : decode cX7_shrinkAll 17 = .ok (.istore_n 2, 1) := by decide +kernel
theorem dX7_shrinkAll_18 : decode cX7_shrinkAll 18 = .ok (.iconst 0, 1) := by decide +kernel
theorem dX7_shrinkAll_19 : decode cX7_shrinkAll 19 = .ok (.istore 4, 2) := by decide +kernel
theorem dX7_shrinkAll_21 : decode cX7_shrinkAll 21 = .ok (.iload 4, 2) := by decide +kernel
theorem dX7_shrinkAll_23 : decode cX7_shrinkAll 23 = .ok (.aload_n 0, 1) := by decide +kernel
theorem dX7_shrinkAll_24 : decode cX7_shrinkAll 24 = .ok (.getfield 9, 3) := by decide +kernel
theorem dX7_shrinkAll_27 : decode cX7_shrinkAll 27 = .ok (.invokevirtual 23, 3) := by decide +kernel
theorem dX7_shrinkAll_30 : decode cX7_shrinkAll 30 = .ok (.if_icmp .ge 35, 3) := by decide +kernel
theorem dX7_shrinkAll_33 : decode cX7_shrinkAll 33 = .ok (.aload_n 0, 1) := by decide +kernel
theorem dX7_shrinkAll_34 : decode cX7_shrinkAll 34 = .ok (.getfield 9, 3) := by decide +kernel
theorem dX7_shrinkAll_37 : decode cX7_shrinkAll 37 = .ok (.iload 4, 2) := by decide +kernel
theorem dX7_shrinkAll_39 : decode cX7_shrinkAll 39 = .ok (.invokevirtual 33, 3) := by decide +kernel
theorem dX7_shrinkAll_42 : decode cX7_shrinkAll 42 = .ok (.ifCond .le 17, 3) := by decide +kernel
theorem dX7_shrinkAll_45 : decode cX7_shrinkAll 45 = .ok (.aload_n 0, 1) := by decide +kernel
theorem dX7_shrinkAll_46 : decode cX7_shrinkAll 46 = .ok (.iload 4, 2) := by decide +kernel
theorem dX7_shrinkAll_48 : decode cX7_shrinkAll 48 = .ok (.invokevirtual 76, 3) := by decide +kernel
theorem dX7_shrinkAll_51 : decode cX7_shrinkAll 51 = .ok (.ifCond .eq 8, 3) := by decide +kernel
theorem dX7_shrinkAll_54 : decode cX7_shrinkAll 54 = .ok (.iconst 1, 1) := by decide +kernel
theorem dX7_shrinkAll_55 : decode cX7_shrinkAll 55 = .ok (.istore_n 2, 1) := by decide +kernel
theorem dX7_shrinkAll_56 : decode cX7_shrinkAll 56 = .ok (.iinc 1 1, 3) := by decide +kernel
theorem dX7_shrinkAll_59 : decode cX7_shrinkAll 59 = .ok (.iinc 4 1, 3) := by decide +kernel
theorem dX7_shrinkAll_62 : decode cX7_shrinkAll 62 = .ok (.goto (-41), 3) := by decide +kernel
theorem dX7_shrinkAll_65 : decode cX7_shrinkAll 65 = .ok (.iinc 3 1, 3) := by decide +kernel
theorem dX7_shrinkAll_68 : decode cX7_shrinkAll 68 = .ok (.goto (-62), 3) := by decide +kernel
theorem dX7_shrinkAll_71 : decode cX7_shrinkAll 71 = .ok (.iload_n 1, 1) := by decide +kernel
theorem dX7_shrinkAll_72 : decode cX7_shrinkAll 72 = .ok (.ireturn, 1) := by decide +kernel
theorem dX7_shrinkIfAllFit_0 : decode cX7_shrinkIfAllFit 0 = .ok (.aload_n 0, 1) := by decide +kernel
theorem dX7_shrinkIfAllFit_1 : decode cX7_shrinkIfAllFit 1 = .ok (.getfield 9, 3) := by decide +kernel
theorem dX7_shrinkIfAllFit_4 : decode cX7_shrinkIfAllFit 4 = .ok (.iload_n 1, 1) := by decide +kernel
theorem dX7_shrinkIfAllFit_5 : decode cX7_shrinkIfAllFit 5 = .ok (.invokevirtual 33, 3) := by decide +kernel
theorem dX7_shrinkIfAllFit_8 : decode cX7_shrinkIfAllFit 8 = .ok (.istore_n 2, 1) := by decide +kernel
theorem dX7_shrinkIfAllFit_9 : decode cX7_shrinkIfAllFit 9 = .ok (.aload_n 0, 1) := by decide +kernel
theorem dX7_shrinkIfAllFit_10 : decode cX7_shrinkIfAllFit 10 = .ok (.getfield 9, 3) := by decide +kernel
theorem dX7_shrinkIfAllFit_13 : decode cX7_shrinkIfAllFit 13 = .ok (.iload_n 1, 1) := by decide +kernel
theorem dX7_shrinkIfAllFit_14 : decode cX7_shrinkIfAllFit 14 = .ok (.iload_n 2, 1) := by decide +kernel
theorem dX7_shrinkIfAllFit_15 : decode cX7_shrinkIfAllFit 15 = .ok (.iconst 1, 1) := by decide +kernel
theorem dX7_shrinkIfAllFit_16 : decode cX7_shrinkIfAllFit 16 = .ok (.isub, 1) := by decide +kernel
theorem dX7_shrinkIfAllFit_17 : decode cX7_shrinkIfAllFit 17 = .ok (.invokevirtual 65, 3) := by decide +kernel
theorem dX7_shrinkIfAllFit_20 : decode cX7_shrinkIfAllFit 20 = .ok (.aload_n 0, 1) := by decide +kernel
theorem dX7_shrinkIfAllFit_21 : decode cX7_shrinkIfAllFit 21 = .ok (.getfield 19, 3) := by decide +kernel
theorem dX7_shrinkIfAllFit_24 : decode cX7_shrinkIfAllFit 24 = .ok (.invokevirtual 73, 3) := by decide +kernel
theorem dX7_shrinkIfAllFit_27 : decode cX7_shrinkIfAllFit 27 = .ok (.aload_n 0, 1) := by decide +kernel
theorem dX7_shrinkIfAllFit_28 : decode cX7_shrinkIfAllFit 28 = .ok (.invokevirtual 79, 3) := by decide +kernel
theorem dX7_shrinkIfAllFit_31 : decode cX7_shrinkIfAllFit 31 = .ok (.ifCond .ne 5, 3) := by decide +kernel
theorem dX7_shrinkIfAllFit_34 : decode cX7_shrinkIfAllFit 34 = .ok (.iconst 1, 1) := by decide +kernel
theorem dX7_shrinkIfAllFit_35 : decode cX7_shrinkIfAllFit 35 = .ok (.ireturn, 1) := by decide +kernel
theorem dX7_shrinkIfAllFit_36 : decode cX7_shrinkIfAllFit 36 = .ok (.aload_n 0, 1) := by decide +kernel
theorem dX7_shrinkIfAllFit_37 : decode cX7_shrinkIfAllFit 37 = .ok (.getfield 9, 3) := by decide +kernel
theorem dX7_shrinkIfAllFit_40 : decode cX7_shrinkIfAllFit 40 = .ok (.iload_n 1, 1) := by decide +kernel
theorem dX7_shrinkIfAllFit_41 : decode cX7_shrinkIfAllFit 41 = .ok (.iload_n 2, 1) := by decide +kernel
theorem dX7_shrinkIfAllFit_42 : decode cX7_shrinkIfAllFit 42 = .ok (.invokevirtual 65, 3) := by decide +kernel
theorem dX7_shrinkIfAllFit_45 : decode cX7_shrinkIfAllFit 45 = .ok (.iconst 0, 1) := by decide +kernel
theorem dX7_shrinkIfAllFit_46 : decode cX7_shrinkIfAllFit 46 = .ok (.ireturn, 1) := by decide +kernel
