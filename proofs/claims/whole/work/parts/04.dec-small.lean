theorem dX0_init_0 : decode cX0_init 0 = .ok (.aload_n 0, 1) := by decide +kernel
theorem dX0_init_1 : decode cX0_init 1 = .ok (.invokespecial 3, 3) := by decide +kernel
theorem dX0_init_4 : decode cX0_init 4 = .ok (.aload_n 0, 1) := by decide +kernel
theorem dX0_init_5 : decode cX0_init 5 = .ok (.bipush 6, 2) := by decide +kernel
theorem dX0_init_7 : decode cX0_init 7 = .ok (.bipush 6, 2) := by decide +kernel
theorem dX0_init_9 : decode cX0_init 9 = .ok (.multianewarray 9 2, 4) := by decide +kernel
theorem dX0_init_13 : decode cX0_init 13 = .ok (.putfield 11, 3) := by decide +kernel
theorem dX0_init_16 : decode cX0_init 16 = .ok (.aload_n 0, 1) := by decide +kernel
theorem dX0_init_17 : decode cX0_init 17 = .ok (.bipush 6, 2) := by decide +kernel
theorem dX0_init_19 : decode cX0_init 19 = .ok (.newarray .int, 2) := by decide +kernel
theorem dX0_init_21 : decode cX0_init 21 = .ok (.putfield 16, 3) := by decide +kernel
theorem dX0_init_24 : decode cX0_init 24 = .ok (.aload_n 0, 1) := by decide +kernel
theorem dX0_init_25 : decode cX0_init 25 = .ok (.bipush 64, 2) := by decide +kernel
theorem dX0_init_27 : decode cX0_init 27 = .ok (.newarray .int, 2) := by decide +kernel
theorem dX0_init_29 : decode cX0_init 29 = .ok (.putfield 20, 3) := by decide +kernel
theorem dX0_init_32 : decode cX0_init 32 = .ok (.return_, 1) := by decide +kernel
theorem dX0_areNumbers_0 : decode cX0_areNumbers 0 = .ok (.iload_n 0, 1) := by decide +kernel
theorem dX0_areNumbers_1 : decode cX0_areNumbers 1 = .ok (.iconst 0, 1) := by decide +kernel
theorem dX0_areNumbers_2 : decode cX0_areNumbers 2 = .ok (.iconst 5, 1) := by decide +kernel
theorem dX0_areNumbers_3 : decode cX0_areNumbers 3 = .ok (.invokestatic 23, 3) := by decide +kernel
theorem dX0_areNumbers_6 : decode cX0_areNumbers 6 = .ok (.ifCond .eq 16, 3) := by decide +kernel
theorem dX0_areNumbers_9 : decode cX0_areNumbers 9 = .ok (.iload_n 1, 1) := by decide +kernel
theorem dX0_areNumbers_10 : decode cX0_areNumbers 10 = .ok (.iconst 0, 1) := by decide +kernel
theorem dX0_areNumbers_11 : decode cX0_areNumbers 11 = .ok (.iconst 5, 1) := by decide +kernel
theorem dX0_areNumbers_12 : decode cX0_areNumbers 12 = .ok (.invokestatic 23, 3) := by decide +kernel
theorem dX0_areNumbers_15 : decode cX0_areNumbers 15 = .ok (.ifCond .eq 7, 3) := by decide +kernel
theorem dX0_areNumbers_18 : decode cX0_areNumbers 18 = .ok (.iconst 1, 1) := by decide +kernel
theorem dX0_areNumbers_19 : decode cX0_areNumbers 19 = .ok (.goto 4, 3) := by decide +kernel
theorem dX0_areNumbers_22 : decode cX0_areNumbers 22 = .ok (.iconst 0, 1) := by decide +kernel
theorem dX0_areNumbers_23 : decode cX0_areNumbers 23 = .ok (.ireturn, 1) := by decide +kernel
theorem dX0_forget_0 : decode cX0_forget 0 = .ok (.iconst 0, 1) := by decide +kernel
theorem dX0_forget_1 : decode cX0_forget 1 = .ok (.istore_n 1, 1) := by decide +kernel
theorem dX0_forget_2 : decode cX0_forget 2 = .ok (.iload_n 1, 1) := by decide +kernel
theorem dX0_forget_3 : decode cX0_forget 3 = .ok (.bipush 6, 2) := by decide +kernel
theorem dX0_forget_5 : decode cX0_forget 5 = .ok (.if_icmp .ge 32, 3) := by decide +kernel
theorem dX0_forget_8 : decode cX0_forget 8 = .ok (.iconst 0, 1) := by decide +kernel
theorem dX0_forget_9 : decode cX0_forget 9 = .ok (.istore_n 2, 1) := by decide +kernel
theorem dX0_forget_10 : decode cX0_forget 10 = .ok (.iload_n 2, 1) := by decide +kernel
theorem dX0_forget_11 : decode cX0_forget 11 = .ok (.bipush 6, 2) := by decide +kernel
theorem dX0_forget_13 : decode cX0_forget 13 = .ok (.if_icmp .ge 18, 3) := by decide +kernel
theorem dX0_forget_16 : decode cX0_forget 16 = .ok (.aload_n 0, 1) := by decide +kernel
theorem dX0_forget_17 : decode cX0_forget 17 = .ok (.getfield 11, 3) := by decide +kernel
theorem dX0_forget_20 : decode cX0_forget 20 = .ok (.iload_n 1, 1) := by decide +kernel
theorem dX0_forget_21 : decode cX0_forget 21 = .ok (.aaload, 1) := by decide +kernel
theorem dX0_forget_22 : decode cX0_forget 22 = .ok (.iload_n 2, 1) := by decide +kernel
theorem dX0_forget_23 : decode cX0_forget 23 = .ok (.iconst 0, 1) := by decide +kernel
theorem dX0_forget_24 : decode cX0_forget 24 = .ok (.iastore, 1) := by decide +kernel
theorem dX0_forget_25 : decode cX0_forget 25 = .ok (.iinc 2 1, 3) := by decide +kernel
theorem dX0_forget_28 : decode cX0_forget 28 = .ok (.goto (-18), 3) := by decide +kernel
theorem dX0_forget_31 : decode cX0_forget 31 = .ok (.iinc 1 1, 3) := by decide +kernel
theorem dX0_forget_34 : decode cX0_forget 34 = .ok (.goto (-32), 3) := by decide +kernel
theorem dX0_forget_37 : decode cX0_forget 37 = .ok (.return_, 1) := by decide +kernel
theorem dX0_add_0 : decode cX0_add 0 = .ok (.iload_n 1, 1) := by decide +kernel
theorem dX0_add_1 : decode cX0_add 1 = .ok (.iload_n 2, 1) := by decide +kernel
theorem dX0_add_2 : decode cX0_add 2 = .ok (.invokestatic 27, 3) := by decide +kernel
theorem dX0_add_5 : decode cX0_add 5 = .ok (.ifCond .eq 15, 3) := by decide +kernel
theorem dX0_add_8 : decode cX0_add 8 = .ok (.aload_n 0, 1) := by decide +kernel
theorem dX0_add_9 : decode cX0_add 9 = .ok (.getfield 11, 3) := by decide +kernel
theorem dX0_add_12 : decode cX0_add 12 = .ok (.iload_n 1, 1) := by decide +kernel
theorem dX0_add_13 : decode cX0_add 13 = .ok (.aaload, 1) := by decide +kernel
theorem dX0_add_14 : decode cX0_add 14 = .ok (.iload_n 2, 1) := by decide +kernel
theorem dX0_add_15 : decode cX0_add 15 = .ok (.dup2, 1) := by decide +kernel
theorem dX0_add_16 : decode cX0_add 16 = .ok (.iaload, 1) := by decide +kernel
theorem dX0_add_17 : decode cX0_add 17 = .ok (.iload_n 3, 1) := by decide +kernel
theorem dX0_add_18 : decode cX0_add 18 = .ok (.iadd, 1) := by decide +kernel
theorem dX0_add_19 : decode cX0_add 19 = .ok (.iastore, 1) := by decide +kernel
theorem dX0_add_20 : decode cX0_add 20 = .ok (.return_, 1) := by decide +kernel
theorem dX0_between_0 : decode cX0_between 0 = .ok (.iload_n 1, 1) := by decide +kernel
theorem dX0_between_1 : decode cX0_between 1 = .ok (.iload_n 2, 1) := by decide +kernel
theorem dX0_between_2 : decode cX0_between 2 = .ok (.invokestatic 27, 3) := by decide +kernel
theorem dX0_between_5 : decode cX0_between 5 = .ok (.ifCond .eq 14, 3) := by decide +kernel
theorem dX0_between_8 : decode cX0_between 8 = .ok (.aload_n 0, 1) := by decide +kernel
theorem dX0_between_9 : decode cX0_between 9 = .ok (.getfield 11, 3) := by decide +kernel
theorem dX0_between_12 : decode cX0_between 12 = .ok (.iload_n 1, 1) := by decide +kernel
theorem dX0_between_13 : decode cX0_between 13 = .ok (.aaload, 1) := by decide +kernel
theorem dX0_between_14 : decode cX0_between 14 = .ok (.iload_n 2, 1) := by decide +kernel
theorem dX0_between_15 : decode cX0_between 15 = .ok (.iaload, 1) := by decide +kernel
theorem dX0_between_16 : decode cX0_between 16 = .ok (.goto 4, 3) := by decide +kernel
theorem dX0_between_19 : decode cX0_between 19 = .ok (.iconst 0, 1) := by decide +kernel
theorem dX0_between_20 : decode cX0_between 20 = .ok (.ireturn, 1) := by decide +kernel
theorem dX0_owedBy_0 : decode cX0_owedBy 0 = .ok (.iconst 0, 1) := by decide +kernel
theorem dX0_owedBy_1 : decode cX0_owedBy 1 = .ok (.istore_n 2, 1) := by decide +kernel
theorem dX0_owedBy_2 : decode cX0_owedBy 2 = .ok (.iconst 0, 1) := by decide +kernel
theorem dX0_owedBy_3 : decode cX0_owedBy 3 = .ok (.istore_n 3, 1) := by decide +kernel
theorem dX0_owedBy_4 : decode cX0_owedBy 4 = .ok (.iload_n 3, 1) := by decide +kernel
theorem dX0_owedBy_5 : decode cX0_owedBy 5 = .ok (.bipush 6, 2) := by decide +kernel
theorem dX0_owedBy_7 : decode cX0_owedBy 7 = .ok (.if_icmp .ge 18, 3) := by decide +kernel
theorem dX0_owedBy_10 : decode cX0_owedBy 10 = .ok (.iload_n 2, 1) := by decide +kernel
theorem dX0_owedBy_11 : decode cX0_owedBy 11 = .ok (.aload_n 0, 1) := by decide +kernel
theorem dX0_owedBy_12 : decode cX0_owedBy 12 = .ok (.iload_n 1, 1) := by decide +kernel
theorem dX0_owedBy_13 : decode cX0_owedBy 13 = .ok (.iload_n 3, 1) := by decide +kernel
theorem dX0_owedBy_14 : decode cX0_owedBy 14 = .ok (.invokevirtual 31, 3) := by decide +kernel
theorem dX0_owedBy_17 : decode cX0_owedBy 17 = .ok (.iadd, 1) := by decide +kernel
theorem dX0_owedBy_18 : decode cX0_owedBy 18 = .ok (.istore_n 2, 1) := by decide +kernel
theorem dX0_owedBy_19 : decode cX0_owedBy 19 = .ok (.iinc 3 1, 3) := by decide +kernel
theorem dX0_owedBy_22 : decode cX0_owedBy 22 = .ok (.goto (-18), 3) := by decide +kernel
theorem dX0_owedBy_25 : decode cX0_owedBy 25 = .ok (.iload_n 2, 1) := by decide +kernel
theorem dX0_owedBy_26 : decode cX0_owedBy 26 = .ok (.ireturn, 1) := by decide +kernel
theorem dX0_owedTo_0 : decode cX0_owedTo 0 = .ok (.iconst 0, 1) := by decide +kernel
theorem dX0_owedTo_1 : decode cX0_owedTo 1 = .ok (.istore_n 2, 1) := by decide +kernel
theorem dX0_owedTo_2 : decode cX0_owedTo 2 = .ok (.iconst 0, 1) := by decide +kernel
theorem dX0_owedTo_3 : decode cX0_owedTo 3 = .ok (.istore_n 3, 1) := by decide +kernel
theorem dX0_owedTo_4 : decode cX0_owedTo 4 = .ok (.iload_n 3, 1) := by decide +kernel
theorem dX0_owedTo_5 : decode cX0_owedTo 5 = .ok (.bipush 6, 2) := by decide +kernel
theorem dX0_owedTo_7 : decode cX0_owedTo 7 = .ok (.if_icmp .ge 18, 3) := by decide +kernel
theorem dX0_owedTo_10 : decode cX0_owedTo 10 = .ok (.iload_n 2, 1) := by decide +kernel
theorem dX0_owedTo_11 : decode cX0_owedTo 11 = .ok (.aload_n 0, 1) := by decide +kernel
theorem dX0_owedTo_12 : decode cX0_owedTo 12 = .ok (.iload_n 3, 1) := by decide +kernel
theorem dX0_owedTo_13 : decode cX0_owedTo 13 = .ok (.iload_n 1, 1) := by decide +kernel
theorem dX0_owedTo_14 : decode cX0_owedTo 14 = .ok (.invokevirtual 31, 3) := by decide +kernel
theorem dX0_owedTo_17 : decode cX0_owedTo 17 = .ok (.iadd, 1) := by decide +kernel
theorem dX0_owedTo_18 : decode cX0_owedTo 18 = .ok (.istore_n 2, 1) := by decide +kernel
theorem dX0_owedTo_19 : decode cX0_owedTo 19 = .ok (.iinc 3 1, 3) := by decide +kernel
theorem dX0_owedTo_22 : decode cX0_owedTo 22 = .ok (.goto (-18), 3) := by decide +kernel
theorem dX0_owedTo_25 : decode cX0_owedTo 25 = .ok (.iload_n 2, 1) := by decide +kernel
theorem dX0_owedTo_26 : decode cX0_owedTo 26 = .ok (.ireturn, 1) := by decide +kernel
theorem dX0_balanceOf_0 : decode cX0_balanceOf 0 = .ok (.aload_n 0, 1) := by decide +kernel
theorem dX0_balanceOf_1 : decode cX0_balanceOf 1 = .ok (.iload_n 1, 1) := by decide +kernel
theorem dX0_balanceOf_2 : decode cX0_balanceOf 2 = .ok (.invokevirtual 35, 3) := by decide +kernel
theorem dX0_balanceOf_5 : decode cX0_balanceOf 5 = .ok (.aload_n 0, 1) := by decide +kernel
theorem dX0_balanceOf_6 : decode cX0_balanceOf 6 = .ok (.iload_n 1, 1) := by decide +kernel
theorem dX0_balanceOf_7 : decode cX0_balanceOf 7 = .ok (.invokevirtual 39, 3) := by decide +kernel
theorem dX0_balanceOf_10 : decode cX0_balanceOf 10 = .ok (.isub, 1) := by decide +kernel
theorem dX0_balanceOf_11 : decode cX0_balanceOf 11 = .ok (.ireturn, 1) := by decide +kernel
theorem dX0_leastSteps_0 : decode cX0_leastSteps 0 = .ok (.iconst 0, 1) := by decide +kernel
theorem dX0_leastSteps_1 : decode cX0_leastSteps 1 = .ok (.istore_n 1, 1) := by decide +kernel
theorem dX0_leastSteps_2 : decode cX0_leastSteps 2 = .ok (.iconst 0, 1) := by decide +kernel
theorem dX0_leastSteps_3 : decode cX0_leastSteps 3 = .ok (.istore_n 2, 1) := by decide +kernel
theorem dX0_leastSteps_4 : decode cX0_leastSteps 4 = .ok (.iload_n 2, 1) := by decide +kernel
theorem dX0_leastSteps_5 : decode cX0_leastSteps 5 = .ok (.bipush 6, 2) := by decide +kernel
theorem dX0_leastSteps_7 : decode cX0_leastSteps 7 = .ok (.if_icmp .ge 21, 3) := by decide +kernel
theorem dX0_leastSteps_10 : decode cX0_leastSteps 10 = .ok (.iload_n 1, 1) := by decide +kernel
theorem dX0_leastSteps_11 : decode cX0_leastSteps 11 = .ok (.iconst 0, 1) := by decide +kernel
theorem dX0_leastSteps_12 : decode cX0_leastSteps 12 = .ok (.aload_n 0, 1) := by decide +kernel
theorem dX0_leastSteps_13 : decode cX0_leastSteps 13 = .ok (.iload_n 2, 1) := by decide +kernel
theorem dX0_leastSteps_14 : decode cX0_leastSteps 14 = .ok (.invokevirtual 42, 3) := by decide +kernel
theorem dX0_leastSteps_17 : decode cX0_leastSteps 17 = .ok (.invokestatic 45, 3) := by decide +kernel
theorem dX0_leastSteps_20 : decode cX0_leastSteps 20 = .ok (.iadd, 1) := by decide +kernel
theorem dX0_leastSteps_21 : decode cX0_leastSteps 21 = .ok (.istore_n 1, 1) := by decide +kernel
theorem dX0_leastSteps_22 : decode cX0_leastSteps 22 = .ok (.iinc 2 1, 3) := by decide +kernel
theorem dX0_leastSteps_25 : decode cX0_leastSteps 25 = .ok (.goto (-21), 3) := by decide +kernel
theorem dX0_leastSteps_28 : decode cX0_leastSteps 28 = .ok (.iload_n 1, 1) := by decide +kernel
theorem dX0_leastSteps_29 : decode cX0_leastSteps 29 = .ok (.ireturn, 1) := by decide +kernel
theorem dX0_leastPayments_0 : decode cX0_leastPayments 0 = .ok (.iconst 0, 1) := by decide +kernel
theorem dX0_leastPayments_1 : decode cX0_leastPayments 1 = .ok (.istore_n 1, 1) := by decide +kernel
theorem dX0_leastPayments_2 : decode cX0_leastPayments 2 = .ok (.iload_n 1, 1) := by decide +kernel
theorem dX0_leastPayments_3 : decode cX0_leastPayments 3 = .ok (.bipush 6, 2) := by decide +kernel
theorem dX0_leastPayments_5 : decode cX0_leastPayments 5 = .ok (.if_icmp .ge 20, 3) := by decide +kernel
theorem dX0_leastPayments_8 : decode cX0_leastPayments 8 = .ok (.aload_n 0, 1) := by decide +kernel
theorem dX0_leastPayments_9 : decode cX0_leastPayments 9 = .ok (.getfield 16, 3) := by decide +kernel
theorem dX0_leastPayments_12 : decode cX0_leastPayments 12 = .ok (.iload_n 1, 1) := by decide +kernel
theorem dX0_leastPayments_13 : decode cX0_leastPayments 13 = .ok (.aload_n 0, 1) := by decide +kernel
theorem dX0_leastPayments_14 : decode cX0_leastPayments 14 = .ok (.iload_n 1, 1) := by decide +kernel
theorem dX0_leastPayments_15 : decode cX0_leastPayments 15 = .ok (.invokevirtual 42, 3) := by decide +kernel
theorem dX0_leastPayments_18 : decode cX0_leastPayments 18 = .ok (.iastore, 1) := by decide +kernel
theorem dX0_leastPayments_19 : decode cX0_leastPayments 19 = .ok (.iinc 1 1, 3) := by decide +kernel
theorem dX0_leastPayments_22 : decode cX0_leastPayments 22 = .ok (.goto (-20), 3) := by decide +kernel
theorem dX0_leastPayments_25 : decode cX0_leastPayments 25 = .ok (.aload_n 0, 1) := by decide +kernel
theorem dX0_leastPayments_26 : decode cX0_leastPayments 26 = .ok (.getfield 20, 3) := by decide +kernel
theorem dX0_leastPayments_29 : decode cX0_leastPayments 29 = .ok (.iconst 0, 1) := by decide +kernel
theorem dX0_leastPayments_30 : decode cX0_leastPayments 30 = .ok (.iconst 0, 1) := by decide +kernel
theorem dX0_leastPayments_31 : decode cX0_leastPayments 31 = .ok (.iastore, 1) := by decide +kernel
theorem dX0_leastPayments_32 : decode cX0_leastPayments 32 = .ok (.iconst 1, 1) := by decide +kernel
theorem dX0_leastPayments_33 : decode cX0_leastPayments 33 = .ok (.istore_n 1, 1) := by decide +kernel
theorem dX0_leastPayments_34 : decode cX0_leastPayments 34 = .ok (.iload_n 1, 1) := by decide +kernel
theorem dX0_leastPayments_35 : decode cX0_leastPayments 35 = .ok (.aload_n 0, 1) := by decide +kernel
theorem dX0_leastPayments_36 : decode cX0_leastPayments 36 = .ok (.getfield 20, 3) := by decide +kernel
theorem dX0_leastPayments_39 : decode cX0_leastPayments 39 = .ok (.arraylength, 1) := by decide +kernel
theorem dX0_leastPayments_40 : decode cX0_leastPayments 40 = .ok (.if_icmp .ge 20, 3) := by decide +kernel
theorem dX0_leastPayments_43 : decode cX0_leastPayments 43 = .ok (.aload_n 0, 1) := by decide +kernel
theorem dX0_leastPayments_44 : decode cX0_leastPayments 44 = .ok (.getfield 20, 3) := by decide +kernel
theorem dX0_leastPayments_47 : decode cX0_leastPayments 47 = .ok (.iload_n 1, 1) := by decide +kernel
theorem dX0_leastPayments_48 : decode cX0_leastPayments 48 = .ok (.aload_n 0, 1) := by decide +kernel
theorem dX0_leastPayments_49 : decode cX0_leastPayments 49 = .ok (.iload_n 1, 1) := by decide +kernel
theorem dX0_leastPayments_50 : decode cX0_leastPayments 50 = .ok (.invokevirtual 50, 3) := by decide +kernel
theorem dX0_leastPayments_53 : decode cX0_leastPayments 53 = .ok (.iastore, 1) := by decide +kernel
theorem dX0_leastPayments_54 : decode cX0_leastPayments 54 = .ok (.iinc 1 1, 3) := by decide +kernel
theorem dX0_leastPayments_57 : decode cX0_leastPayments 57 = .ok (.goto (-23), 3) := by decide +kernel
theorem dX0_leastPayments_60 : decode cX0_leastPayments 60 = .ok (.bipush 6, 2) := by decide +kernel
theorem dX0_leastPayments_62 : decode cX0_leastPayments 62 = .ok (.aload_n 0, 1) := by decide +kernel
theorem dX0_leastPayments_63 : decode cX0_leastPayments 63 = .ok (.getfield 20, 3) := by decide +kernel
theorem dX0_leastPayments_66 : decode cX0_leastPayments 66 = .ok (.aload_n 0, 1) := by decide +kernel
theorem dX0_leastPayments_67 : decode cX0_leastPayments 67 = .ok (.getfield 20, 3) := by decide +kernel
theorem dX0_leastPayments_70 : decode cX0_leastPayments 70 = .ok (.arraylength, 1) := by decide +kernel
theorem dX0_leastPayments_71 : decode cX0_leastPayments 71 = .ok (.iconst 1, 1) := by decide +kernel
theorem dX0_leastPayments_72 : decode cX0_leastPayments 72 = .ok (.isub, 1) := by decide +kernel
theorem dX0_leastPayments_73 : decode cX0_leastPayments 73 = .ok (.iaload, 1) := by decide +kernel
theorem dX0_leastPayments_74 : decode cX0_leastPayments 74 = .ok (.isub, 1) := by decide +kernel
theorem dX0_leastPayments_75 : decode cX0_leastPayments 75 = .ok (.ireturn, 1) := by decide +kernel
theorem dX0_mostGroups_0 : decode cX0_mostGroups 0 = .ok (.iconst 0, 1) := by decide +kernel
theorem dX0_mostGroups_1 : decode cX0_mostGroups 1 = .ok (.istore_n 2, 1) := by decide +kernel
theorem dX0_mostGroups_2 : decode cX0_mostGroups 2 = .ok (.iconst 0, 1) := by decide +kernel
theorem dX0_mostGroups_3 : decode cX0_mostGroups 3 = .ok (.istore_n 3, 1) := by decide +kernel
theorem dX0_mostGroups_4 : decode cX0_mostGroups 4 = .ok (.iconst 0, 1) := by decide +kernel
theorem dX0_mostGroups_5 : decode cX0_mostGroups 5 = .ok (.istore 4, 2) := by decide +kernel
theorem dX0_mostGroups_7 : decode cX0_mostGroups 7 = .ok (.iload 4, 2) := by decide +kernel
theorem dX0_mostGroups_9 : decode cX0_mostGroups 9 = .ok (.bipush 6, 2) := by decide +kernel
theorem dX0_mostGroups_11 : decode cX0_mostGroups 11 = .ok (.if_icmp .ge 47, 3) := by decide +kernel
theorem dX0_mostGroups_14 : decode cX0_mostGroups 14 = .ok (.iload_n 1, 1) := by decide +kernel
theorem dX0_mostGroups_15 : decode cX0_mostGroups 15 = .ok (.iload 4, 2) := by decide +kernel
theorem dX0_mostGroups_17 : decode cX0_mostGroups 17 = .ok (.invokestatic 53, 3) := by decide +kernel
theorem dX0_mostGroups_20 : decode cX0_mostGroups 20 = .ok (.ifCond .eq 32, 3) := by decide +kernel
theorem dX0_mostGroups_23 : decode cX0_mostGroups 23 = .ok (.iload_n 2, 1) := by decide +kernel
theorem dX0_mostGroups_24 : decode cX0_mostGroups 24 = .ok (.aload_n 0, 1) := by decide +kernel
theorem dX0_mostGroups_25 : decode cX0_mostGroups 25 = .ok (.getfield 20, 3) := by decide +kernel
theorem dX0_mostGroups_28 : decode cX0_mostGroups 28 = .ok (.iload_n 1, 1) := by decide +kernel
theorem dX0_mostGroups_29 : decode cX0_mostGroups 29 = .ok (.iload 4, 2) := by decide +kernel
theorem dX0_mostGroups_31 : decode cX0_mostGroups 31 = .ok (.invokestatic 56, 3) := by decide +kernel
theorem dX0_mostGroups_34 : decode cX0_mostGroups 34 = .ok (.iconst (-1), 1) := by decide +kernel
theorem dX0_mostGroups_35 : decode cX0_mostGroups 35 = .ok (.ixor, 1) := by decide +kernel
theorem dX0_mostGroups_36 : decode cX0_mostGroups 36 = .ok (.iand, 1) := by decide +kernel
theorem dX0_mostGroups_37 : decode cX0_mostGroups 37 = .ok (.iaload, 1) := by decide +kernel
theorem dX0_mostGroups_38 : decode cX0_mostGroups 38 = .ok (.invokestatic 45, 3) := by decide +kernel
theorem dX0_mostGroups_41 : decode cX0_mostGroups 41 = .ok (.istore_n 2, 1) := by decide +kernel
theorem dX0_mostGroups_42 : decode cX0_mostGroups 42 = .ok (.iload_n 3, 1) := by decide +kernel
theorem dX0_mostGroups_43 : decode cX0_mostGroups 43 = .ok (.aload_n 0, 1) := by decide +kernel
theorem dX0_mostGroups_44 : decode cX0_mostGroups 44 = .ok (.getfield 16, 3) := by decide +kernel
theorem dX0_mostGroups_47 : decode cX0_mostGroups 47 = .ok (.iload 4, 2) := by decide +kernel
theorem dX0_mostGroups_49 : decode cX0_mostGroups 49 = .ok (.iaload, 1) := by decide +kernel
theorem dX0_mostGroups_50 : decode cX0_mostGroups 50 = .ok (.iadd, 1) := by decide +kernel
theorem dX0_mostGroups_51 : decode cX0_mostGroups 51 = .ok (.istore_n 3, 1) := by decide +kernel
theorem dX0_mostGroups_52 : decode cX0_mostGroups 52 = .ok (.iinc 4 1, 3) := by decide +kernel
theorem dX0_mostGroups_55 : decode cX0_mostGroups 55 = .ok (.goto (-48), 3) := by decide +kernel
theorem dX0_mostGroups_58 : decode cX0_mostGroups 58 = .ok (.iload_n 3, 1) := by decide +kernel
theorem dX0_mostGroups_59 : decode cX0_mostGroups 59 = .ok (.ifCond .ne 9, 3) := by decide +kernel
theorem dX0_mostGroups_62 : decode cX0_mostGroups 62 = .ok (.iload_n 2, 1) := by decide +kernel
theorem dX0_mostGroups_63 : decode cX0_mostGroups 63 = .ok (.iconst 1, 1) := by decide +kernel
theorem dX0_mostGroups_64 : decode cX0_mostGroups 64 = .ok (.iadd, 1) := by decide +kernel
theorem dX0_mostGroups_65 : decode cX0_mostGroups 65 = .ok (.goto 4, 3) := by decide +kernel
theorem dX0_mostGroups_68 : decode cX0_mostGroups 68 = .ok (.iload_n 2, 1) := by decide +kernel
theorem dX0_mostGroups_69 : decode cX0_mostGroups 69 = .ok (.ireturn, 1) := by decide +kernel
theorem dX1_init_0 : decode cX1_init 0 = .ok (.aload_n 0, 1) := by decide +kernel
theorem dX1_init_1 : decode cX1_init 1 = .ok (.iload_n 1, 1) := by decide +kernel
theorem dX1_init_2 : decode cX1_init 2 = .ok (.iload_n 2, 1) := by decide +kernel
theorem dX1_init_3 : decode cX1_init 3 = .ok (.iload_n 3, 1) := by decide +kernel
theorem dX1_init_4 : decode cX1_init 4 = .ok (.invokespecial 3, 3) := by decide +kernel
theorem dX1_init_7 : decode cX1_init 7 = .ok (.return_, 1) := by decide +kernel
theorem dX1_kind_0 : decode cX1_kind 0 = .ok (.iconst 2, 1) := by decide +kernel
theorem dX1_kind_1 : decode cX1_kind 1 = .ok (.ireturn, 1) := by decide +kernel
theorem dX1_telling_0 : decode cX1_telling 0 = .ok (.aload_n 1, 1) := by decide +kernel
theorem dX1_telling_1 : decode cX1_telling 1 = .ok (.iconst 3, 1) := by decide +kernel
theorem dX1_telling_2 : decode cX1_telling 2 = .ok (.invokevirtual 9, 3) := by decide +kernel
theorem dX1_telling_5 : decode cX1_telling 5 = .ok (.aload_n 0, 1) := by decide +kernel
theorem dX1_telling_6 : decode cX1_telling 6 = .ok (.aload_n 1, 1) := by decide +kernel
theorem dX1_telling_7 : decode cX1_telling 7 = .ok (.invokespecial 15, 3) := by decide +kernel
theorem dX1_telling_10 : decode cX1_telling 10 = .ok (.istore_n 2, 1) := by decide +kernel
theorem dX1_telling_11 : decode cX1_telling 11 = .ok (.iload_n 2, 1) := by decide +kernel
theorem dX1_telling_12 : decode cX1_telling 12 = .ok (.aload_n 0, 1) := by decide +kernel
theorem dX1_telling_13 : decode cX1_telling 13 = .ok (.aload_n 1, 1) := by decide +kernel
theorem dX1_telling_14 : decode cX1_telling 14 = .ok (.invokevirtual 19, 3) := by decide +kernel
theorem dX1_telling_17 : decode cX1_telling 17 = .ok (.iadd, 1) := by decide +kernel
theorem dX1_telling_18 : decode cX1_telling 18 = .ok (.ireturn, 1) := by decide +kernel
theorem dX1_heardAs_0 : decode cX1_heardAs 0 = .ok (.aload_n 1, 1) := by decide +kernel
theorem dX1_heardAs_1 : decode cX1_heardAs 1 = .ok (.iconst 5, 1) := by decide +kernel
theorem dX1_heardAs_2 : decode cX1_heardAs 2 = .ok (.invokevirtual 9, 3) := by decide +kernel
theorem dX1_heardAs_5 : decode cX1_heardAs 5 = .ok (.bipush 20, 2) := by decide +kernel
theorem dX1_heardAs_7 : decode cX1_heardAs 7 = .ok (.ireturn, 1) := by decide +kernel
theorem dX2_init_0 : decode cX2_init 0 = .ok (.aload_n 0, 1) := by decide +kernel
theorem dX2_init_1 : decode cX2_init 1 = .ok (.invokespecial 3, 3) := by decide +kernel
theorem dX2_init_4 : decode cX2_init 4 = .ok (.aload_n 0, 1) := by decide +kernel
theorem dX2_init_5 : decode cX2_init 5 = .ok (.bipush 6, 2) := by decide +kernel
theorem dX2_init_7 : decode cX2_init 7 = .ok (.newarray .int, 2) := by decide +kernel
theorem dX2_init_9 : decode cX2_init 9 = .ok (.putfield 9, 3) := by decide +kernel
theorem dX2_init_12 : decode cX2_init 12 = .ok (.aload_n 0, 1) := by decide +kernel
theorem dX2_init_13 : decode cX2_init 13 = .ok (.bipush 6, 2) := by decide +kernel
theorem dX2_init_15 : decode cX2_init 15 = .ok (.newarray .int, 2) := by decide +kernel
theorem dX2_init_17 : decode cX2_init 17 = .ok (.putfield 15, 3) := by decide +kernel
theorem dX2_init_20 : decode cX2_init 20 = .ok (.return_, 1) := by decide +kernel
theorem dX2_letDown_0 : decode cX2_letDown 0 = .ok (.aload_n 0, 1) := by decide +kernel
theorem dX2_letDown_1 : decode cX2_letDown 1 = .ok (.iconst 0, 1) := by decide +kernel
theorem dX2_letDown_2 : decode cX2_letDown 2 = .ok (.putfield 18, 3) := by decide +kernel
theorem dX2_letDown_5 : decode cX2_letDown 5 = .ok (.aload_n 0, 1) := by decide +kernel
theorem dX2_letDown_6 : decode cX2_letDown 6 = .ok (.bipush (-9), 2) := by decide +kernel
theorem dX2_letDown_8 : decode cX2_letDown 8 = .ok (.putfield 22, 3) := by decide +kernel
theorem dX2_letDown_11 : decode cX2_letDown 11 = .ok (.aload_n 0, 1) := by decide +kernel
theorem dX2_letDown_12 : decode cX2_letDown 12 = .ok (.bipush (-9), 2) := by decide +kernel
theorem dX2_letDown_14 : decode cX2_letDown 14 = .ok (.putfield 25, 3) := by decide +kernel
theorem dX2_letDown_17 : decode cX2_letDown 17 = .ok (.iconst 1, 1) := by decide +kernel
theorem dX2_letDown_18 : decode cX2_letDown 18 = .ok (.istore_n 3, 1) := by decide +kernel
theorem dX2_letDown_19 : decode cX2_letDown 19 = .ok (.iconst 0, 1) := by decide +kernel
theorem dX2_letDown_20 : decode cX2_letDown 20 = .ok (.istore 4, 2) := by decide +kernel
theorem dX2_letDown_22 : decode cX2_letDown 22 = .ok (.iload 4, 2) := by decide +kernel
theorem dX2_letDown_24 : decode cX2_letDown 24 = .ok (.bipush 18, 2) := by decide +kernel
theorem dX2_letDown_26 : decode cX2_letDown 26 = .ok (.if_icmp .gt 20, 3) := by decide +kernel
theorem dX2_letDown_29 : decode cX2_letDown 29 = .ok (.iload_n 3, 1) := by decide +kernel
theorem dX2_letDown_30 : decode cX2_letDown 30 = .ok (.ifCond .eq 16, 3) := by decide +kernel
theorem dX2_letDown_33 : decode cX2_letDown 33 = .ok (.aload_n 0, 1) := by decide +kernel
theorem dX2_letDown_34 : decode cX2_letDown 34 = .ok (.aload_n 1, 1) := by decide +kernel
theorem dX2_letDown_35 : decode cX2_letDown 35 = .ok (.iload_n 2, 1) := by decide +kernel
theorem dX2_letDown_36 : decode cX2_letDown 36 = .ok (.invokevirtual 28, 3) := by decide +kernel
theorem dX2_letDown_39 : decode cX2_letDown 39 = .ok (.istore_n 3, 1) := by decide +kernel
theorem dX2_letDown_40 : decode cX2_letDown 40 = .ok (.iinc 4 1, 3) := by decide +kernel
theorem dX2_letDown_43 : decode cX2_letDown 43 = .ok (.goto (-21), 3) := by decide +kernel
theorem dX2_letDown_46 : decode cX2_letDown 46 = .ok (.aload_n 0, 1) := by decide +kernel
theorem dX2_letDown_47 : decode cX2_letDown 47 = .ok (.getfield 22, 3) := by decide +kernel
theorem dX2_letDown_50 : decode cX2_letDown 50 = .ok (.bipush (-9), 2) := by decide +kernel
theorem dX2_letDown_52 : decode cX2_letDown 52 = .ok (.if_icmp .ne 10, 3) := by decide +kernel
theorem dX2_letDown_55 : decode cX2_letDown 55 = .ok (.iload_n 2, 1) := by decide +kernel
theorem dX2_letDown_56 : decode cX2_letDown 56 = .ok (.invokestatic 32, 3) := by decide +kernel
theorem dX2_letDown_59 : decode cX2_letDown 59 = .ok (.goto 7, 3) := by decide +kernel
theorem dX2_letDown_62 : decode cX2_letDown 62 = .ok (.aload_n 0, 1) := by decide +kernel
theorem dX2_letDown_63 : decode cX2_letDown 63 = .ok (.getfield 22, 3) := by decide +kernel
theorem dX2_letDown_66 : decode cX2_letDown 66 = .ok (.ireturn, 1) := by decide +kernel
theorem dX2_goesRound_0 : decode cX2_goesRound 0 = .ok (.iconst 0, 1) := by decide +kernel
theorem dX2_goesRound_1 : decode cX2_goesRound 1 = .ok (.istore_n 3, 1) := by decide +kernel
theorem dX2_goesRound_2 : decode cX2_goesRound 2 = .ok (.iconst 0, 1) := by decide +kernel
theorem dX2_goesRound_3 : decode cX2_goesRound 3 = .ok (.istore 4, 2) := by decide +kernel
theorem dX2_goesRound_5 : decode cX2_goesRound 5 = .ok (.iload 4, 2) := by decide +kernel
theorem dX2_goesRound_7 : decode cX2_goesRound 7 = .ok (.aload_n 1, 1) := by decide +kernel
theorem dX2_goesRound_8 : decode cX2_goesRound 8 = .ok (.arraylength, 1) := by decide +kernel
theorem dX2_goesRound_9 : decode cX2_goesRound 9 = .ok (.if_icmp .ge 64, 3) := by decide +kernel
theorem dX2_goesRound_12 : decode cX2_goesRound 12 = .ok (.iload 4, 2) := by decide +kernel
theorem dX2_goesRound_14 : decode cX2_goesRound 14 = .ok (.aload_n 0, 1) := by decide +kernel
theorem dX2_goesRound_15 : decode cX2_goesRound 15 = .ok (.getfield 22, 3) := by decide +kernel
theorem dX2_goesRound_18 : decode cX2_goesRound 18 = .ok (.if_icmp .eq 49, 3) := by decide +kernel
theorem dX2_goesRound_21 : decode cX2_goesRound 21 = .ok (.iload_n 2, 1) := by decide +kernel
theorem dX2_goesRound_22 : decode cX2_goesRound 22 = .ok (.iload 4, 2) := by decide +kernel
theorem dX2_goesRound_24 : decode cX2_goesRound 24 = .ok (.invokestatic 36, 3) := by decide +kernel
theorem dX2_goesRound_27 : decode cX2_goesRound 27 = .ok (.ifCond .eq 40, 3) := by decide +kernel
theorem dX2_goesRound_30 : decode cX2_goesRound 30 = .ok (.aload_n 1, 1) := by decide +kernel
theorem dX2_goesRound_31 : decode cX2_goesRound 31 = .ok (.iload 4, 2) := by decide +kernel
theorem dX2_goesRound_33 : decode cX2_goesRound 33 = .ok (.iaload, 1) := by decide +kernel
theorem dX2_goesRound_34 : decode cX2_goesRound 34 = .ok (.aload_n 0, 1) := by decide +kernel
theorem dX2_goesRound_35 : decode cX2_goesRound 35 = .ok (.getfield 18, 3) := by decide +kernel
theorem dX2_goesRound_38 : decode cX2_goesRound 38 = .ok (.if_icmp .le 29, 3) := by decide +kernel
theorem dX2_goesRound_41 : decode cX2_goesRound 41 = .ok (.aload_n 0, 1) := by decide +kernel
theorem dX2_goesRound_42 : decode cX2_goesRound 42 = .ok (.dup, 1) := by decide +kernel
theorem dX2_goesRound_43 : decode cX2_goesRound 43 = .ok (.getfield 18, 3) := by decide +kernel
theorem dX2_goesRound_46 : decode cX2_goesRound 46 = .ok (.iconst 1, 1) := by decide +kernel
theorem dX2_goesRound_47 : decode cX2_goesRound 47 = .ok (.iadd, 1) := by decide +kernel
theorem dX2_goesRound_48 : decode cX2_goesRound 48 = .ok (.putfield 18, 3) := by decide +kernel
theorem dX2_goesRound_51 : decode cX2_goesRound 51 = .ok (.aload_n 0, 1) := by decide +kernel
theorem dX2_goesRound_52 : decode cX2_goesRound 52 = .ok (.aload_n 0, 1) := by decide +kernel
theorem dX2_goesRound_53 : decode cX2_goesRound 53 = .ok (.getfield 22, 3) := by decide +kernel
theorem dX2_goesRound_56 : decode cX2_goesRound 56 = .ok (.putfield 25, 3) := by decide +kernel
theorem dX2_goesRound_59 : decode cX2_goesRound 59 = .ok (.aload_n 0, 1) := by decide +kernel
theorem dX2_goesRound_60 : decode cX2_goesRound 60 = .ok (.iload 4, 2) := by decide +kernel
theorem dX2_goesRound_62 : decode cX2_goesRound 62 = .ok (.putfield 22, 3) := by decide +kernel
theorem dX2_goesRound_65 : decode cX2_goesRound 65 = .ok (.iconst 1, 1) := by decide +kernel
theorem dX2_goesRound_66 : decode cX2_goesRound 66 = .ok (.istore_n 3, 1) := by decide +kernel
theorem dX2_goesRound_67 : decode cX2_goesRound 67 = .ok (.iinc 4 1, 3) := by decide +kernel
theorem dX2_goesRound_70 : decode cX2_goesRound 70 = .ok (.goto (-65), 3) := by decide +kernel
theorem dX2_goesRound_73 : decode cX2_goesRound 73 = .ok (.iload_n 3, 1) := by decide +kernel
theorem dX2_goesRound_74 : decode cX2_goesRound 74 = .ok (.ireturn, 1) := by decide +kernel
theorem dX2_leastOf_0 : decode cX2_leastOf 0 = .ok (.iconst 0, 1) := by decide +kernel
theorem dX2_leastOf_1 : decode cX2_leastOf 1 = .ok (.istore_n 1, 1) := by decide +kernel
theorem dX2_leastOf_2 : decode cX2_leastOf 2 = .ok (.iload_n 1, 1) := by decide +kernel
theorem dX2_leastOf_3 : decode cX2_leastOf 3 = .ok (.bipush 6, 2) := by decide +kernel
theorem dX2_leastOf_5 : decode cX2_leastOf 5 = .ok (.if_icmp .ge 19, 3) := by decide +kernel
theorem dX2_leastOf_8 : decode cX2_leastOf 8 = .ok (.iload_n 0, 1) := by decide +kernel
theorem dX2_leastOf_9 : decode cX2_leastOf 9 = .ok (.iload_n 1, 1) := by decide +kernel
theorem dX2_leastOf_10 : decode cX2_leastOf 10 = .ok (.invokestatic 36, 3) := by decide +kernel
theorem dX2_leastOf_13 : decode cX2_leastOf 13 = .ok (.ifCond .eq 5, 3) := by decide +kernel
theorem dX2_leastOf_16 : decode cX2_leastOf 16 = .ok (.iload_n 1, 1) := by decide +kernel
theorem dX2_leastOf_17 : decode cX2_leastOf 17 = .ok (.ireturn, 1) := by decide +kernel
theorem dX2_leastOf_18 : decode cX2_leastOf 18 = .ok (.iinc 1 1, 3) := by decide +kernel
theorem dX2_leastOf_21 : decode cX2_leastOf 21 = .ok (.goto (-19), 3) := by decide +kernel
theorem dX2_leastOf_24 : decode cX2_leastOf 24 = .ok (.bipush (-9), 2) := by decide +kernel
theorem dX2_leastOf_26 : decode cX2_leastOf 26 = .ok (.ireturn, 1) := by decide +kernel
theorem dX2_goThroughAll_0 : decode cX2_goThroughAll 0 = .ok (.iload_n 2, 1) := by decide +kernel
theorem dX2_goThroughAll_1 : decode cX2_goThroughAll 1 = .ok (.istore_n 3, 1) := by decide +kernel
theorem dX2_goThroughAll_2 : decode cX2_goThroughAll 2 = .ok (.iconst 0, 1) := by decide +kernel
theorem dX2_goThroughAll_3 : decode cX2_goThroughAll 3 = .ok (.istore 4, 2) := by decide +kernel
theorem dX2_goThroughAll_5 : decode cX2_goThroughAll 5 = .ok (.iconst 0, 1) := by decide +kernel
theorem dX2_goThroughAll_6 : decode cX2_goThroughAll 6 = .ok (.istore 5, 2) := by decide +kernel
theorem dX2_goThroughAll_8 : decode cX2_goThroughAll 8 = .ok (.iload 5, 2) := by decide +kernel
theorem dX2_goThroughAll_10 : decode cX2_goThroughAll 10 = .ok (.bipush 6, 2) := by decide +kernel
theorem dX2_goThroughAll_12 : decode cX2_goThroughAll 12 = .ok (.if_icmp .ge 54, 3) := by decide +kernel
theorem dX2_goThroughAll_15 : decode cX2_goThroughAll 15 = .ok (.iload_n 3, 1) := by decide +kernel
theorem dX2_goThroughAll_16 : decode cX2_goThroughAll 16 = .ok (.ifCond .eq 50, 3) := by decide +kernel
theorem dX2_goThroughAll_19 : decode cX2_goThroughAll 19 = .ok (.aload_n 0, 1) := by decide +kernel
theorem dX2_goThroughAll_20 : decode cX2_goThroughAll 20 = .ok (.aload_n 1, 1) := by decide +kernel
theorem dX2_goThroughAll_21 : decode cX2_goThroughAll 21 = .ok (.iload_n 3, 1) := by decide +kernel
theorem dX2_goThroughAll_22 : decode cX2_goThroughAll 22 = .ok (.invokevirtual 40, 3) := by decide +kernel
theorem dX2_goThroughAll_25 : decode cX2_goThroughAll 25 = .ok (.istore 6, 2) := by decide +kernel
theorem dX2_goThroughAll_27 : decode cX2_goThroughAll 27 = .ok (.aload_n 0, 1) := by decide +kernel
theorem dX2_goThroughAll_28 : decode cX2_goThroughAll 28 = .ok (.getfield 9, 3) := by decide +kernel
theorem dX2_goThroughAll_31 : decode cX2_goThroughAll 31 = .ok (.iload 5, 2) := by decide +kernel
theorem dX2_goThroughAll_33 : decode cX2_goThroughAll 33 = .ok (.iload 6, 2) := by decide +kernel
theorem dX2_goThroughAll_35 : decode cX2_goThroughAll 35 = .ok (.iastore, 1) := by decide +kernel
theorem dX2_goThroughAll_36 : decode cX2_goThroughAll 36 = .ok (.aload_n 0, 1) := by decide +kernel
theorem dX2_goThroughAll_37 : decode cX2_goThroughAll 37 = .ok (.getfield 15, 3) := by decide +kernel
theorem dX2_goThroughAll_40 : decode cX2_goThroughAll 40 = .ok (.iload 5, 2) := by decide +kernel
theorem dX2_goThroughAll_42 : decode cX2_goThroughAll 42 = .ok (.aload_n 0, 1) := by decide +kernel
theorem dX2_goThroughAll_43 : decode cX2_goThroughAll 43 = .ok (.getfield 18, 3) := by decide +kernel
theorem dX2_goThroughAll_46 : decode cX2_goThroughAll 46 = .ok (.iastore, 1) := by decide +kernel
theorem dX2_goThroughAll_47 : decode cX2_goThroughAll 47 = .ok (.iload_n 3, 1) := by decide +kernel
theorem dX2_goThroughAll_48 : decode cX2_goThroughAll 48 = .ok (.iload 6, 2) := by decide +kernel
theorem dX2_goThroughAll_50 : decode cX2_goThroughAll 50 = .ok (.invokestatic 44, 3) := by decide +kernel
theorem dX2_goThroughAll_53 : decode cX2_goThroughAll 53 = .ok (.iconst (-1), 1) := by decide +kernel
theorem dX2_goThroughAll_54 : decode cX2_goThroughAll 54 = .ok (.ixor, 1) := by decide +kernel
theorem dX2_goThroughAll_55 : decode cX2_goThroughAll 55 = .ok (.iand, 1) := by decide +kernel
theorem dX2_goThroughAll_56 : decode cX2_goThroughAll 56 = .ok (.istore_n 3, 1) := by decide +kernel
theorem dX2_goThroughAll_57 : decode cX2_goThroughAll 57 = .ok (.iinc 4 1, 3) := by decide +kernel
theorem dX2_goThroughAll_60 : decode cX2_goThroughAll 60 = .ok (.iinc 5 1, 3) := by decide +kernel
theorem dX2_goThroughAll_63 : decode cX2_goThroughAll 63 = .ok (.goto (-55), 3) := by decide +kernel
theorem dX2_goThroughAll_66 : decode cX2_goThroughAll 66 = .ok (.iload 4, 2) := by decide +kernel
theorem dX2_goThroughAll_68 : decode cX2_goThroughAll 68 = .ok (.ireturn, 1) := by decide +kernel
theorem dX2_placeOf_0 : decode cX2_placeOf 0 = .ok (.aload_n 0, 1) := by decide +kernel
theorem dX2_placeOf_1 : decode cX2_placeOf 1 = .ok (.aload_n 2, 1) := by decide +kernel
theorem dX2_placeOf_2 : decode cX2_placeOf 2 = .ok (.iload_n 3, 1) := by decide +kernel
theorem dX2_placeOf_3 : decode cX2_placeOf 3 = .ok (.invokevirtual 47, 3) := by decide +kernel
theorem dX2_placeOf_6 : decode cX2_placeOf 6 = .ok (.istore 4, 2) := by decide +kernel
theorem dX2_placeOf_8 : decode cX2_placeOf 8 = .ok (.iconst 0, 1) := by decide +kernel
theorem dX2_placeOf_9 : decode cX2_placeOf 9 = .ok (.istore 5, 2) := by decide +kernel
theorem dX2_placeOf_11 : decode cX2_placeOf 11 = .ok (.iload 5, 2) := by decide +kernel
theorem dX2_placeOf_13 : decode cX2_placeOf 13 = .ok (.iload 4, 2) := by decide +kernel
theorem dX2_placeOf_15 : decode cX2_placeOf 15 = .ok (.if_icmp .ge 23, 3) := by decide +kernel
theorem dX2_placeOf_18 : decode cX2_placeOf 18 = .ok (.aload_n 0, 1) := by decide +kernel
theorem dX2_placeOf_19 : decode cX2_placeOf 19 = .ok (.getfield 9, 3) := by decide +kernel
theorem dX2_placeOf_22 : decode cX2_placeOf 22 = .ok (.iload 5, 2) := by decide +kernel
theorem dX2_placeOf_24 : decode cX2_placeOf 24 = .ok (.iaload, 1) := by decide +kernel
theorem dX2_placeOf_25 : decode cX2_placeOf 25 = .ok (.iload_n 1, 1) := by decide +kernel
theorem dX2_placeOf_26 : decode cX2_placeOf 26 = .ok (.if_icmp .ne 6, 3) := by decide +kernel
theorem dX2_placeOf_29 : decode cX2_placeOf 29 = .ok (.iload 5, 2) := by decide +kernel
theorem dX2_placeOf_31 : decode cX2_placeOf 31 = .ok (.ireturn, 1) := by decide +kernel
theorem dX2_placeOf_32 : decode cX2_placeOf 32 = .ok (.iinc 5 1, 3) := by decide +kernel
theorem dX2_placeOf_35 : decode cX2_placeOf 35 = .ok (.goto (-24), 3) := by decide +kernel
theorem dX2_placeOf_38 : decode cX2_placeOf 38 = .ok (.bipush 6, 2) := by decide +kernel
theorem dX2_placeOf_40 : decode cX2_placeOf 40 = .ok (.ireturn, 1) := by decide +kernel
theorem dX3_init_0 : decode cX3_init 0 = .ok (.aload_n 0, 1) := by decide +kernel
theorem dX3_init_1 : decode cX3_init 1 = .ok (.invokespecial 3, 3) := by decide +kernel
theorem dX3_init_4 : decode cX3_init 4 = .ok (.aload_n 0, 1) := by decide +kernel
theorem dX3_init_5 : decode cX3_init 5 = .ok (.iload_n 1, 1) := by decide +kernel
theorem dX3_init_6 : decode cX3_init 6 = .ok (.putfield 9, 3) := by decide +kernel
theorem dX3_init_9 : decode cX3_init 9 = .ok (.aload_n 0, 1) := by decide +kernel
theorem dX3_init_10 : decode cX3_init 10 = .ok (.iload_n 2, 1) := by decide +kernel
theorem dX3_init_11 : decode cX3_init 11 = .ok (.putfield 15, 3) := by decide +kernel
theorem dX3_init_14 : decode cX3_init 14 = .ok (.aload_n 0, 1) := by decide +kernel
theorem dX3_init_15 : decode cX3_init 15 = .ok (.iload_n 3, 1) := by decide +kernel
theorem dX3_init_16 : decode cX3_init 16 = .ok (.putfield 18, 3) := by decide +kernel
theorem dX3_init_19 : decode cX3_init 19 = .ok (.return_, 1) := by decide +kernel
theorem dX3_kind_0 : decode cX3_kind 0 = .ok (.iconst 0, 1) := by decide +kernel
theorem dX3_kind_1 : decode cX3_kind 1 = .ok (.ireturn, 1) := by decide +kernel
theorem dX3_telling_0 : decode cX3_telling 0 = .ok (.aload_n 0, 1) := by decide +kernel
theorem dX3_telling_1 : decode cX3_telling 1 = .ok (.aload_n 1, 1) := by decide +kernel
theorem dX3_telling_2 : decode cX3_telling 2 = .ok (.invokevirtual 21, 3) := by decide +kernel
theorem dX3_telling_5 : decode cX3_telling 5 = .ok (.ireturn, 1) := by decide +kernel
theorem dX3_plainTelling_0 : decode cX3_plainTelling 0 = .ok (.aload_n 1, 1) := by decide +kernel
theorem dX3_plainTelling_1 : decode cX3_plainTelling 1 = .ok (.iconst 1, 1) := by decide +kernel
theorem dX3_plainTelling_2 : decode cX3_plainTelling 2 = .ok (.invokevirtual 25, 3) := by decide +kernel
theorem dX3_plainTelling_5 : decode cX3_plainTelling 5 = .ok (.aload_n 0, 1) := by decide +kernel
theorem dX3_plainTelling_6 : decode cX3_plainTelling 6 = .ok (.getfield 15, 3) := by decide +kernel
theorem dX3_plainTelling_9 : decode cX3_plainTelling 9 = .ok (.ireturn, 1) := by decide +kernel
theorem dX3_heardAs_0 : decode cX3_heardAs 0 = .ok (.aload_n 1, 1) := by decide +kernel
theorem dX3_heardAs_1 : decode cX3_heardAs 1 = .ok (.iconst 4, 1) := by decide +kernel
theorem dX3_heardAs_2 : decode cX3_heardAs 2 = .ok (.invokevirtual 25, 3) := by decide +kernel
theorem dX3_heardAs_5 : decode cX3_heardAs 5 = .ok (.aload_n 0, 1) := by decide +kernel
theorem dX3_heardAs_6 : decode cX3_heardAs 6 = .ok (.getfield 9, 3) := by decide +kernel
theorem dX3_heardAs_9 : decode cX3_heardAs 9 = .ok (.ireturn, 1) := by decide +kernel
theorem dX4_init_0 : decode cX4_init 0 = .ok (.aload_n 0, 1) := by decide +kernel
theorem dX4_init_1 : decode cX4_init 1 = .ok (.iload_n 1, 1) := by decide +kernel
theorem dX4_init_2 : decode cX4_init 2 = .ok (.iload_n 2, 1) := by decide +kernel
theorem dX4_init_3 : decode cX4_init 3 = .ok (.iload_n 3, 1) := by decide +kernel
theorem dX4_init_4 : decode cX4_init 4 = .ok (.invokespecial 3, 3) := by decide +kernel
theorem dX4_init_7 : decode cX4_init 7 = .ok (.return_, 1) := by decide +kernel
theorem dX4_kind_0 : decode cX4_kind 0 = .ok (.iconst 1, 1) := by decide +kernel
theorem dX4_kind_1 : decode cX4_kind 1 = .ok (.ireturn, 1) := by decide +kernel
theorem dX4_telling_0 : decode cX4_telling 0 = .ok (.aload_n 1, 1) := by decide +kernel
theorem dX4_telling_1 : decode cX4_telling 1 = .ok (.iconst 2, 1) := by decide +kernel
theorem dX4_telling_2 : decode cX4_telling 2 = .ok (.invokevirtual 9, 3) := by decide +kernel
theorem dX4_telling_5 : decode cX4_telling 5 = .ok (.aload_n 0, 1) := by decide +kernel
theorem dX4_telling_6 : decode cX4_telling 6 = .ok (.aload_n 1, 1) := by decide +kernel
theorem dX4_telling_7 : decode cX4_telling 7 = .ok (.invokevirtual 15, 3) := by decide +kernel
theorem dX4_telling_10 : decode cX4_telling 10 = .ok (.bipush 100, 2) := by decide +kernel
theorem dX4_telling_12 : decode cX4_telling 12 = .ok (.iadd, 1) := by decide +kernel
theorem dX4_telling_13 : decode cX4_telling 13 = .ok (.ireturn, 1) := by decide +kernel
theorem dX5_init_0 : decode cX5_init 0 = .ok (.aload_n 0, 1) := by decide +kernel
theorem dX5_init_1 : decode cX5_init 1 = .ok (.invokespecial 3, 3) := by decide +kernel
theorem dX5_init_4 : decode cX5_init 4 = .ok (.aload_n 0, 1) := by decide +kernel
theorem dX5_init_5 : decode cX5_init 5 = .ok (.bipush 8, 2) := by decide +kernel
theorem dX5_init_7 : decode cX5_init 7 = .ok (.newarray .int, 2) := by decide +kernel
theorem dX5_init_9 : decode cX5_init 9 = .ok (.putfield 9, 3) := by decide +kernel
theorem dX5_init_12 : decode cX5_init 12 = .ok (.aload_n 0, 1) := by decide +kernel
theorem dX5_init_13 : decode cX5_init 13 = .ok (.bipush 8, 2) := by decide +kernel
theorem dX5_init_15 : decode cX5_init 15 = .ok (.newarray .int, 2) := by decide +kernel
theorem dX5_init_17 : decode cX5_init 17 = .ok (.putfield 15, 3) := by decide +kernel
theorem dX5_init_20 : decode cX5_init 20 = .ok (.aload_n 0, 1) := by decide +kernel
theorem dX5_init_21 : decode cX5_init 21 = .ok (.bipush 8, 2) := by decide +kernel
theorem dX5_init_23 : decode cX5_init 23 = .ok (.newarray .boolean, 2) := by decide +kernel
theorem dX5_init_25 : decode cX5_init 25 = .ok (.putfield 18, 3) := by decide +kernel
theorem dX5_init_28 : decode cX5_init 28 = .ok (.return_, 1) := by decide +kernel
theorem dX5_add_0 : decode cX5_add 0 = .ok (.aload_n 0, 1) := by decide +kernel
theorem dX5_add_1 : decode cX5_add 1 = .ok (.getfield 22, 3) := by decide +kernel
theorem dX5_add_4 : decode cX5_add 4 = .ok (.iconst 0, 1) := by decide +kernel
theorem dX5_add_5 : decode cX5_add 5 = .ok (.bipush 7, 2) := by decide +kernel
theorem dX5_add_7 : decode cX5_add 7 = .ok (.invokestatic 26, 3) := by decide +kernel
theorem dX5_add_10 : decode cX5_add 10 = .ok (.ifCond .ne 6, 3) := by decide +kernel
theorem dX5_add_13 : decode cX5_add 13 = .ok (.bipush (-4), 2) := by decide +kernel
theorem dX5_add_15 : decode cX5_add 15 = .ok (.ireturn, 1) := by decide +kernel
theorem dX5_add_16 : decode cX5_add 16 = .ok (.aload_n 0, 1) := by decide +kernel
theorem dX5_add_17 : decode cX5_add 17 = .ok (.getfield 9, 3) := by decide +kernel
theorem dX5_add_20 : decode cX5_add 20 = .ok (.aload_n 0, 1) := by decide +kernel
theorem dX5_add_21 : decode cX5_add 21 = .ok (.getfield 22, 3) := by decide +kernel
theorem dX5_add_24 : decode cX5_add 24 = .ok (.iload_n 1, 1) := by decide +kernel
theorem dX5_add_25 : decode cX5_add 25 = .ok (.iastore, 1) := by decide +kernel
theorem dX5_add_26 : decode cX5_add 26 = .ok (.aload_n 0, 1) := by decide +kernel
theorem dX5_add_27 : decode cX5_add 27 = .ok (.getfield 15, 3) := by decide +kernel
theorem dX5_add_30 : decode cX5_add 30 = .ok (.aload_n 0, 1) := by decide +kernel
theorem dX5_add_31 : decode cX5_add 31 = .ok (.getfield 22, 3) := by decide +kernel
theorem dX5_add_34 : decode cX5_add 34 = .ok (.iload_n 2, 1) := by decide +kernel
theorem dX5_add_35 : decode cX5_add 35 = .ok (.iastore, 1) := by decide +kernel
theorem dX5_add_36 : decode cX5_add 36 = .ok (.aload_n 0, 1) := by decide +kernel
theorem dX5_add_37 : decode cX5_add 37 = .ok (.getfield 18, 3) := by decide +kernel
theorem dX5_add_40 : decode cX5_add 40 = .ok (.aload_n 0, 1) := by decide +kernel
theorem dX5_add_41 : decode cX5_add 41 = .ok (.getfield 22, 3) := by decide +kernel
theorem dX5_add_44 : decode cX5_add 44 = .ok (.iload_n 3, 1) := by decide +kernel
theorem dX5_add_45 : decode cX5_add 45 = .ok (.bastore, 1) := by decide +kernel
theorem dX5_add_46 : decode cX5_add 46 = .ok (.aload_n 0, 1) := by decide +kernel
theorem dX5_add_47 : decode cX5_add 47 = .ok (.dup, 1) := by decide +kernel
theorem dX5_add_48 : decode cX5_add 48 = .ok (.getfield 22, 3) := by decide +kernel
theorem dX5_add_51 : decode cX5_add 51 = .ok (.iconst 1, 1) := by decide +kernel
theorem dX5_add_52 : decode cX5_add 52 = .ok (.iadd, 1) := by decide +kernel
theorem dX5_add_53 : decode cX5_add 53 = .ok (.putfield 22, 3) := by decide +kernel
theorem dX5_add_56 : decode cX5_add 56 = .ok (.aload_n 0, 1) := by decide +kernel
theorem dX5_add_57 : decode cX5_add 57 = .ok (.getfield 22, 3) := by decide +kernel
theorem dX5_add_60 : decode cX5_add 60 = .ok (.iconst 1, 1) := by decide +kernel
theorem dX5_add_61 : decode cX5_add 61 = .ok (.isub, 1) := by decide +kernel
theorem dX5_add_62 : decode cX5_add 62 = .ok (.ireturn, 1) := by decide +kernel
theorem dX5_areSo_0 : decode cX5_areSo 0 = .ok (.iconst 0, 1) := by decide +kernel
theorem dX5_areSo_1 : decode cX5_areSo 1 = .ok (.istore_n 2, 1) := by decide +kernel
theorem dX5_areSo_2 : decode cX5_areSo 2 = .ok (.iload_n 2, 1) := by decide +kernel
theorem dX5_areSo_3 : decode cX5_areSo 3 = .ok (.aload_n 0, 1) := by decide +kernel
theorem dX5_areSo_4 : decode cX5_areSo 4 = .ok (.getfield 22, 3) := by decide +kernel
theorem dX5_areSo_7 : decode cX5_areSo 7 = .ok (.if_icmp .ge 42, 3) := by decide +kernel
theorem dX5_areSo_10 : decode cX5_areSo 10 = .ok (.aload_n 1, 1) := by decide +kernel
theorem dX5_areSo_11 : decode cX5_areSo 11 = .ok (.aload_n 0, 1) := by decide +kernel
theorem dX5_areSo_12 : decode cX5_areSo 12 = .ok (.getfield 9, 3) := by decide +kernel
theorem dX5_areSo_15 : decode cX5_areSo 15 = .ok (.iload_n 2, 1) := by decide +kernel
theorem dX5_areSo_16 : decode cX5_areSo 16 = .ok (.iaload, 1) := by decide +kernel
theorem dX5_areSo_17 : decode cX5_areSo 17 = .ok (.iaload, 1) := by decide +kernel
theorem dX5_areSo_18 : decode cX5_areSo 18 = .ok (.aload_n 0, 1) := by decide +kernel
theorem dX5_areSo_19 : decode cX5_areSo 19 = .ok (.getfield 15, 3) := by decide +kernel
theorem dX5_areSo_22 : decode cX5_areSo 22 = .ok (.iload_n 2, 1) := by decide +kernel
theorem dX5_areSo_23 : decode cX5_areSo 23 = .ok (.iaload, 1) := by decide +kernel
theorem dX5_areSo_24 : decode cX5_areSo 24 = .ok (.if_icmp .le 7, 3) := by decide +kernel
theorem dX5_areSo_27 : decode cX5_areSo 27 = .ok (.iconst 1, 1) := by decide +kernel
theorem dX5_areSo_28 : decode cX5_areSo 28 = .ok (.goto 4, 3) := by decide +kernel
theorem dX5_areSo_31 : decode cX5_areSo 31 = .ok (.iconst 0, 1) := by decide +kernel
theorem dX5_areSo_32 : decode cX5_areSo 32 = .ok (.aload_n 0, 1) := by decide +kernel
theorem dX5_areSo_33 : decode cX5_areSo 33 = .ok (.getfield 18, 3) := by decide +kernel
theorem dX5_areSo_36 : decode cX5_areSo 36 = .ok (.iload_n 2, 1) := by decide +kernel
theorem dX5_areSo_37 : decode cX5_areSo 37 = .ok (.baload, 1) := by decide +kernel
theorem dX5_areSo_38 : decode cX5_areSo 38 = .ok (.if_icmp .eq 5, 3) := by decide +kernel
theorem dX5_areSo_41 : decode cX5_areSo 41 = .ok (.iconst 0, 1) := by decide +kernel
theorem dX5_areSo_42 : decode cX5_areSo 42 = .ok (.ireturn, 1) := by decide +kernel
theorem dX5_areSo_43 : decode cX5_areSo 43 = .ok (.iinc 2 1, 3) := by decide +kernel
theorem dX5_areSo_46 : decode cX5_areSo 46 = .ok (.goto (-44), 3) := by decide +kernel
theorem dX5_areSo_49 : decode cX5_areSo 49 = .ok (.iconst 1, 1) := by decide +kernel
theorem dX5_areSo_50 : decode cX5_areSo 50 = .ok (.ireturn, 1) := by decide +kernel
theorem dX6_init_0 : decode cX6_init 0 = .ok (.aload_n 0, 1) := by decide +kernel
theorem dX6_init_1 : decode cX6_init 1 = .ok (.invokespecial 3, 3) := by decide +kernel
theorem dX6_init_4 : decode cX6_init 4 = .ok (.aload_n 0, 1) := by decide +kernel
theorem dX6_init_5 : decode cX6_init 5 = .ok (.bipush 60, 2) := by decide +kernel
theorem dX6_init_7 : decode cX6_init 7 = .ok (.newarray .int, 2) := by decide +kernel
theorem dX6_init_9 : decode cX6_init 9 = .ok (.putfield 9, 3) := by decide +kernel
theorem dX6_init_12 : decode cX6_init 12 = .ok (.return_, 1) := by decide +kernel
theorem dX6_renew_0 : decode cX6_renew 0 = .ok (.aload_n 0, 1) := by decide +kernel
theorem dX6_renew_1 : decode cX6_renew 1 = .ok (.iconst 1, 1) := by decide +kernel
theorem dX6_renew_2 : decode cX6_renew 2 = .ok (.putfield 15, 3) := by decide +kernel
theorem dX6_renew_5 : decode cX6_renew 5 = .ok (.aload_n 0, 1) := by decide +kernel
theorem dX6_renew_6 : decode cX6_renew 6 = .ok (.iload_n 1, 1) := by decide +kernel
theorem dX6_renew_7 : decode cX6_renew 7 = .ok (.putfield 19, 3) := by decide +kernel
theorem dX6_renew_10 : decode cX6_renew 10 = .ok (.aload_n 0, 1) := by decide +kernel
theorem dX6_renew_11 : decode cX6_renew 11 = .ok (.iconst 0, 1) := by decide +kernel
theorem dX6_renew_12 : decode cX6_renew 12 = .ok (.iload_n 2, 1) := by decide +kernel
theorem dX6_renew_13 : decode cX6_renew 13 = .ok (.bipush 60, 2) := by decide +kernel
theorem dX6_renew_15 : decode cX6_renew 15 = .ok (.invokestatic 23, 3) := by decide +kernel
theorem dX6_renew_18 : decode cX6_renew 18 = .ok (.invokestatic 29, 3) := by decide +kernel
theorem dX6_renew_21 : decode cX6_renew 21 = .ok (.putfield 32, 3) := by decide +kernel
theorem dX6_renew_24 : decode cX6_renew 24 = .ok (.iconst 0, 1) := by decide +kernel
theorem dX6_renew_25 : decode cX6_renew 25 = .ok (.istore_n 3, 1) := by decide +kernel
theorem dX6_renew_26 : decode cX6_renew 26 = .ok (.iload_n 3, 1) := by decide +kernel
theorem dX6_renew_27 : decode cX6_renew 27 = .ok (.aload_n 0, 1) := by decide +kernel
theorem dX6_renew_28 : decode cX6_renew 28 = .ok (.getfield 32, 3) := by decide +kernel
theorem dX6_renew_31 : decode cX6_renew 31 = .ok (.if_icmp .ge 16, 3) := by decide +kernel
theorem dX6_renew_34 : decode cX6_renew 34 = .ok (.aload_n 0, 1) := by decide +kernel
theorem dX6_renew_35 : decode cX6_renew 35 = .ok (.getfield 9, 3) := by decide +kernel
theorem dX6_renew_38 : decode cX6_renew 38 = .ok (.iload_n 3, 1) := by decide +kernel
theorem dX6_renew_39 : decode cX6_renew 39 = .ok (.iconst 0, 1) := by decide +kernel
theorem dX6_renew_40 : decode cX6_renew 40 = .ok (.iastore, 1) := by decide +kernel
theorem dX6_renew_41 : decode cX6_renew 41 = .ok (.iinc 3 1, 3) := by decide +kernel
theorem dX6_renew_44 : decode cX6_renew 44 = .ok (.goto (-18), 3) := by decide +kernel
theorem dX6_renew_47 : decode cX6_renew 47 = .ok (.return_, 1) := by decide +kernel
theorem dX6_hasCells_0 : decode cX6_hasCells 0 = .ok (.iload_n 1, 1) := by decide +kernel
theorem dX6_hasCells_1 : decode cX6_hasCells 1 = .ok (.ifCond .lt 29, 3) := by decide +kernel
theorem dX6_hasCells_4 : decode cX6_hasCells 4 = .ok (.iload_n 1, 1) := by decide +kernel
theorem dX6_hasCells_5 : decode cX6_hasCells 5 = .ok (.aload_n 0, 1) := by decide +kernel
theorem dX6_hasCells_6 : decode cX6_hasCells 6 = .ok (.getfield 32, 3) := by decide +kernel
theorem dX6_hasCells_9 : decode cX6_hasCells 9 = .ok (.if_icmp .gt 21, 3) := by decide +kernel
theorem dX6_hasCells_12 : decode cX6_hasCells 12 = .ok (.iload_n 2, 1) := by decide +kernel
theorem dX6_hasCells_13 : decode cX6_hasCells 13 = .ok (.ifCond .lt 17, 3) := by decide +kernel
theorem dX6_hasCells_16 : decode cX6_hasCells 16 = .ok (.iload_n 2, 1) := by decide +kernel
theorem dX6_hasCells_17 : decode cX6_hasCells 17 = .ok (.aload_n 0, 1) := by decide +kernel
theorem dX6_hasCells_18 : decode cX6_hasCells 18 = .ok (.getfield 32, 3) := by decide +kernel
theorem dX6_hasCells_21 : decode cX6_hasCells 21 = .ok (.iload_n 1, 1) := by decide +kernel
theorem dX6_hasCells_22 : decode cX6_hasCells 22 = .ok (.isub, 1) := by decide +kernel
theorem dX6_hasCells_23 : decode cX6_hasCells 23 = .ok (.if_icmp .gt 7, 3) := by decide +kernel
theorem dX6_hasCells_26 : decode cX6_hasCells 26 = .ok (.iconst 1, 1) := by decide +kernel
theorem dX6_hasCells_27 : decode cX6_hasCells 27 = .ok (.goto 4, 3) := by decide +kernel
theorem dX6_hasCells_30 : decode cX6_hasCells 30 = .ok (.iconst 0, 1) := by decide +kernel
theorem dX6_hasCells_31 : decode cX6_hasCells 31 = .ok (.ireturn, 1) := by decide +kernel
theorem dX6_read_0 : decode cX6_read 0 = .ok (.aload_n 0, 1) := by decide +kernel
theorem dX6_read_1 : decode cX6_read 1 = .ok (.iload_n 1, 1) := by decide +kernel
theorem dX6_read_2 : decode cX6_read 2 = .ok (.iconst 1, 1) := by decide +kernel
theorem dX6_read_3 : decode cX6_read 3 = .ok (.invokevirtual 35, 3) := by decide +kernel
theorem dX6_read_6 : decode cX6_read 6 = .ok (.ifCond .eq 12, 3) := by decide +kernel
theorem dX6_read_9 : decode cX6_read 9 = .ok (.aload_n 0, 1) := by decide +kernel
theorem dX6_read_10 : decode cX6_read 10 = .ok (.getfield 9, 3) := by decide +kernel
theorem dX6_read_13 : decode cX6_read 13 = .ok (.iload_n 1, 1) := by decide +kernel
theorem dX6_read_14 : decode cX6_read 14 = .ok (.iaload, 1) := by decide +kernel
theorem dX6_read_15 : decode cX6_read 15 = .ok (.goto 4, 3) := by decide +kernel
theorem dX6_read_18 : decode cX6_read 18 = .ok (.iconst 0, 1) := by decide +kernel
theorem dX6_read_19 : decode cX6_read 19 = .ok (.ireturn, 1) := by decide +kernel
theorem dX6_write_0 : decode cX6_write 0 = .ok (.aload_n 0, 1) := by decide +kernel
theorem dX6_write_1 : decode cX6_write 1 = .ok (.iload_n 1, 1) := by decide +kernel
theorem dX6_write_2 : decode cX6_write 2 = .ok (.iconst 1, 1) := by decide +kernel
theorem dX6_write_3 : decode cX6_write 3 = .ok (.invokevirtual 35, 3) := by decide +kernel
theorem dX6_write_6 : decode cX6_write 6 = .ok (.ifCond .eq 14, 3) := by decide +kernel
theorem dX6_write_9 : decode cX6_write 9 = .ok (.aload_n 0, 1) := by decide +kernel
theorem dX6_write_10 : decode cX6_write 10 = .ok (.getfield 9, 3) := by decide +kernel
theorem dX6_write_13 : decode cX6_write 13 = .ok (.iload_n 1, 1) := by decide +kernel
theorem dX6_write_14 : decode cX6_write 14 = .ok (.aload_n 0, 1) := by decide +kernel
theorem dX6_write_15 : decode cX6_write 15 = .ok (.iload_n 2, 1) := by decide +kernel
theorem dX6_write_16 : decode cX6_write 16 = .ok (.invokevirtual 39, 3) := by decide +kernel
theorem dX6_write_19 : decode cX6_write 19 = .ok (.iastore, 1) := by decide +kernel
theorem dX6_write_20 : decode cX6_write 20 = .ok (.return_, 1) := by decide +kernel
theorem dX6_cut_0 : decode cX6_cut 0 = .ok (.aload_n 0, 1) := by decide +kernel
theorem dX6_cut_1 : decode cX6_cut 1 = .ok (.getfield 19, 3) := by decide +kernel
theorem dX6_cut_4 : decode cX6_cut 4 = .ok (.lookupswitch 34 #[(0, 28), (1, 31)], 28) := by decide +kernel
theorem dX6_cut_32 : decode cX6_cut 32 = .ok (.iload_n 1, 1) := by decide +kernel
theorem dX6_cut_33 : decode cX6_cut 33 = .ok (.i2b, 1) := by decide +kernel
theorem dX6_cut_34 : decode cX6_cut 34 = .ok (.ireturn, 1) := by decide +kernel
theorem dX6_cut_35 : decode cX6_cut 35 = .ok (.iload_n 1, 1) := by decide +kernel
theorem dX6_cut_36 : decode cX6_cut 36 = .ok (.i2s, 1) := by decide +kernel
theorem dX6_cut_37 : decode cX6_cut 37 = .ok (.ireturn, 1) := by decide +kernel
theorem dX6_cut_38 : decode cX6_cut 38 = .ok (.iload_n 1, 1) := by decide +kernel
theorem dX6_cut_39 : decode cX6_cut 39 = .ok (.ireturn, 1) := by decide +kernel
theorem dX7_init_0 : decode cX7_init 0 = .ok (.aload_n 0, 1) := by decide +kernel
theorem dX7_init_1 : decode cX7_init 1 = .ok (.invokespecial 1, 3) := by decide +kernel
theorem dX7_init_4 : decode cX7_init 4 = .ok (.return_, 1) := by decide +kernel
theorem dX7_leave_0 : decode cX7_leave 0 = .ok (.aload_n 0, 1) := by decide +kernel
theorem dX7_leave_1 : decode cX7_leave 1 = .ok (.bipush 31, 2) := by decide +kernel
theorem dX7_leave_3 : decode cX7_leave 3 = .ok (.aload_n 0, 1) := by decide +kernel
theorem dX7_leave_4 : decode cX7_leave 4 = .ok (.getfield 7, 3) := by decide +kernel
theorem dX7_leave_7 : decode cX7_leave 7 = .ok (.imul, 1) := by decide +kernel
theorem dX7_leave_8 : decode cX7_leave 8 = .ok (.iload_n 1, 1) := by decide +kernel
theorem dX7_leave_9 : decode cX7_leave 9 = .ok (.iadd, 1) := by decide +kernel
theorem dX7_leave_10 : decode cX7_leave 10 = .ok (.putfield 7, 3) := by decide +kernel
theorem dX7_leave_13 : decode cX7_leave 13 = .ok (.return_, 1) := by decide +kernel
theorem dJ6_bitCount_0f7a4_0 : decode cJ6_bitCount_0f7a4 0 = .ok (.iload_n 0, 1) := by decide +kernel
theorem dJ6_bitCount_0f7a4_1 : decode cJ6_bitCount_0f7a4 1 = .ok (.iload_n 0, 1) := by decide +kernel
theorem dJ6_bitCount_0f7a4_2 : decode cJ6_bitCount_0f7a4 2 = .ok (.iconst 1, 1) := by decide +kernel
theorem dJ6_bitCount_0f7a4_3 : decode cJ6_bitCount_0f7a4 3 = .ok (.iushr, 1) := by decide +kernel
theorem dJ6_bitCount_0f7a4_4 : decode cJ6_bitCount_0f7a4 4 = .ok (.ldc_w 265, 3) := by decide +kernel
theorem dJ6_bitCount_0f7a4_7 : decode cJ6_bitCount_0f7a4 7 = .ok (.iand, 1) := by decide +kernel
theorem dJ6_bitCount_0f7a4_8 : decode cJ6_bitCount_0f7a4 8 = .ok (.isub, 1) := by decide +kernel
theorem dJ6_bitCount_0f7a4_9 : decode cJ6_bitCount_0f7a4 9 = .ok (.istore_n 0, 1) := by decide +kernel
theorem dJ6_bitCount_0f7a4_10 : decode cJ6_bitCount_0f7a4 10 = .ok (.iload_n 0, 1) := by decide +kernel
theorem dJ6_bitCount_0f7a4_11 : decode cJ6_bitCount_0f7a4 11 = .ok (.ldc_w 266, 3) := by decide +kernel
theorem dJ6_bitCount_0f7a4_14 : decode cJ6_bitCount_0f7a4 14 = .ok (.iand, 1) := by decide +kernel
theorem dJ6_bitCount_0f7a4_15 : decode cJ6_bitCount_0f7a4 15 = .ok (.iload_n 0, 1) := by decide +kernel
theorem dJ6_bitCount_0f7a4_16 : decode cJ6_bitCount_0f7a4 16 = .ok (.iconst 2, 1) := by decide +kernel
theorem dJ6_bitCount_0f7a4_17 : decode cJ6_bitCount_0f7a4 17 = .ok (.iushr, 1) := by decide +kernel
theorem dJ6_bitCount_0f7a4_18 : decode cJ6_bitCount_0f7a4 18 = .ok (.ldc_w 266, 3) := by decide +kernel
theorem dJ6_bitCount_0f7a4_21 : decode cJ6_bitCount_0f7a4 21 = .ok (.iand, 1) := by decide +kernel
theorem dJ6_bitCount_0f7a4_22 : decode cJ6_bitCount_0f7a4 22 = .ok (.iadd, 1) := by decide +kernel
theorem dJ6_bitCount_0f7a4_23 : decode cJ6_bitCount_0f7a4 23 = .ok (.istore_n 0, 1) := by decide +kernel
theorem dJ6_bitCount_0f7a4_24 : decode cJ6_bitCount_0f7a4 24 = .ok (.iload_n 0, 1) := by decide +kernel
theorem dJ6_bitCount_0f7a4_25 : decode cJ6_bitCount_0f7a4 25 = .ok (.iload_n 0, 1) := by decide +kernel
theorem dJ6_bitCount_0f7a4_26 : decode cJ6_bitCount_0f7a4 26 = .ok (.iconst 4, 1) := by decide +kernel
theorem dJ6_bitCount_0f7a4_27 : decode cJ6_bitCount_0f7a4 27 = .ok (.iushr, 1) := by decide +kernel
theorem dJ6_bitCount_0f7a4_28 : decode cJ6_bitCount_0f7a4 28 = .ok (.iadd, 1) := by decide +kernel
theorem dJ6_bitCount_0f7a4_29 : decode cJ6_bitCount_0f7a4 29 = .ok (.ldc_w 267, 3) := by decide +kernel
theorem dJ6_bitCount_0f7a4_32 : decode cJ6_bitCount_0f7a4 32 = .ok (.iand, 1) := by decide +kernel
theorem dJ6_bitCount_0f7a4_33 : decode cJ6_bitCount_0f7a4 33 = .ok (.istore_n 0, 1) := by decide +kernel
theorem dJ6_bitCount_0f7a4_34 : decode cJ6_bitCount_0f7a4 34 = .ok (.iload_n 0, 1) := by decide +kernel
theorem dJ6_bitCount_0f7a4_35 : decode cJ6_bitCount_0f7a4 35 = .ok (.iload_n 0, 1) := by decide +kernel
theorem dJ6_bitCount_0f7a4_36 : decode cJ6_bitCount_0f7a4 36 = .ok (.bipush 8, 2) := by decide +kernel
theorem dJ6_bitCount_0f7a4_38 : decode cJ6_bitCount_0f7a4 38 = .ok (.iushr, 1) := by decide +kernel
theorem dJ6_bitCount_0f7a4_39 : decode cJ6_bitCount_0f7a4 39 = .ok (.iadd, 1) := by decide +kernel
theorem dJ6_bitCount_0f7a4_40 : decode cJ6_bitCount_0f7a4 40 = .ok (.istore_n 0, 1) := by decide +kernel
theorem dJ6_bitCount_0f7a4_41 : decode cJ6_bitCount_0f7a4 41 = .ok (.iload_n 0, 1) := by decide +kernel
theorem dJ6_bitCount_0f7a4_42 : decode cJ6_bitCount_0f7a4 42 = .ok (.iload_n 0, 1) := by decide +kernel
theorem dJ6_bitCount_0f7a4_43 : decode cJ6_bitCount_0f7a4 43 = .ok (.bipush 16, 2) := by decide +kernel
theorem dJ6_bitCount_0f7a4_45 : decode cJ6_bitCount_0f7a4 45 = .ok (.iushr, 1) := by decide +kernel
theorem dJ6_bitCount_0f7a4_46 : decode cJ6_bitCount_0f7a4 46 = .ok (.iadd, 1) := by decide +kernel
theorem dJ6_bitCount_0f7a4_47 : decode cJ6_bitCount_0f7a4 47 = .ok (.istore_n 0, 1) := by decide +kernel
theorem dJ6_bitCount_0f7a4_48 : decode cJ6_bitCount_0f7a4 48 = .ok (.iload_n 0, 1) := by decide +kernel
theorem dJ6_bitCount_0f7a4_49 : decode cJ6_bitCount_0f7a4 49 = .ok (.bipush 63, 2) := by decide +kernel
theorem dJ6_bitCount_0f7a4_51 : decode cJ6_bitCount_0f7a4 51 = .ok (.iand, 1) := by decide +kernel
theorem dJ6_bitCount_0f7a4_52 : decode cJ6_bitCount_0f7a4 52 = .ok (.ireturn, 1) := by decide +kernel
theorem dJ9_max_7cf53_0 : decode cJ9_max_7cf53 0 = .ok (.iload_n 0, 1) := by decide +kernel
theorem dJ9_max_7cf53_1 : decode cJ9_max_7cf53 1 = .ok (.iload_n 1, 1) := by decide +kernel
theorem dJ9_max_7cf53_2 : decode cJ9_max_7cf53 2 = .ok (.if_icmp .lt 7, 3) := by decide +kernel
theorem dJ9_max_7cf53_5 : decode cJ9_max_7cf53 5 = .ok (.iload_n 0, 1) := by decide +kernel
theorem dJ9_max_7cf53_6 : decode cJ9_max_7cf53 6 = .ok (.goto 4, 3) := by decide +kernel
theorem dJ9_max_7cf53_9 : decode cJ9_max_7cf53 9 = .ok (.iload_n 1, 1) := by decide +kernel
theorem dJ9_max_7cf53_10 : decode cJ9_max_7cf53 10 = .ok (.ireturn, 1) := by decide +kernel
theorem dJ9_min_7cf53_0 : decode cJ9_min_7cf53 0 = .ok (.iload_n 0, 1) := by decide +kernel
theorem dJ9_min_7cf53_1 : decode cJ9_min_7cf53 1 = .ok (.iload_n 1, 1) := by decide +kernel
theorem dJ9_min_7cf53_2 : decode cJ9_min_7cf53 2 = .ok (.if_icmp .gt 7, 3) := by decide +kernel
theorem dJ9_min_7cf53_5 : decode cJ9_min_7cf53 5 = .ok (.iload_n 0, 1) := by decide +kernel
theorem dJ9_min_7cf53_6 : decode cJ9_min_7cf53 6 = .ok (.goto 4, 3) := by decide +kernel
theorem dJ9_min_7cf53_9 : decode cJ9_min_7cf53 9 = .ok (.iload_n 1, 1) := by decide +kernel
theorem dJ9_min_7cf53_10 : decode cJ9_min_7cf53 10 = .ok (.ireturn, 1) := by decide +kernel
