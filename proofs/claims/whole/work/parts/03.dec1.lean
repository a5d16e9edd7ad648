theorem dX4_answerInPeace_0 : decode cX4_answerInPeace 0 = .ok (.aload_n 1, 1) := by decide +kernel
theorem dX4_answerInPeace_1 : decode cX4_answerInPeace 1 = .ok (.aload_n 3, 1) := by decide +kernel
theorem dX4_answerInPeace_2 : decode cX4_answerInPeace 2 = .ok (.invokevirtual 247, 3) := by decide +kernel
theorem dX4_answerInPeace_5 : decode cX4_answerInPeace 5 = .ok (.ifCond .ne 5, 3) := by decide +kernel
theorem dX4_answerInPeace_8 : decode cX4_answerInPeace 8 = .ok (.iconst 2, 1) := by decide +kernel
theorem dX4_answerInPeace_9 : decode cX4_answerInPeace 9 = .ok (.ireturn, 1) := by decide +kernel
theorem dX4_answerInPeace_10 : decode cX4_answerInPeace 10 = .ok (.aload_n 3, 1) := by decide +kernel
theorem dX4_answerInPeace_11 : decode cX4_answerInPeace 11 = .ok (.aload_n 0, 1) := by decide +kernel
theorem dX4_answerInPeace_12 : decode cX4_answerInPeace 12 = .ok (.getfield 31, 3) := by decide +kernel
theorem dX4_answerInPeace_15 : decode cX4_answerInPeace 15 = .ok (.invokevirtual 102, 3) := by decide +kernel
theorem dX4_answerInPeace_18 : decode cX4_answerInPeace 18 = .ok (.ifCond .ne 5, 3) := by decide +kernel
theorem dX4_answerInPeace_21 : decode cX4_answerInPeace 21 = .ok (.iconst 3, 1) := by decide +kernel
theorem dX4_answerInPeace_22 : decode cX4_answerInPeace 22 = .ok (.ireturn, 1) := by decide +kernel
theorem dX4_answerInPeace_23 : decode cX4_answerInPeace 23 = .ok (.aload_n 0, 1) := by decide +kernel
theorem dX4_answerInPeace_24 : decode cX4_answerInPeace 24 = .ok (.aload_n 3, 1) := by decide +kernel
theorem dX4_answerInPeace_25 : decode cX4_answerInPeace 25 = .ok (.invokevirtual 76, 3) := by decide +kernel
theorem dX4_answerInPeace_28 : decode cX4_answerInPeace 28 = .ok (.aload_n 3, 1) := by decide +kernel
theorem dX4_answerInPeace_29 : decode cX4_answerInPeace 29 = .ok (.getfield 67, 3) := by decide +kernel
theorem dX4_answerInPeace_32 : decode cX4_answerInPeace 32 = .ok (.if_icmp .lt 5, 3) := by decide +kernel
theorem dX4_answerInPeace_35 : decode cX4_answerInPeace 35 = .ok (.iconst 4, 1) := by decide +kernel
theorem dX4_answerInPeace_36 : decode cX4_answerInPeace 36 = .ok (.ireturn, 1) := by decide +kernel
theorem dX4_answerInPeace_37 : decode cX4_answerInPeace 37 = .ok (.aload_n 0, 1) := by decide +kernel
theorem dX4_answerInPeace_38 : decode cX4_answerInPeace 38 = .ok (.aload_n 2, 1) := by decide +kernel
theorem dX4_answerInPeace_39 : decode cX4_answerInPeace 39 = .ok (.invokevirtual 250, 3) := by decide +kernel
theorem dX4_answerInPeace_42 : decode cX4_answerInPeace 42 = .ok (.ifCond .eq 5, 3) := by decide +kernel
theorem dX4_answerInPeace_45 : decode cX4_answerInPeace 45 = .ok (.iconst 5, 1) := by decide +kernel
theorem dX4_answerInPeace_46 : decode cX4_answerInPeace 46 = .ok (.ireturn, 1) := by decide +kernel
theorem dX4_answerInPeace_47 : decode cX4_answerInPeace 47 = .ok (.aload_n 1, 1) := by decide +kernel
theorem dX4_answerInPeace_48 : decode cX4_answerInPeace 48 = .ok (.aload_n 3, 1) := by decide +kernel
theorem dX4_answerInPeace_49 : decode cX4_answerInPeace 49 = .ok (.aload_n 0, 1) := by decide +kernel
theorem dX4_answerInPeace_50 : decode cX4_answerInPeace 50 = .ok (.getfield 14, 3) := by decide +kernel
theorem dX4_answerInPeace_53 : decode cX4_answerInPeace 53 = .ok (.invokevirtual 254, 3) := by decide +kernel
theorem dX4_answerInPeace_56 : decode cX4_answerInPeace 56 = .ok (.ifCond .eq 6, 3) := by decide +kernel
theorem dX4_answerInPeace_59 : decode cX4_answerInPeace 59 = .ok (.bipush 6, 2) := by decide +kernel
theorem dX4_answerInPeace_61 : decode cX4_answerInPeace 61 = .ok (.ireturn, 1) := by decide +kernel
theorem dX4_answerInPeace_62 : decode cX4_answerInPeace 62 = .ok (.aload_n 0, 1) := by decide +kernel
theorem dX4_answerInPeace_63 : decode cX4_answerInPeace 63 = .ok (.aload_n 1, 1) := by decide +kernel
theorem dX4_answerInPeace_64 : decode cX4_answerInPeace 64 = .ok (.invokevirtual 258, 3) := by decide +kernel
theorem dX4_answerInPeace_67 : decode cX4_answerInPeace 67 = .ok (.ifCond .eq 6, 3) := by decide +kernel
theorem dX4_answerInPeace_70 : decode cX4_answerInPeace 70 = .ok (.bipush 7, 2) := by decide +kernel
theorem dX4_answerInPeace_72 : decode cX4_answerInPeace 72 = .ok (.ireturn, 1) := by decide +kernel
theorem dX4_answerInPeace_73 : decode cX4_answerInPeace 73 = .ok (.iconst 0, 1) := by decide +kernel
theorem dX4_answerInPeace_74 : decode cX4_answerInPeace 74 = .ok (.ireturn, 1) := by decide +kernel
theorem dX4_answerInAlarm_0 : decode cX4_answerInAlarm 0 = .ok (.aload_n 0, 1) := by decide +kernel
theorem dX4_answerInAlarm_1 : decode cX4_answerInAlarm 1 = .ok (.invokevirtual 96, 3) := by decide +kernel
theorem dX4_answerInAlarm_4 : decode cX4_answerInAlarm 4 = .ok (.aload_n 2, 1) := by decide +kernel
theorem dX4_answerInAlarm_5 : decode cX4_answerInAlarm 5 = .ok (.getfield 99, 3) := by decide +kernel
theorem dX4_answerInAlarm_8 : decode cX4_answerInAlarm 8 = .ok (.aload_n 1, 1) := by decide +kernel
theorem dX4_answerInAlarm_9 : decode cX4_answerInAlarm 9 = .ok (.getfield 193, 3) := by decide +kernel
theorem dX4_answerInAlarm_12 : decode cX4_answerInAlarm 12 = .ok (.getfield 197, 3) := by decide +kernel
theorem dX4_answerInAlarm_15 : decode cX4_answerInAlarm 15 = .ok (.getfield 99, 3) := by decide +kernel
theorem dX4_answerInAlarm_18 : decode cX4_answerInAlarm 18 = .ok (.if_icmp .lt 6, 3) := by decide +kernel
theorem dX4_answerInAlarm_21 : decode cX4_answerInAlarm 21 = .ok (.bipush 9, 2) := by decide +kernel
theorem dX4_answerInAlarm_23 : decode cX4_answerInAlarm 23 = .ok (.ireturn, 1) := by decide +kernel
theorem dX4_answerInAlarm_24 : decode cX4_answerInAlarm 24 = .ok (.aload_n 1, 1) := by decide +kernel
theorem dX4_answerInAlarm_25 : decode cX4_answerInAlarm 25 = .ok (.aload_n 2, 1) := by decide +kernel
theorem dX4_answerInAlarm_26 : decode cX4_answerInAlarm 26 = .ok (.aload_n 0, 1) := by decide +kernel
theorem dX4_answerInAlarm_27 : decode cX4_answerInAlarm 27 = .ok (.getfield 14, 3) := by decide +kernel
theorem dX4_answerInAlarm_30 : decode cX4_answerInAlarm 30 = .ok (.invokevirtual 254, 3) := by decide +kernel
theorem dX4_answerInAlarm_33 : decode cX4_answerInAlarm 33 = .ok (.ifCond .eq 6, 3) := by decide +kernel
theorem dX4_answerInAlarm_36 : decode cX4_answerInAlarm 36 = .ok (.bipush 6, 2) := by decide +kernel
theorem dX4_answerInAlarm_38 : decode cX4_answerInAlarm 38 = .ok (.ireturn, 1) := by decide +kernel
theorem dX4_answerInAlarm_39 : decode cX4_answerInAlarm 39 = .ok (.iconst 0, 1) := by decide +kernel
theorem dX4_answerInAlarm_40 : decode cX4_answerInAlarm 40 = .ok (.ireturn, 1) := by decide +kernel
theorem dX4_isExcluded_0 : decode cX4_isExcluded 0 = .ok (.iconst 0, 1) := by decide +kernel
theorem dX4_isExcluded_1 : decode cX4_isExcluded 1 = .ok (.istore_n 2, 1) := by decide +kernel
theorem dX4_isExcluded_2 : decode cX4_isExcluded 2 = .ok (.iload_n 2, 1) := by decide +kernel
theorem dX4_isExcluded_3 : decode cX4_isExcluded 3 = .ok (.aload_n 0, 1) := by decide +kernel
theorem dX4_isExcluded_4 : decode cX4_isExcluded 4 = .ok (.getfield 25, 3) := by decide +kernel
theorem dX4_isExcluded_7 : decode cX4_isExcluded 7 = .ok (.invokevirtual 47, 3) := by decide +kernel
theorem dX4_isExcluded_10 : decode cX4_isExcluded 10 = .ok (.if_icmp .ge 42, 3) := by decide +kernel
theorem dX4_isExcluded_13 : decode cX4_isExcluded 13 = .ok (.aload_n 0, 1) := by decide +kernel
theorem dX4_isExcluded_14 : decode cX4_isExcluded 14 = .ok (.getfield 25, 3) := by decide +kernel
theorem dX4_isExcluded_17 : decode cX4_isExcluded 17 = .ok (.iload_n 2, 1) := by decide +kernel
theorem dX4_isExcluded_18 : decode cX4_isExcluded 18 = .ok (.invokevirtual 169, 3) := by decide +kernel
theorem dX4_isExcluded_21 : decode cX4_isExcluded 21 = .ok (.checkcast 91, 3) := by decide +kernel
theorem dX4_isExcluded_24 : decode cX4_isExcluded 24 = .ok (.astore_n 3, 1) := by decide +kernel
theorem dX4_isExcluded_25 : decode cX4_isExcluded 25 = .ok (.aload_n 3, 1) := by decide +kernel
theorem dX4_isExcluded_26 : decode cX4_isExcluded 26 = .ok (.aload_n 1, 1) := by decide +kernel
theorem dX4_isExcluded_27 : decode cX4_isExcluded 27 = .ok (.invokevirtual 262, 3) := by decide +kernel
theorem dX4_isExcluded_30 : decode cX4_isExcluded 30 = .ok (.ifCond .eq 16, 3) := by decide +kernel
theorem dX4_isExcluded_33 : decode cX4_isExcluded 33 = .ok (.aload_n 3, 1) := by decide +kernel
theorem dX4_isExcluded_34 : decode cX4_isExcluded 34 = .ok (.aload_n 0, 1) := by decide +kernel
theorem dX4_isExcluded_35 : decode cX4_isExcluded 35 = .ok (.getfield 31, 3) := by decide +kernel
theorem dX4_isExcluded_38 : decode cX4_isExcluded 38 = .ok (.invokevirtual 110, 3) := by decide +kernel
theorem dX4_isExcluded_41 : decode cX4_isExcluded 41 = .ok (.ifCond .le 5, 3) := by decide +kernel
theorem dX4_isExcluded_44 : decode cX4_isExcluded 44 = .ok (.iconst 1, 1) := by decide +kernel
theorem dX4_isExcluded_45 : decode cX4_isExcluded 45 = .ok (.ireturn, 1) := by decide +kernel
theorem dX4_isExcluded_46 : decode cX4_isExcluded 46 = .ok (.iinc 2 1, 3) := by decide +kernel
theorem dX4_isExcluded_49 : decode cX4_isExcluded 49 = .ok (.goto (-47), 3) := by decide +kernel
theorem dX4_isExcluded_52 : decode cX4_isExcluded 52 = .ok (.iconst 0, 1) := by decide +kernel
theorem dX4_isExcluded_53 : decode cX4_isExcluded 53 = .ok (.ireturn, 1) := by decide +kernel
theorem dX4_wouldLeaveVisitor_0 : decode cX4_wouldLeaveVisitor 0 = .ok (.aload_n 1, 1) := by decide +kernel
theorem dX4_wouldLeaveVisitor_1 : decode cX4_wouldLeaveVisitor 1 = .ok (.getfield 193, 3) := by decide +kernel
theorem dX4_wouldLeaveVisitor_4 : decode cX4_wouldLeaveVisitor 4 = .ok (.getfield 197, 3) := by decide +kernel
theorem dX4_wouldLeaveVisitor_7 : decode cX4_wouldLeaveVisitor 7 = .ok (.astore_n 2, 1) := by decide +kernel
theorem dX4_wouldLeaveVisitor_8 : decode cX4_wouldLeaveVisitor 8 = .ok (.aload_n 2, 1) := by decide +kernel
theorem dX4_wouldLeaveVisitor_9 : decode cX4_wouldLeaveVisitor 9 = .ok (.aload_n 0, 1) := by decide +kernel
theorem dX4_wouldLeaveVisitor_10 : decode cX4_wouldLeaveVisitor 10 = .ok (.getfield 14, 3) := by decide +kernel
theorem dX4_wouldLeaveVisitor_13 : decode cX4_wouldLeaveVisitor 13 = .ok (.if_acmp .ne 5, 3) := by decide +kernel
theorem dX4_wouldLeaveVisitor_16 : decode cX4_wouldLeaveVisitor 16 = .ok (.iconst 0, 1) := by decide +kernel
theorem dX4_wouldLeaveVisitor_17 : decode cX4_wouldLeaveVisitor 17 = .ok (.ireturn, 1) := by decide +kernel
theorem dX4_wouldLeaveVisitor_18 : decode cX4_wouldLeaveVisitor 18 = .ok (.iconst 0, 1) := by decide +kernel
theorem dX4_wouldLeaveVisitor_19 : decode cX4_wouldLeaveVisitor 19 = .ok (.istore_n 3, 1) := by decide +kernel
theorem dX4_wouldLeaveVisitor_20 : decode cX4_wouldLeaveVisitor 20 = .ok (.iload_n 3, 1) := by decide +kernel
theorem dX4_wouldLeaveVisitor_21 : decode cX4_wouldLeaveVisitor 21 = .ok (.aload_n 0, 1) := by decide +kernel
theorem dX4_wouldLeaveVisitor_22 : decode cX4_wouldLeaveVisitor 22 = .ok (.getfield 28, 3) := by decide +kernel
theorem dX4_wouldLeaveVisitor_25 : decode cX4_wouldLeaveVisitor 25 = .ok (.invokevirtual 47, 3) := by decide +kernel
theorem dX4_wouldLeaveVisitor_28 : decode cX4_wouldLeaveVisitor 28 = .ok (.if_icmp .ge 45, 3) := by decide +kernel
theorem dX4_wouldLeaveVisitor_31 : decode cX4_wouldLeaveVisitor 31 = .ok (.aload_n 0, 1) := by decide +kernel
theorem dX4_wouldLeaveVisitor_32 : decode cX4_wouldLeaveVisitor 32 = .ok (.getfield 28, 3) := by decide +kernel
theorem dX4_wouldLeaveVisitor_35 : decode cX4_wouldLeaveVisitor 35 = .ok (.iload_n 3, 1) := by decide +kernel
theorem dX4_wouldLeaveVisitor_36 : decode cX4_wouldLeaveVisitor 36 = .ok (.invokevirtual 169, 3) := by decide +kernel
theorem dX4_wouldLeaveVisitor_39 : decode cX4_wouldLeaveVisitor 39 = .ok (.checkcast 127, 3) := by decide +kernel
theorem dX4_wouldLeaveVisitor_42 : decode cX4_wouldLeaveVisitor 42 = .ok (.astore 4, 2) := by decide +kernel
theorem dX4_wouldLeaveVisitor_44 : decode cX4_wouldLeaveVisitor 44 = .ok (.aload 4, 2) := by decide +kernel
theorem dX4_wouldLeaveVisitor_46 : decode cX4_wouldLeaveVisitor 46 = .ok (.getfield 126, 3) := by decide +kernel
theorem dX4_wouldLeaveVisitor_49 : decode cX4_wouldLeaveVisitor 49 = .ok (.aload_n 1, 1) := by decide +kernel
theorem dX4_wouldLeaveVisitor_50 : decode cX4_wouldLeaveVisitor 50 = .ok (.if_acmp .ne 17, 3) := by decide +kernel
theorem dX4_wouldLeaveVisitor_53 : decode cX4_wouldLeaveVisitor 53 = .ok (.aload 4, 2) := by decide +kernel
theorem dX4_wouldLeaveVisitor_55 : decode cX4_wouldLeaveVisitor 55 = .ok (.getfield 193, 3) := by decide +kernel
theorem dX4_wouldLeaveVisitor_58 : decode cX4_wouldLeaveVisitor 58 = .ok (.getfield 197, 3) := by decide +kernel
theorem dX4_wouldLeaveVisitor_61 : decode cX4_wouldLeaveVisitor 61 = .ok (.aload_n 2, 1) := by decide +kernel
theorem dX4_wouldLeaveVisitor_62 : decode cX4_wouldLeaveVisitor 62 = .ok (.if_acmp .ne 5, 3) := by decide +kernel
theorem dX4_wouldLeaveVisitor_65 : decode cX4_wouldLeaveVisitor 65 = .ok (.iconst 1, 1) := by decide +kernel
theorem dX4_wouldLeaveVisitor_66 : decode cX4_wouldLeaveVisitor 66 = .ok (.ireturn, 1) := by decide +kernel
theorem dX4_wouldLeaveVisitor_67 : decode cX4_wouldLeaveVisitor 67 = .ok (.iinc 3 1, 3) := by decide +kernel
theorem dX4_wouldLeaveVisitor_70 : decode cX4_wouldLeaveVisitor 70 = .ok (.goto (-50), 3) := by decide +kernel
theorem dX4_wouldLeaveVisitor_73 : decode cX4_wouldLeaveVisitor 73 = .ok (.iconst 0, 1) := by decide +kernel
theorem dX4_wouldLeaveVisitor_74 : decode cX4_wouldLeaveVisitor 74 = .ok (.ireturn, 1) := by decide +kernel
theorem dX4_pass_0 : decode cX4_pass 0 = .ok (.aload_n 2, 1) := by decide +kernel
theorem dX4_pass_1 : decode cX4_pass 1 = .ok (.aload_n 1, 1) := by decide +kernel
theorem dX4_pass_2 : decode cX4_pass 2 = .ok (.getfield 193, 3) := by decide +kernel
theorem dX4_pass_5 : decode cX4_pass 5 = .ok (.getfield 197, 3) := by decide +kernel
theorem dX4_pass_8 : decode cX4_pass 8 = .ok (.invokevirtual 235, 3) := by decide +kernel
theorem dX4_pass_11 : decode cX4_pass 11 = .ok (.astore_n 3, 1) := by decide +kernel
theorem dX4_pass_12 : decode cX4_pass 12 = .ok (.aload_n 3, 1) := by decide +kernel
theorem dX4_pass_13 : decode cX4_pass 13 = .ok (.ifnonnull 4, 3) := by decide +kernel
theorem dX4_pass_16 : decode cX4_pass 16 = .ok (.return_, 1) := by decide +kernel
theorem dX4_pass_17 : decode cX4_pass 17 = .ok (.aload_n 1, 1) := by decide +kernel
theorem dX4_pass_18 : decode cX4_pass 18 = .ok (.aload_n 3, 1) := by decide +kernel
theorem dX4_pass_19 : decode cX4_pass 19 = .ok (.aload_n 0, 1) := by decide +kernel
theorem dX4_pass_20 : decode cX4_pass 20 = .ok (.getfield 31, 3) := by decide +kernel
theorem dX4_pass_23 : decode cX4_pass 23 = .ok (.invokevirtual 265, 3) := by decide +kernel
theorem dX4_pass_26 : decode cX4_pass 26 = .ok (.aload_n 1, 1) := by decide +kernel
theorem dX4_pass_27 : decode cX4_pass 27 = .ok (.iconst 0, 1) := by decide +kernel
theorem dX4_pass_28 : decode cX4_pass 28 = .ok (.putfield 142, 3) := by decide +kernel
theorem dX4_pass_31 : decode cX4_pass 31 = .ok (.aload_n 2, 1) := by decide +kernel
theorem dX4_pass_32 : decode cX4_pass 32 = .ok (.aload_n 0, 1) := by decide +kernel
theorem dX4_pass_33 : decode cX4_pass 33 = .ok (.getfield 31, 3) := by decide +kernel
theorem dX4_pass_36 : decode cX4_pass 36 = .ok (.invokevirtual 269, 3) := by decide +kernel
theorem dX4_pass_39 : decode cX4_pass 39 = .ok (.return_, 1) := by decide +kernel
theorem dX4_measureDistances_0 : decode cX4_measureDistances 0 = .ok (.iconst 0, 1) := by decide +kernel
theorem dX4_measureDistances_1 : decode cX4_measureDistances 1 = .ok (.istore_n 1, 1) := by decide +kernel
theorem dX4_measureDistances_2 : decode cX4_measureDistances 2 = .ok (.iload_n 1, 1) := by decide +kernel
theorem dX4_measureDistances_3 : decode cX4_measureDistances 3 = .ok (.aload_n 0, 1) := by decide +kernel
theorem dX4_measureDistances_4 : decode cX4_measureDistances 4 = .ok (.getfield 21, 3) := by decide +kernel
theorem dX4_measureDistances_7 : decode cX4_measureDistances 7 = .ok (.invokevirtual 47, 3) := by decide +kernel
theorem dX4_measureDistances_10 : decode cX4_measureDistances 10 = .ok (.if_icmp .ge 24, 3) := by decide +kernel
theorem dX4_measureDistances_13 : decode cX4_measureDistances 13 = .ok (.aload_n 0, 1) := by decide +kernel
theorem dX4_measureDistances_14 : decode cX4_measureDistances 14 = .ok (.getfield 21, 3) := by decide +kernel
theorem dX4_measureDistances_17 : decode cX4_measureDistances 17 = .ok (.iload_n 1, 1) := by decide +kernel
theorem dX4_measureDistances_18 : decode cX4_measureDistances 18 = .ok (.invokevirtual 169, 3) := by decide +kernel
theorem dX4_measureDistances_21 : decode cX4_measureDistances 21 = .ok (.checkcast 9, 3) := by decide +kernel
theorem dX4_measureDistances_24 : decode cX4_measureDistances 24 = .ok (.iconst 1, 1) := by decide +kernel
theorem dX4_measureDistances_25 : decode cX4_measureDistances 25 = .ok (.putfield 272, 3) := by decide +kernel
theorem dX4_measureDistances_28 : decode cX4_measureDistances 28 = .ok (.iinc 1 1, 3) := by decide +kernel
theorem dX4_measureDistances_31 : decode cX4_measureDistances 31 = .ok (.goto (-29), 3) := by decide +kernel
theorem dX4_measureDistances_34 : decode cX4_measureDistances 34 = .ok (.aload_n 0, 1) := by decide +kernel
theorem dX4_measureDistances_35 : decode cX4_measureDistances 35 = .ok (.aload_n 0, 1) := by decide +kernel
theorem dX4_measureDistances_36 : decode cX4_measureDistances 36 = .ok (.getfield 14, 3) := by decide +kernel
theorem dX4_measureDistances_39 : decode cX4_measureDistances 39 = .ok (.invokevirtual 275, 3) := by decide +kernel
theorem dX4_measureDistances_42 : decode cX4_measureDistances 42 = .ok (.return_, 1) := by decide +kernel
theorem dX4_measureWays_0 : decode cX4_measureWays 0 = .ok (.iconst 0, 1) := by decide +kernel
theorem dX4_measureWays_1 : decode cX4_measureWays 1 = .ok (.istore_n 3, 1) := by decide +kernel
theorem dX4_measureWays_2 : decode cX4_measureWays 2 = .ok (.iload_n 3, 1) := by decide +kernel
theorem dX4_measureWays_3 : decode cX4_measureWays 3 = .ok (.aload_n 0, 1) := by decide +kernel
theorem dX4_measureWays_4 : decode cX4_measureWays 4 = .ok (.getfield 21, 3) := by decide +kernel
theorem dX4_measureWays_7 : decode cX4_measureWays 7 = .ok (.invokevirtual 47, 3) := by decide +kernel
theorem dX4_measureWays_10 : decode cX4_measureWays 10 = .ok (.if_icmp .ge 53, 3) := by decide +kernel
theorem dX4_measureWays_13 : decode cX4_measureWays 13 = .ok (.aload_n 0, 1) := by decide +kernel
theorem dX4_measureWays_14 : decode cX4_measureWays 14 = .ok (.getfield 21, 3) := by decide +kernel
theorem dX4_measureWays_17 : decode cX4_measureWays 17 = .ok (.iload_n 3, 1) := by decide +kernel
theorem dX4_measureWays_18 : decode cX4_measureWays 18 = .ok (.invokevirtual 169, 3) := by decide +kernel
theorem dX4_measureWays_21 : decode cX4_measureWays 21 = .ok (.checkcast 9, 3) := by decide +kernel
theorem dX4_measureWays_24 : decode cX4_measureWays 24 = .ok (.astore 4, 2) := by decide +kernel
theorem dX4_measureWays_26 : decode cX4_measureWays 26 = .ok (.aload 4, 2) := by decide +kernel
theorem dX4_measureWays_28 : decode cX4_measureWays 28 = .ok (.aload 4, 2) := by decide +kernel
theorem dX4_measureWays_30 : decode cX4_measureWays 30 = .ok (.aload_n 0, 1) := by decide +kernel
theorem dX4_measureWays_31 : decode cX4_measureWays 31 = .ok (.getfield 31, 3) := by decide +kernel
theorem dX4_measureWays_34 : decode cX4_measureWays 34 = .ok (.invokevirtual 102, 3) := by decide +kernel
theorem dX4_measureWays_37 : decode cX4_measureWays 37 = .ok (.ifCond .eq 16, 3) := by decide +kernel
theorem dX4_measureWays_40 : decode cX4_measureWays 40 = .ok (.aload_n 1, 1) := by decide +kernel
theorem dX4_measureWays_41 : decode cX4_measureWays 41 = .ok (.aload 4, 2) := by decide +kernel
theorem dX4_measureWays_43 : decode cX4_measureWays 43 = .ok (.invokevirtual 247, 3) := by decide +kernel
theorem dX4_measureWays_46 : decode cX4_measureWays 46 = .ok (.ifCond .eq 7, 3) := by decide +kernel
theorem dX4_measureWays_49 : decode cX4_measureWays 49 = .ok (.iconst 1, 1) := by decide +kernel
theorem dX4_measureWays_50 : decode cX4_measureWays 50 = .ok (.goto 4, 3) := by decide +kernel
theorem dX4_measureWays_53 : decode cX4_measureWays 53 = .ok (.iconst 0, 1) := by decide +kernel
theorem dX4_measureWays_54 : decode cX4_measureWays 54 = .ok (.putfield 272, 3) := by decide +kernel
theorem dX4_measureWays_57 : decode cX4_measureWays 57 = .ok (.iinc 3 1, 3) := by decide +kernel
theorem dX4_measureWays_60 : decode cX4_measureWays 60 = .ok (.goto (-58), 3) := by decide +kernel
theorem dX4_measureWays_63 : decode cX4_measureWays 63 = .ok (.aload_n 0, 1) := by decide +kernel
theorem dX4_measureWays_64 : decode cX4_measureWays 64 = .ok (.aload_n 2, 1) := by decide +kernel
theorem dX4_measureWays_65 : decode cX4_measureWays 65 = .ok (.invokevirtual 275, 3) := by decide +kernel
theorem dX4_measureWays_68 : decode cX4_measureWays 68 = .ok (.return_, 1) := by decide +kernel
theorem dX4_measureTo_0 : decode cX4_measureTo 0 = .ok (.iconst 0, 1) := by decide +kernel
theorem dX4_measureTo_1 : decode cX4_measureTo 1 = .ok (.istore_n 2, 1) := by decide +kernel
theorem dX4_measureTo_2 : decode cX4_measureTo 2 = .ok (.iload_n 2, 1) := by decide +kernel
theorem dX4_measureTo_3 : decode cX4_measureTo 3 = .ok (.aload_n 0, 1) := by decide +kernel
theorem dX4_measureTo_4 : decode cX4_measureTo 4 = .ok (.getfield 21, 3) := by decide +kernel
theorem dX4_measureTo_7 : decode cX4_measureTo 7 = .ok (.invokevirtual 47, 3) := by decide +kernel
theorem dX4_measureTo_10 : decode cX4_measureTo 10 = .ok (.if_icmp .ge 24, 3) := by decide +kernel
theorem dX4_measureTo_13 : decode cX4_measureTo 13 = .ok (.aload_n 0, 1) := by decide +kernel
theorem dX4_measureTo_14 : decode cX4_measureTo 14 = .ok (.getfield 21, 3) := by decide +kernel
theorem dX4_measureTo_17 : decode cX4_measureTo 17 = .ok (.iload_n 2, 1) := by decide +kernel
theorem dX4_measureTo_18 : decode cX4_measureTo 18 = .ok (.invokevirtual 169, 3) := by decide +kernel
theorem dX4_measureTo_21 : decode cX4_measureTo 21 = .ok (.checkcast 9, 3) := by decide +kernel
theorem dX4_measureTo_24 : decode cX4_measureTo 24 = .ok (.iconst (-1), 1) := by decide +kernel
theorem dX4_measureTo_25 : decode cX4_measureTo 25 = .ok (.putfield 99, 3) := by decide +kernel
theorem dX4_measureTo_28 : decode cX4_measureTo 28 = .ok (.iinc 2 1, 3) := by decide +kernel
theorem dX4_measureTo_31 : decode cX4_measureTo 31 = .ok (.goto (-29), 3) := by decide +kernel
theorem dX4_measureTo_34 : decode cX4_measureTo 34 = .ok (.aload_n 1, 1) := by decide +kernel
theorem dX4_measureTo_35 : decode cX4_measureTo 35 = .ok (.iconst 0, 1) := by decide +kernel
theorem dX4_measureTo_36 : decode cX4_measureTo 36 = .ok (.putfield 99, 3) := by decide +kernel
theorem dX4_measureTo_39 : decode cX4_measureTo 39 = .ok (.iconst 0, 1) := by decide +kernel
theorem dX4_measureTo_40 : decode cX4_measureTo 40 = .ok (.istore_n 2, 1) := by decide +kernel
theorem dX4_measureTo_41 : decode cX4_measureTo 41 = .ok (.iload_n 2, 1) := by decide +kernel
theorem dX4_measureTo_42 : decode cX4_measureTo 42 = .ok (.aload_n 0, 1) := by decide +kernel
theorem dX4_measureTo_43 : decode cX4_measureTo 43 = .ok (.getfield 21, 3) := by decide +kernel
theorem dX4_measureTo_46 : decode cX4_measureTo 46 = .ok (.invokevirtual 47, 3) := by decide +kernel
theorem dX4_measureTo_49 : decode cX4_measureTo 49 = .ok (.if_icmp .ge 43, 3) := by decide +kernel
theorem dX4_measureTo_52 : decode cX4_measureTo 52 = .ok (.iconst 0, 1) := by decide +kernel
theorem dX4_measureTo_53 : decode cX4_measureTo 53 = .ok (.istore_n 3, 1) := by decide +kernel
theorem dX4_measureTo_54 : decode cX4_measureTo 54 = .ok (.iload_n 3, 1) := by decide +kernel
theorem dX4_measureTo_55 : decode cX4_measureTo 55 = .ok (.aload_n 0, 1) := by decide +kernel
theorem dX4_measureTo_56 : decode cX4_measureTo 56 = .ok (.getfield 25, 3) := by decide +kernel
theorem dX4_measureTo_59 : decode cX4_measureTo 59 = .ok (.invokevirtual 47, 3) := by decide +kernel
theorem dX4_measureTo_62 : decode cX4_measureTo 62 = .ok (.if_icmp .ge 24, 3) := by decide +kernel
theorem dX4_measureTo_65 : decode cX4_measureTo 65 = .ok (.aload_n 0, 1) := by decide +kernel
theorem dX4_measureTo_66 : decode cX4_measureTo 66 = .ok (.getfield 25, 3) := by decide +kernel
theorem dX4_measureTo_69 : decode cX4_measureTo 69 = .ok (.iload_n 3, 1) := by decide +kernel
theorem dX4_measureTo_70 : decode cX4_measureTo 70 = .ok (.invokevirtual 169, 3) := by decide +kernel
theorem dX4_measureTo_73 : decode cX4_measureTo 73 = .ok (.checkcast 91, 3) := by decide +kernel
theorem dX4_measureTo_76 : decode cX4_measureTo 76 = .ok (.iload_n 2, 1) := by decide +kernel
theorem dX4_measureTo_77 : decode cX4_measureTo 77 = .ok (.invokevirtual 279, 3) := by decide +kernel
theorem dX4_measureTo_80 : decode cX4_measureTo 80 = .ok (.iinc 3 1, 3) := by decide +kernel
theorem dX4_measureTo_83 : decode cX4_measureTo 83 = .ok (.goto (-29), 3) := by decide +kernel
theorem dX4_measureTo_86 : decode cX4_measureTo 86 = .ok (.iinc 2 1, 3) := by decide +kernel
theorem dX4_measureTo_89 : decode cX4_measureTo 89 = .ok (.goto (-48), 3) := by decide +kernel
theorem dX4_measureTo_92 : decode cX4_measureTo 92 = .ok (.return_, 1) := by decide +kernel
theorem dX4_firstDoorFrom_0 : decode cX4_firstDoorFrom 0 = .ok (.aload_n 1, 1) := by decide +kernel
theorem dX4_firstDoorFrom_1 : decode cX4_firstDoorFrom 1 = .ok (.getfield 99, 3) := by decide +kernel
theorem dX4_firstDoorFrom_4 : decode cX4_firstDoorFrom 4 = .ok (.ifCond .gt 5, 3) := by decide +kernel
theorem dX4_firstDoorFrom_7 : decode cX4_firstDoorFrom 7 = .ok (.iconst (-1), 1) := by decide +kernel
theorem dX4_firstDoorFrom_8 : decode cX4_firstDoorFrom 8 = .ok (.ireturn, 1) := by decide +kernel
theorem dX4_firstDoorFrom_9 : decode cX4_firstDoorFrom 9 = .ok (.iconst 0, 1) := by decide +kernel
theorem dX4_firstDoorFrom_10 : decode cX4_firstDoorFrom 10 = .ok (.istore_n 2, 1) := by decide +kernel
theorem dX4_firstDoorFrom_11 : decode cX4_firstDoorFrom 11 = .ok (.iload_n 2, 1) := by decide +kernel
theorem dX4_firstDoorFrom_12 : decode cX4_firstDoorFrom 12 = .ok (.aload_n 0, 1) := by decide +kernel
theorem dX4_firstDoorFrom_13 : decode cX4_firstDoorFrom 13 = .ok (.getfield 25, 3) := by decide +kernel
theorem dX4_firstDoorFrom_16 : decode cX4_firstDoorFrom 16 = .ok (.invokevirtual 47, 3) := by decide +kernel
theorem dX4_firstDoorFrom_19 : decode cX4_firstDoorFrom 19 = .ok (.if_icmp .ge 51, 3) := by decide +kernel
theorem dX4_firstDoorFrom_22 : decode cX4_firstDoorFrom 22 = .ok (.aload_n 0, 1) := by decide +kernel
theorem dX4_firstDoorFrom_23 : decode cX4_firstDoorFrom 23 = .ok (.getfield 25, 3) := by decide +kernel
theorem dX4_firstDoorFrom_26 : decode cX4_firstDoorFrom 26 = .ok (.iload_n 2, 1) := by decide +kernel
theorem dX4_firstDoorFrom_27 : decode cX4_firstDoorFrom 27 = .ok (.invokevirtual 169, 3) := by decide +kernel
theorem dX4_firstDoorFrom_30 : decode cX4_firstDoorFrom 30 = .ok (.checkcast 91, 3) := by decide +kernel
theorem dX4_firstDoorFrom_33 : decode cX4_firstDoorFrom 33 = .ok (.aload_n 1, 1) := by decide +kernel
theorem dX4_firstDoorFrom_34 : decode cX4_firstDoorFrom 34 = .ok (.invokevirtual 235, 3) := by decide +kernel
theorem dX4_firstDoorFrom_37 : decode cX4_firstDoorFrom 37 = .ok (.astore_n 3, 1) := by decide +kernel
theorem dX4_firstDoorFrom_38 : decode cX4_firstDoorFrom 38 = .ok (.aload_n 3, 1) := by decide +kernel
theorem dX4_firstDoorFrom_39 : decode cX4_firstDoorFrom 39 = .ok (.ifnull 25, 3) := by decide +kernel
theorem dX4_firstDoorFrom_42 : decode cX4_firstDoorFrom 42 = .ok (.aload_n 3, 1) := by decide +kernel
theorem dX4_firstDoorFrom_43 : decode cX4_firstDoorFrom 43 = .ok (.getfield 272, 3) := by decide +kernel
theorem dX4_firstDoorFrom_46 : decode cX4_firstDoorFrom 46 = .ok (.ifCond .eq 18, 3) := by decide +kernel
theorem dX4_firstDoorFrom_49 : decode cX4_firstDoorFrom 49 = .ok (.aload_n 3, 1) := by decide +kernel
theorem dX4_firstDoorFrom_50 : decode cX4_firstDoorFrom 50 = .ok (.getfield 99, 3) := by decide +kernel
theorem dX4_firstDoorFrom_53 : decode cX4_firstDoorFrom 53 = .ok (.aload_n 1, 1) := by decide +kernel
theorem dX4_firstDoorFrom_54 : decode cX4_firstDoorFrom 54 = .ok (.getfield 99, 3) := by decide +kernel
theorem dX4_firstDoorFrom_57 : decode cX4_firstDoorFrom 57 = .ok (.iconst 1, 1) := by decide +kernel
theorem dX4_firstDoorFrom_58 : decode cX4_firstDoorFrom 58 = .ok (.isub, 1) := by decide +kernel
theorem dX4_firstDoorFrom_59 : decode cX4_firstDoorFrom 59 = .ok (.if_icmp .ne 5, 3) := by decide +kernel
theorem dX4_firstDoorFrom_62 : decode cX4_firstDoorFrom 62 = .ok (.iload_n 2, 1) := by decide +kernel
theorem dX4_firstDoorFrom_63 : decode cX4_firstDoorFrom 63 = .ok (.ireturn, 1) := by decide +kernel
theorem dX4_firstDoorFrom_64 : decode cX4_firstDoorFrom 64 = .ok (.iinc 2 1, 3) := by decide +kernel
theorem dX4_firstDoorFrom_67 : decode cX4_firstDoorFrom 67 = .ok (.goto (-56), 3) := by decide +kernel
theorem dX4_firstDoorFrom_70 : decode cX4_firstDoorFrom 70 = .ok (.iconst (-1), 1) := by decide +kernel
theorem dX4_firstDoorFrom_71 : decode cX4_firstDoorFrom 71 = .ok (.ireturn, 1) := by decide +kernel
theorem dX5_init_0 : decode cX5_init 0 = .ok (.aload_n 0, 1) := by decide +kernel
theorem dX5_init_1 : decode cX5_init 1 = .ok (.invokespecial 1, 3) := by decide +kernel
theorem dX5_init_4 : decode cX5_init 4 = .ok (.aload_n 0, 1) := by decide +kernel
theorem dX5_init_5 : decode cX5_init 5 = .ok (.iconst 1, 1) := by decide +kernel
theorem dX5_init_6 : decode cX5_init 6 = .ok (.putfield 7, 3) := by decide +kernel
theorem dX5_init_9 : decode cX5_init 9 = .ok (.aload_n 0, 1) := by decide +kernel
theorem dX5_init_10 : decode cX5_init 10 = .ok (.bipush 8, 2) := by decide +kernel
theorem dX5_init_12 : decode cX5_init 12 = .ok (.newarray .int, 2) := by decide +kernel
theorem dX5_init_14 : decode cX5_init 14 = .ok (.putfield 13, 3) := by decide +kernel
theorem dX5_init_17 : decode cX5_init 17 = .ok (.aload_n 0, 1) := by decide +kernel
theorem dX5_init_18 : decode cX5_init 18 = .ok (.bipush 8, 2) := by decide +kernel
theorem dX5_init_20 : decode cX5_init 20 = .ok (.newarray .int, 2) := by decide +kernel
theorem dX5_init_22 : decode cX5_init 22 = .ok (.putfield 17, 3) := by decide +kernel
theorem dX5_init_25 : decode cX5_init 25 = .ok (.aload_n 0, 1) := by decide +kernel
theorem dX5_init_26 : decode cX5_init 26 = .ok (.bipush 8, 2) := by decide +kernel
theorem dX5_init_28 : decode cX5_init 28 = .ok (.newarray .int, 2) := by decide +kernel
theorem dX5_init_30 : decode cX5_init 30 = .ok (.putfield 20, 3) := by decide +kernel
theorem dX5_init_33 : decode cX5_init 33 = .ok (.aload_n 0, 1) := by decide +kernel
theorem dX5_init_34 : decode cX5_init 34 = .ok (.bipush 24, 2) := by decide +kernel
theorem dX5_init_36 : decode cX5_init 36 = .ok (.newarray .int, 2) := by decide +kernel
theorem dX5_init_38 : decode cX5_init 38 = .ok (.putfield 23, 3) := by decide +kernel
theorem dX5_init_41 : decode cX5_init 41 = .ok (.aload_n 0, 1) := by decide +kernel
theorem dX5_init_42 : decode cX5_init 42 = .ok (.bipush 12, 2) := by decide +kernel
theorem dX5_init_44 : decode cX5_init 44 = .ok (.newarray .int, 2) := by decide +kernel
theorem dX5_init_46 : decode cX5_init 46 = .ok (.putfield 26, 3) := by decide +kernel
theorem dX5_init_49 : decode cX5_init 49 = .ok (.aload_n 0, 1) := by decide +kernel
theorem dX5_init_50 : decode cX5_init 50 = .ok (.bipush 12, 2) := by decide +kernel
theorem dX5_init_52 : decode cX5_init 52 = .ok (.newarray .int, 2) := by decide +kernel
theorem dX5_init_54 : decode cX5_init 54 = .ok (.putfield 29, 3) := by decide +kernel
theorem dX5_init_57 : decode cX5_init 57 = .ok (.aload_n 0, 1) := by decide +kernel
theorem dX5_init_58 : decode cX5_init 58 = .ok (.bipush 12, 2) := by decide +kernel
theorem dX5_init_60 : decode cX5_init 60 = .ok (.newarray .int, 2) := by decide +kernel
theorem dX5_init_62 : decode cX5_init 62 = .ok (.putfield 32, 3) := by decide +kernel
theorem dX5_init_65 : decode cX5_init 65 = .ok (.aload_n 0, 1) := by decide +kernel
theorem dX5_init_66 : decode cX5_init 66 = .ok (.bipush 10, 2) := by decide +kernel
theorem dX5_init_68 : decode cX5_init 68 = .ok (.newarray .int, 2) := by decide +kernel
theorem dX5_init_70 : decode cX5_init 70 = .ok (.putfield 35, 3) := by decide +kernel
theorem dX5_init_73 : decode cX5_init 73 = .ok (.aload_n 0, 1) := by decide +kernel
theorem dX5_init_74 : decode cX5_init 74 = .ok (.bipush 10, 2) := by decide +kernel
theorem dX5_init_76 : decode cX5_init 76 = .ok (.newarray .int, 2) := by decide +kernel
theorem dX5_init_78 : decode cX5_init 78 = .ok (.putfield 38, 3) := by decide +kernel
theorem dX5_init_81 : decode cX5_init 81 = .ok (.aload_n 0, 1) := by decide +kernel
theorem dX5_init_82 : decode cX5_init 82 = .ok (.bipush 10, 2) := by decide +kernel
theorem dX5_init_84 : decode cX5_init 84 = .ok (.newarray .int, 2) := by decide +kernel
theorem dX5_init_86 : decode cX5_init 86 = .ok (.putfield 41, 3) := by decide +kernel
theorem dX5_init_89 : decode cX5_init 89 = .ok (.aload_n 0, 1) := by decide +kernel
theorem dX5_init_90 : decode cX5_init 90 = .ok (.bipush 10, 2) := by decide +kernel
theorem dX5_init_92 : decode cX5_init 92 = .ok (.newarray .boolean, 2) := by decide +kernel
theorem dX5_init_94 : decode cX5_init 94 = .ok (.putfield 44, 3) := by decide +kernel
theorem dX5_init_97 : decode cX5_init 97 = .ok (.aload_n 0, 1) := by decide +kernel
theorem dX5_init_98 : decode cX5_init 98 = .ok (.bipush 10, 2) := by decide +kernel
theorem dX5_init_100 : decode cX5_init 100 = .ok (.newarray .int, 2) := by decide +kernel
theorem dX5_init_102 : decode cX5_init 102 = .ok (.putfield 48, 3) := by decide +kernel
theorem dX5_init_105 : decode cX5_init 105 = .ok (.aload_n 0, 1) := by decide +kernel
theorem dX5_init_106 : decode cX5_init 106 = .ok (.bipush 48, 2) := by decide +kernel
theorem dX5_init_108 : decode cX5_init 108 = .ok (.newarray .int, 2) := by decide +kernel
theorem dX5_init_110 : decode cX5_init 110 = .ok (.putfield 51, 3) := by decide +kernel
theorem dX5_init_113 : decode cX5_init 113 = .ok (.return_, 1) := by decide +kernel
theorem dX5_thrown_0 : decode cX5_thrown 0 = .ok (.aload_n 0, 1) := by decide +kernel
theorem dX5_thrown_1 : decode cX5_thrown 1 = .ok (.getfield 54, 3) := by decide +kernel
theorem dX5_thrown_4 : decode cX5_thrown 4 = .ok (.ireturn, 1) := by decide +kernel
theorem dX5_fail_0 : decode cX5_fail 0 = .ok (.aload_n 0, 1) := by decide +kernel
theorem dX5_fail_1 : decode cX5_fail 1 = .ok (.iload_n 1, 1) := by decide +kernel
theorem dX5_fail_2 : decode cX5_fail 2 = .ok (.putfield 54, 3) := by decide +kernel
theorem dX5_fail_5 : decode cX5_fail 5 = .ok (.iconst 0, 1) := by decide +kernel
theorem dX5_fail_6 : decode cX5_fail 6 = .ok (.ireturn, 1) := by decide +kernel
theorem dX5_isZone_0 : decode cX5_isZone 0 = .ok (.iload_n 1, 1) := by decide +kernel
theorem dX5_isZone_1 : decode cX5_isZone 1 = .ok (.ifCond .lt 15, 3) := by decide +kernel
theorem dX5_isZone_4 : decode cX5_isZone 4 = .ok (.iload_n 1, 1) := by decide +kernel
theorem dX5_isZone_5 : decode cX5_isZone 5 = .ok (.aload_n 0, 1) := by decide +kernel
theorem dX5_isZone_6 : decode cX5_isZone 6 = .ok (.getfield 7, 3) := by decide +kernel
theorem dX5_isZone_9 : decode cX5_isZone 9 = .ok (.if_icmp .ge 7, 3) := by decide +kernel
theorem dX5_isZone_12 : decode cX5_isZone 12 = .ok (.iconst 1, 1) := by decide +kernel
theorem dX5_isZone_13 : decode cX5_isZone 13 = .ok (.goto 4, 3) := by decide +kernel
theorem dX5_isZone_16 : decode cX5_isZone 16 = .ok (.iconst 0, 1) := by decide +kernel
theorem dX5_isZone_17 : decode cX5_isZone 17 = .ok (.ireturn, 1) := by decide +kernel
theorem dX5_isDoor_0 : decode cX5_isDoor 0 = .ok (.iload_n 1, 1) := by decide +kernel
theorem dX5_isDoor_1 : decode cX5_isDoor 1 = .ok (.ifCond .lt 15, 3) := by decide +kernel
theorem dX5_isDoor_4 : decode cX5_isDoor 4 = .ok (.iload_n 1, 1) := by decide +kernel
theorem dX5_isDoor_5 : decode cX5_isDoor 5 = .ok (.aload_n 0, 1) := by decide +kernel
theorem dX5_isDoor_6 : decode cX5_isDoor 6 = .ok (.getfield 57, 3) := by decide +kernel
theorem dX5_isDoor_9 : decode cX5_isDoor 9 = .ok (.if_icmp .ge 7, 3) := by decide +kernel
theorem dX5_isDoor_12 : decode cX5_isDoor 12 = .ok (.iconst 1, 1) := by decide +kernel
theorem dX5_isDoor_13 : decode cX5_isDoor 13 = .ok (.goto 4, 3) := by decide +kernel
theorem dX5_isDoor_16 : decode cX5_isDoor 16 = .ok (.iconst 0, 1) := by decide +kernel
theorem dX5_isDoor_17 : decode cX5_isDoor 17 = .ok (.ireturn, 1) := by decide +kernel
theorem dX5_isBadge_0 : decode cX5_isBadge 0 = .ok (.iload_n 1, 1) := by decide +kernel
theorem dX5_isBadge_1 : decode cX5_isBadge 1 = .ok (.ifCond .lt 15, 3) := by decide +kernel
theorem dX5_isBadge_4 : decode cX5_isBadge 4 = .ok (.iload_n 1, 1) := by decide +kernel
theorem dX5_isBadge_5 : decode cX5_isBadge 5 = .ok (.aload_n 0, 1) := by decide +kernel
theorem dX5_isBadge_6 : decode cX5_isBadge 6 = .ok (.getfield 60, 3) := by decide +kernel
theorem dX5_isBadge_9 : decode cX5_isBadge 9 = .ok (.if_icmp .ge 7, 3) := by decide +kernel
theorem dX5_isBadge_12 : decode cX5_isBadge 12 = .ok (.iconst 1, 1) := by decide +kernel
theorem dX5_isBadge_13 : decode cX5_isBadge 13 = .ok (.goto 4, 3) := by decide +kernel
theorem dX5_isBadge_16 : decode cX5_isBadge 16 = .ok (.iconst 0, 1) := by decide +kernel
theorem dX5_isBadge_17 : decode cX5_isBadge 17 = .ok (.ireturn, 1) := by decide +kernel
theorem dX5_has_0 : decode cX5_has 0 = .ok (.iload_n 0, 1) := by decide +kernel
theorem dX5_has_1 : decode cX5_has 1 = .ok (.iload_n 1, 1) := by decide +kernel
theorem dX5_has_2 : decode cX5_has 2 = .ok (.ishr, 1) := by decide +kernel
theorem dX5_has_3 : decode cX5_has 3 = .ok (.iconst 1, 1) := by decide +kernel
theorem dX5_has_4 : decode cX5_has 4 = .ok (.iand, 1) := by decide +kernel
theorem dX5_has_5 : decode cX5_has 5 = .ok (.iconst 1, 1) := by decide +kernel
theorem dX5_has_6 : decode cX5_has 6 = .ok (.if_icmp .ne 7, 3) := by decide +kernel
theorem dX5_has_9 : decode cX5_has 9 = .ok (.iconst 1, 1) := by decide +kernel
theorem dX5_has_10 : decode cX5_has 10 = .ok (.goto 4, 3) := by decide +kernel
theorem dX5_has_13 : decode cX5_has 13 = .ok (.iconst 0, 1) := by decide +kernel
theorem dX5_has_14 : decode cX5_has 14 = .ok (.ireturn, 1) := by decide +kernel
theorem dX5_areHours_0 : decode cX5_areHours 0 = .ok (.iload_n 0, 1) := by decide +kernel
theorem dX5_areHours_1 : decode cX5_areHours 1 = .ok (.iconst 1, 1) := by decide +kernel
theorem dX5_areHours_2 : decode cX5_areHours 2 = .ok (.if_icmp .lt 40, 3) := by decide +kernel
theorem dX5_areHours_5 : decode cX5_areHours 5 = .ok (.iload_n 0, 1) := by decide +kernel
theorem dX5_areHours_6 : decode cX5_areHours 6 = .ok (.bipush 20, 2) := by decide +kernel
theorem dX5_areHours_8 : decode cX5_areHours 8 = .ok (.if_icmp .gt 34, 3) := by decide +kernel
theorem dX5_areHours_11 : decode cX5_areHours 11 = .ok (.iload_n 1, 1) := by decide +kernel
theorem dX5_areHours_12 : decode cX5_areHours 12 = .ok (.ifCond .lt 30, 3) := by decide +kernel
theorem dX5_areHours_15 : decode cX5_areHours 15 = .ok (.iload_n 1, 1) := by decide +kernel
theorem dX5_areHours_16 : decode cX5_areHours 16 = .ok (.sipush 1440, 3) := by decide +kernel
theorem dX5_areHours_19 : decode cX5_areHours 19 = .ok (.if_icmp .ge 23, 3) := by decide +kernel
theorem dX5_areHours_22 : decode cX5_areHours 22 = .ok (.iload_n 2, 1) := by decide +kernel
theorem dX5_areHours_23 : decode cX5_areHours 23 = .ok (.ifCond .lt 19, 3) := by decide +kernel
theorem dX5_areHours_26 : decode cX5_areHours 26 = .ok (.iload_n 2, 1) := by decide +kernel
theorem dX5_areHours_27 : decode cX5_areHours 27 = .ok (.sipush 1440, 3) := by decide +kernel
theorem dX5_areHours_30 : decode cX5_areHours 30 = .ok (.if_icmp .gt 12, 3) := by decide +kernel
theorem dX5_areHours_33 : decode cX5_areHours 33 = .ok (.iload_n 1, 1) := by decide +kernel
theorem dX5_areHours_34 : decode cX5_areHours 34 = .ok (.iload_n 2, 1) := by decide +kernel
theorem dX5_areHours_35 : decode cX5_areHours 35 = .ok (.if_icmp .eq 7, 3) := by decide +kernel
theorem dX5_areHours_38 : decode cX5_areHours 38 = .ok (.iconst 1, 1) := by decide +kernel
theorem dX5_areHours_39 : decode cX5_areHours 39 = .ok (.goto 4, 3) := by decide +kernel
theorem dX5_areHours_42 : decode cX5_areHours 42 = .ok (.iconst 0, 1) := by decide +kernel
theorem dX5_areHours_43 : decode cX5_areHours 43 = .ok (.ireturn, 1) := by decide +kernel
theorem dX5_addZone_0 : decode cX5_addZone 0 = .ok (.aload_n 0, 1) := by decide +kernel
theorem dX5_addZone_1 : decode cX5_addZone 1 = .ok (.iconst 0, 1) := by decide +kernel
theorem dX5_addZone_2 : decode cX5_addZone 2 = .ok (.putfield 54, 3) := by decide +kernel
theorem dX5_addZone_5 : decode cX5_addZone 5 = .ok (.iload_n 1, 1) := by decide +kernel
theorem dX5_addZone_6 : decode cX5_addZone 6 = .ok (.iload_n 2, 1) := by decide +kernel
theorem dX5_addZone_7 : decode cX5_addZone 7 = .ok (.iload_n 3, 1) := by decide +kernel
theorem dX5_addZone_8 : decode cX5_addZone 8 = .ok (.invokestatic 63, 3) := by decide +kernel
theorem dX5_addZone_11 : decode cX5_addZone 11 = .ok (.ifCond .ne 9, 3) := by decide +kernel
theorem dX5_addZone_14 : decode cX5_addZone 14 = .ok (.aload_n 0, 1) := by decide +kernel
theorem dX5_addZone_15 : decode cX5_addZone 15 = .ok (.iconst 1, 1) := by decide +kernel
theorem dX5_addZone_16 : decode cX5_addZone 16 = .ok (.invokevirtual 67, 3) := by decide +kernel
theorem dX5_addZone_19 : decode cX5_addZone 19 = .ok (.ireturn, 1) := by decide +kernel
theorem dX5_addZone_20 : decode cX5_addZone 20 = .ok (.aload_n 0, 1) := by decide +kernel
theorem dX5_addZone_21 : decode cX5_addZone 21 = .ok (.getfield 7, 3) := by decide +kernel
theorem dX5_addZone_24 : decode cX5_addZone 24 = .ok (.bipush 8, 2) := by decide +kernel
theorem dX5_addZone_26 : decode cX5_addZone 26 = .ok (.if_icmp .ne 9, 3) := by decide +kernel
theorem dX5_addZone_29 : decode cX5_addZone 29 = .ok (.aload_n 0, 1) := by decide +kernel
theorem dX5_addZone_30 : decode cX5_addZone 30 = .ok (.iconst 2, 1) := by decide +kernel
theorem dX5_addZone_31 : decode cX5_addZone 31 = .ok (.invokevirtual 67, 3) := by decide +kernel
theorem dX5_addZone_34 : decode cX5_addZone 34 = .ok (.ireturn, 1) := by decide +kernel
theorem dX5_addZone_35 : decode cX5_addZone 35 = .ok (.aload_n 0, 1) := by decide +kernel
theorem dX5_addZone_36 : decode cX5_addZone 36 = .ok (.getfield 13, 3) := by decide +kernel
theorem dX5_addZone_39 : decode cX5_addZone 39 = .ok (.aload_n 0, 1) := by decide +kernel
theorem dX5_addZone_40 : decode cX5_addZone 40 = .ok (.getfield 7, 3) := by decide +kernel
theorem dX5_addZone_43 : decode cX5_addZone 43 = .ok (.iload_n 1, 1) := by decide +kernel
theorem dX5_addZone_44 : decode cX5_addZone 44 = .ok (.iastore, 1) := by decide +kernel
theorem dX5_addZone_45 : decode cX5_addZone 45 = .ok (.aload_n 0, 1) := by decide +kernel
theorem dX5_addZone_46 : decode cX5_addZone 46 = .ok (.getfield 17, 3) := by decide +kernel
theorem dX5_addZone_49 : decode cX5_addZone 49 = .ok (.aload_n 0, 1) := by decide +kernel
theorem dX5_addZone_50 : decode cX5_addZone 50 = .ok (.getfield 7, 3) := by decide +kernel
theorem dX5_addZone_53 : decode cX5_addZone 53 = .ok (.iload_n 2, 1) := by decide +kernel
theorem dX5_addZone_54 : decode cX5_addZone 54 = .ok (.iastore, 1) := by decide +kernel
theorem dX5_addZone_55 : decode cX5_addZone 55 = .ok (.aload_n 0, 1) := by decide +kernel
theorem dX5_addZone_56 : decode cX5_addZone 56 = .ok (.getfield 20, 3) := by decide +kernel
theorem dX5_addZone_59 : decode cX5_addZone 59 = .ok (.aload_n 0, 1) := by decide +kernel
theorem dX5_addZone_60 : decode cX5_addZone 60 = .ok (.getfield 7, 3) := by decide +kernel
theorem dX5_addZone_63 : decode cX5_addZone 63 = .ok (.iload_n 3, 1) := by decide +kernel
theorem dX5_addZone_64 : decode cX5_addZone 64 = .ok (.iastore, 1) := by decide +kernel
theorem dX5_addZone_65 : decode cX5_addZone 65 = .ok (.aload_n 0, 1) := by decide +kernel
theorem dX5_addZone_66 : decode cX5_addZone 66 = .ok (.dup, 1) := by decide +kernel
theorem dX5_addZone_67 : decode cX5_addZone 67 = .ok (.getfield 7, 3) := by decide +kernel
theorem dX5_addZone_70 : decode cX5_addZone 70 = .ok (.iconst 1, 1) := by decide +kernel
theorem dX5_addZone_71 : decode cX5_addZone 71 = .ok (.iadd, 1) := by decide +kernel
theorem dX5_addZone_72 : decode cX5_addZone 72 = .ok (.putfield 7, 3) := by decide +kernel
theorem dX5_addZone_75 : decode cX5_addZone 75 = .ok (.aload_n 0, 1) := by decide +kernel
theorem dX5_addZone_76 : decode cX5_addZone 76 = .ok (.getfield 7, 3) := by decide +kernel
theorem dX5_addZone_79 : decode cX5_addZone 79 = .ok (.iconst 1, 1) := by decide +kernel
theorem dX5_addZone_80 : decode cX5_addZone 80 = .ok (.isub, 1) := by decide +kernel
theorem dX5_addZone_81 : decode cX5_addZone 81 = .ok (.ireturn, 1) := by decide +kernel
theorem dX5_setZone_0 : decode cX5_setZone 0 = .ok (.aload_n 0, 1) := by decide +kernel
theorem dX5_setZone_1 : decode cX5_setZone 1 = .ok (.iconst 0, 1) := by decide +kernel
theorem dX5_setZone_2 : decode cX5_setZone 2 = .ok (.putfield 54, 3) := by decide +kernel
theorem dX5_setZone_5 : decode cX5_setZone 5 = .ok (.aload_n 0, 1) := by decide +kernel
theorem dX5_setZone_6 : decode cX5_setZone 6 = .ok (.iload_n 1, 1) := by decide +kernel
theorem dX5_setZone_7 : decode cX5_setZone 7 = .ok (.invokevirtual 71, 3) := by decide +kernel
theorem dX5_setZone_10 : decode cX5_setZone 10 = .ok (.ifCond .eq 7, 3) := by decide +kernel
theorem dX5_setZone_13 : decode cX5_setZone 13 = .ok (.iload_n 1, 1) := by decide +kernel
theorem dX5_setZone_14 : decode cX5_setZone 14 = .ok (.ifCond .ne 9, 3) := by decide +kernel
theorem dX5_setZone_17 : decode cX5_setZone 17 = .ok (.aload_n 0, 1) := by decide +kernel
theorem dX5_setZone_18 : decode cX5_setZone 18 = .ok (.iconst 1, 1) := by decide +kernel
theorem dX5_setZone_19 : decode cX5_setZone 19 = .ok (.invokevirtual 67, 3) := by decide +kernel
theorem dX5_setZone_22 : decode cX5_setZone 22 = .ok (.ireturn, 1) := by decide +kernel
theorem dX5_setZone_23 : decode cX5_setZone 23 = .ok (.iload_n 2, 1) := by decide +kernel
theorem dX5_setZone_24 : decode cX5_setZone 24 = .ok (.iload_n 3, 1) := by decide +kernel
theorem dX5_setZone_25 : decode cX5_setZone 25 = .ok (.iload 4, 2) := by decide +kernel
theorem dX5_setZone_27 : decode cX5_setZone 27 = .ok (.invokestatic 63, 3) := by decide +kernel
theorem dX5_setZone_30 : decode cX5_setZone 30 = .ok (.ifCond .ne 9, 3) := by decide +kernel
theorem dX5_setZone_33 : decode cX5_setZone 33 = .ok (.aload_n 0, 1) := by decide +kernel
theorem dX5_setZone_34 : decode cX5_setZone 34 = .ok (.iconst 2, 1) := by decide +kernel
theorem dX5_setZone_35 : decode cX5_setZone 35 = .ok (.invokevirtual 67, 3) := by decide +kernel
theorem dX5_setZone_38 : decode cX5_setZone 38 = .ok (.ireturn, 1) := by decide +kernel
theorem dX5_setZone_39 : decode cX5_setZone 39 = .ok (.aload_n 0, 1) := by decide +kernel
theorem dX5_setZone_40 : decode cX5_setZone 40 = .ok (.getfield 13, 3) := by decide +kernel
theorem dX5_setZone_43 : decode cX5_setZone 43 = .ok (.iload_n 1, 1) := by decide +kernel
theorem dX5_setZone_44 : decode cX5_setZone 44 = .ok (.iload_n 2, 1) := by decide +kernel
theorem dX5_setZone_45 : decode cX5_setZone 45 = .ok (.iastore, 1) := by decide +kernel
theorem dX5_setZone_46 : decode cX5_setZone 46 = .ok (.aload_n 0, 1) := by decide +kernel
theorem dX5_setZone_47 : decode cX5_setZone 47 = .ok (.getfield 17, 3) := by decide +kernel
theorem dX5_setZone_50 : decode cX5_setZone 50 = .ok (.iload_n 1, 1) := by decide +kernel
theorem dX5_setZone_51 : decode cX5_setZone 51 = .ok (.iload_n 3, 1) := by decide +kernel
theorem dX5_setZone_52 : decode cX5_setZone 52 = .ok (.iastore, 1) := by decide +kernel
theorem dX5_setZone_53 : decode cX5_setZone 53 = .ok (.aload_n 0, 1) := by decide +kernel
theorem dX5_setZone_54 : decode cX5_setZone 54 = .ok (.getfield 20, 3) := by decide +kernel
theorem dX5_setZone_57 : decode cX5_setZone 57 = .ok (.iload_n 1, 1) := by decide +kernel
theorem dX5_setZone_58 : decode cX5_setZone 58 = .ok (.iload 4, 2) := by decide +kernel
theorem dX5_setZone_60 : decode cX5_setZone 60 = .ok (.iastore, 1) := by decide +kernel
theorem dX5_setZone_61 : decode cX5_setZone 61 = .ok (.aload_n 0, 1) := by decide +kernel
theorem dX5_setZone_62 : decode cX5_setZone 62 = .ok (.iload_n 1, 1) := by decide +kernel
theorem dX5_setZone_63 : decode cX5_setZone 63 = .ok (.invokevirtual 75, 3) := by decide +kernel
theorem dX5_setZone_66 : decode cX5_setZone 66 = .ok (.invokestatic 78, 3) := by decide +kernel
theorem dX5_setZone_69 : decode cX5_setZone 69 = .ok (.ireturn, 1) := by decide +kernel
theorem dX5_addDoor_0 : decode cX5_addDoor 0 = .ok (.aload_n 0, 1) := by decide +kernel
theorem dX5_addDoor_1 : decode cX5_addDoor 1 = .ok (.iconst 0, 1) := by decide +kernel
theorem dX5_addDoor_2 : decode cX5_addDoor 2 = .ok (.putfield 54, 3) := by decide +kernel
theorem dX5_addDoor_5 : decode cX5_addDoor 5 = .ok (.aload_n 0, 1) := by decide +kernel
theorem dX5_addDoor_6 : decode cX5_addDoor 6 = .ok (.iload_n 1, 1) := by decide +kernel
theorem dX5_addDoor_7 : decode cX5_addDoor 7 = .ok (.invokevirtual 71, 3) := by decide +kernel
theorem dX5_addDoor_10 : decode cX5_addDoor 10 = .ok (.ifCond .eq 11, 3) := by decide +kernel
theorem dX5_addDoor_13 : decode cX5_addDoor 13 = .ok (.aload_n 0, 1) := by decide +kernel
theorem dX5_addDoor_14 : decode cX5_addDoor 14 = .ok (.iload_n 2, 1) := by decide +kernel
theorem dX5_addDoor_15 : decode cX5_addDoor 15 = .ok (.invokevirtual 71, 3) := by decide +kernel
theorem dX5_addDoor_18 : decode cX5_addDoor 18 = .ok (.ifCond .ne 9, 3) := by decide +kernel
theorem dX5_addDoor_21 : decode cX5_addDoor 21 = .ok (.aload_n 0, 1) := by decide +kernel
theorem dX5_addDoor_22 : decode cX5_addDoor 22 = .ok (.iconst 1, 1) := by decide +kernel
theorem dX5_addDoor_23 : decode cX5_addDoor 23 = .ok (.invokevirtual 67, 3) := by decide +kernel
theorem dX5_addDoor_26 : decode cX5_addDoor 26 = .ok (.ireturn, 1) := by decide +kernel
theorem dX5_addDoor_27 : decode cX5_addDoor 27 = .ok (.iload_n 1, 1) := by decide +kernel
theorem dX5_addDoor_28 : decode cX5_addDoor 28 = .ok (.iload_n 2, 1) := by decide +kernel
theorem dX5_addDoor_29 : decode cX5_addDoor 29 = .ok (.if_icmp .eq 24, 3) := by decide +kernel
theorem dX5_addDoor_32 : decode cX5_addDoor 32 = .ok (.iload_n 3, 1) := by decide +kernel
theorem dX5_addDoor_33 : decode cX5_addDoor 33 = .ok (.ifCond .lt 20, 3) := by decide +kernel
theorem dX5_addDoor_36 : decode cX5_addDoor 36 = .ok (.iload_n 3, 1) := by decide +kernel
theorem dX5_addDoor_37 : decode cX5_addDoor 37 = .ok (.bipush 9, 2) := by decide +kernel
theorem dX5_addDoor_39 : decode cX5_addDoor 39 = .ok (.if_icmp .gt 14, 3) := by decide +kernel
theorem dX5_addDoor_42 : decode cX5_addDoor 42 = .ok (.iload 4, 2) := by decide +kernel
theorem dX5_addDoor_44 : decode cX5_addDoor 44 = .ok (.ifCond .lt 9, 3) := by decide +kernel
theorem dX5_addDoor_47 : decode cX5_addDoor 47 = .ok (.iload 4, 2) := by decide +kernel
theorem dX5_addDoor_49 : decode cX5_addDoor 49 = .ok (.iconst 3, 1) := by decide +kernel
theorem dX5_addDoor_50 : decode cX5_addDoor 50 = .ok (.if_icmp .le 9, 3) := by decide +kernel
theorem dX5_addDoor_53 : decode cX5_addDoor 53 = .ok (.aload_n 0, 1) := by decide +kernel
theorem dX5_addDoor_54 : decode cX5_addDoor 54 = .ok (.iconst 2, 1) := by decide +kernel
theorem dX5_addDoor_55 : decode cX5_addDoor 55 = .ok (.invokevirtual 67, 3) := by decide +kernel
theorem dX5_addDoor_58 : decode cX5_addDoor 58 = .ok (.ireturn, 1) := by decide +kernel
theorem dX5_addDoor_59 : decode cX5_addDoor 59 = .ok (.aload_n 0, 1) := by decide +kernel
theorem dX5_addDoor_60 : decode cX5_addDoor 60 = .ok (.getfield 57, 3) := by decide +kernel
theorem dX5_addDoor_63 : decode cX5_addDoor 63 = .ok (.bipush 12, 2) := by decide +kernel
theorem dX5_addDoor_65 : decode cX5_addDoor 65 = .ok (.if_icmp .ne 9, 3) := by decide +kernel
theorem dX5_addDoor_68 : decode cX5_addDoor 68 = .ok (.aload_n 0, 1) := by decide +kernel
theorem dX5_addDoor_69 : decode cX5_addDoor 69 = .ok (.iconst 3, 1) := by decide +kernel
theorem dX5_addDoor_70 : decode cX5_addDoor 70 = .ok (.invokevirtual 67, 3) := by decide +kernel
theorem dX5_addDoor_73 : decode cX5_addDoor 73 = .ok (.ireturn, 1) := by decide +kernel
theorem dX5_addDoor_74 : decode cX5_addDoor 74 = .ok (.aload_n 0, 1) := by decide +kernel
theorem dX5_addDoor_75 : decode cX5_addDoor 75 = .ok (.getfield 23, 3) := by decide +kernel
theorem dX5_addDoor_78 : decode cX5_addDoor 78 = .ok (.iconst 2, 1) := by decide +kernel
theorem dX5_addDoor_79 : decode cX5_addDoor 79 = .ok (.aload_n 0, 1) := by decide +kernel
theorem dX5_addDoor_80 : decode cX5_addDoor 80 = .ok (.getfield 57, 3) := by decide +kernel
theorem dX5_addDoor_83 : decode cX5_addDoor 83 = .ok (.imul, 1) := by decide +kernel
theorem dX5_addDoor_84 : decode cX5_addDoor 84 = .ok (.iload_n 1, 1) := by decide +kernel
theorem dX5_addDoor_85 : decode cX5_addDoor 85 = .ok (.iastore, 1) := by decide +kernel
theorem dX5_addDoor_86 : decode cX5_addDoor 86 = .ok (.aload_n 0, 1) := by decide +kernel
theorem dX5_addDoor_87 : decode cX5_addDoor 87 = .ok (.getfield 23, 3) := by decide +kernel
theorem dX5_addDoor_90 : decode cX5_addDoor 90 = .ok (.iconst 2, 1) := by decide +kernel
theorem dX5_addDoor_91 : decode cX5_addDoor 91 = .ok (.aload_n 0, 1) := by decide +kernel
theorem dX5_addDoor_92 : decode cX5_addDoor 92 = .ok (.getfield 57, 3) := by decide +kernel
theorem dX5_addDoor_95 : decode cX5_addDoor 95 = .ok (.imul, 1) := by decide +kernel
theorem dX5_addDoor_96 : decode cX5_addDoor 96 = .ok (.iconst 1, 1) := by decide +kernel
theorem dX5_addDoor_97 : decode cX5_addDoor 97 = .ok (.iadd, 1) := by decide +kernel
theorem dX5_addDoor_98 : decode cX5_addDoor 98 = .ok (.iload_n 2, 1) := by decide +kernel
theorem dX5_addDoor_99 : decode cX5_addDoor 99 = .ok (.iastore, 1) := by decide +kernel
theorem dX5_addDoor_100 : decode cX5_addDoor 100 = .ok (.aload_n 0, 1) := by decide +kernel
theorem dX5_addDoor_101 : decode cX5_addDoor 101 = .ok (.getfield 26, 3) := by decide +kernel
theorem dX5_addDoor_104 : decode cX5_addDoor 104 = .ok (.aload_n 0, 1) := by decide +kernel
theorem dX5_addDoor_105 : decode cX5_addDoor 105 = .ok (.getfield 57, 3) := by decide +kernel
theorem dX5_addDoor_108 : decode cX5_addDoor 108 = .ok (.iload_n 3, 1) := by decide +kernel
theorem dX5_addDoor_109 : decode cX5_addDoor 109 = .ok (.iastore, 1) := by decide +kernel
theorem dX5_addDoor_110 : decode cX5_addDoor 110 = .ok (.aload_n 0, 1) := by decide +kernel
theorem dX5_addDoor_111 : decode cX5_addDoor 111 = .ok (.getfield 29, 3) := by decide +kernel
theorem dX5_addDoor_114 : decode cX5_addDoor 114 = .ok (.aload_n 0, 1) := by decide +kernel
theorem dX5_addDoor_115 : decode cX5_addDoor 115 = .ok (.getfield 57, 3) := by decide +kernel
theorem dX5_addDoor_118 : decode cX5_addDoor 118 = .ok (.iload 4, 2) := by decide +kernel
theorem dX5_addDoor_120 : decode cX5_addDoor 120 = .ok (.iastore, 1) := by decide +kernel
theorem dX5_addDoor_121 : decode cX5_addDoor 121 = .ok (.aload_n 0, 1) := by decide +kernel
theorem dX5_addDoor_122 : decode cX5_addDoor 122 = .ok (.getfield 32, 3) := by decide +kernel
theorem dX5_addDoor_125 : decode cX5_addDoor 125 = .ok (.aload_n 0, 1) := by decide +kernel
theorem dX5_addDoor_126 : decode cX5_addDoor 126 = .ok (.getfield 57, 3) := by decide +kernel
theorem dX5_addDoor_129 : decode cX5_addDoor 129 = .ok (.iconst 0, 1) := by decide +kernel
theorem dX5_addDoor_130 : decode cX5_addDoor 130 = .ok (.iastore, 1) := by decide +kernel
theorem dX5_addDoor_131 : decode cX5_addDoor 131 = .ok (.aload_n 0, 1) := by decide +kernel
theorem dX5_addDoor_132 : decode cX5_addDoor 132 = .ok (.dup, 1) := by decide +kernel
theorem dX5_addDoor_133 : decode cX5_addDoor 133 = .ok (.getfield 57, 3) := by decide +kernel
theorem dX5_addDoor_136 : decode cX5_addDoor 136 = .ok (.iconst 1, 1) := by decide +kernel
theorem dX5_addDoor_137 : decode cX5_addDoor 137 = .ok (.iadd, 1) := by decide +kernel
theorem dX5_addDoor_138 : decode cX5_addDoor 138 = .ok (.putfield 57, 3) := by decide +kernel
theorem dX5_addDoor_141 : decode cX5_addDoor 141 = .ok (.aload_n 0, 1) := by decide +kernel
theorem dX5_addDoor_142 : decode cX5_addDoor 142 = .ok (.getfield 57, 3) := by decide +kernel
theorem dX5_addDoor_145 : decode cX5_addDoor 145 = .ok (.iconst 1, 1) := by decide +kernel
theorem dX5_addDoor_146 : decode cX5_addDoor 146 = .ok (.isub, 1) := by decide +kernel
theorem dX5_addDoor_147 : decode cX5_addDoor 147 = .ok (.ireturn, 1) := by decide +kernel
theorem dX5_across_0 : decode cX5_across 0 = .ok (.aload_n 0, 1) := by decide +kernel
theorem dX5_across_1 : decode cX5_across 1 = .ok (.getfield 23, 3) := by decide +kernel
theorem dX5_across_4 : decode cX5_across 4 = .ok (.iconst 2, 1) := by decide +kernel
theorem dX5_across_5 : decode cX5_across 5 = .ok (.iload_n 1, 1) := by decide +kernel
theorem dX5_across_6 : decode cX5_across 6 = .ok (.imul, 1) := by decide +kernel
theorem dX5_across_7 : decode cX5_across 7 = .ok (.iaload, 1) := by decide +kernel
theorem dX5_across_8 : decode cX5_across 8 = .ok (.iload_n 2, 1) := by decide +kernel
theorem dX5_across_9 : decode cX5_across 9 = .ok (.if_icmp .ne 16, 3) := by decide +kernel
theorem dX5_across_12 : decode cX5_across 12 = .ok (.aload_n 0, 1) := by decide +kernel
theorem dX5_across_13 : decode cX5_across 13 = .ok (.getfield 23, 3) := by decide +kernel
theorem dX5_across_16 : decode cX5_across 16 = .ok (.iconst 2, 1) := by decide +kernel
theorem dX5_across_17 : decode cX5_across 17 = .ok (.iload_n 1, 1) := by decide +kernel
theorem dX5_across_18 : decode cX5_across 18 = .ok (.imul, 1) := by decide +kernel
theorem dX5_across_19 : decode cX5_across 19 = .ok (.iconst 1, 1) := by decide +kernel
theorem dX5_across_20 : decode cX5_across 20 = .ok (.iadd, 1) := by decide +kernel
theorem dX5_across_21 : decode cX5_across 21 = .ok (.iaload, 1) := by decide +kernel
theorem dX5_across_22 : decode cX5_across 22 = .ok (.goto 29, 3) := by decide +kernel
theorem dX5_across_25 : decode cX5_across 25 = .ok (.aload_n 0, 1) := by decide +kernel
theorem dX5_across_26 : decode cX5_across 26 = .ok (.getfield 23, 3) := by decide +kernel
theorem dX5_across_29 : decode cX5_across 29 = .ok (.iconst 2, 1) := by decide +kernel
theorem dX5_across_30 : decode cX5_across 30 = .ok (.iload_n 1, 1) := by decide +kernel
theorem dX5_across_31 : decode cX5_across 31 = .ok (.imul, 1) := by decide +kernel
theorem dX5_across_32 : decode cX5_across 32 = .ok (.iconst 1, 1) := by decide +kernel
theorem dX5_across_33 : decode cX5_across 33 = .ok (.iadd, 1) := by decide +kernel
theorem dX5_across_34 : decode cX5_across 34 = .ok (.iaload, 1) := by decide +kernel
theorem dX5_across_35 : decode cX5_across 35 = .ok (.iload_n 2, 1) := by decide +kernel
theorem dX5_across_36 : decode cX5_across 36 = .ok (.if_icmp .ne 14, 3) := by decide +kernel
theorem dX5_across_39 : decode cX5_across 39 = .ok (.aload_n 0, 1) := by decide +kernel
theorem dX5_across_40 : decode cX5_across 40 = .ok (.getfield 23, 3) := by decide +kernel
theorem dX5_across_43 : decode cX5_across 43 = .ok (.iconst 2, 1) := by decide +kernel
theorem dX5_across_44 : decode cX5_across 44 = .ok (.iload_n 1, 1) := by decide +kernel
theorem dX5_across_45 : decode cX5_across 45 = .ok (.imul, 1) := by decide +kernel
theorem dX5_across_46 : decode cX5_across 46 = .ok (.iaload, 1) := by decide +kernel
theorem dX5_across_47 : decode cX5_across 47 = .ok (.goto 4, 3) := by decide +kernel
theorem dX5_across_50 : decode cX5_across 50 = .ok (.iconst (-1), 1) := by decide +kernel
theorem dX5_across_51 : decode cX5_across 51 = .ok (.ireturn, 1) := by decide +kernel
theorem dX5_steps_0 : decode cX5_steps 0 = .ok (.iconst 1, 1) := by decide +kernel
theorem dX5_steps_1 : decode cX5_steps 1 = .ok (.iload_n 1, 1) := by decide +kernel
theorem dX5_steps_2 : decode cX5_steps 2 = .ok (.ishl, 1) := by decide +kernel
theorem dX5_steps_3 : decode cX5_steps 3 = .ok (.istore 4, 2) := by decide +kernel
theorem dX5_steps_5 : decode cX5_steps 5 = .ok (.iconst 0, 1) := by decide +kernel
theorem dX5_steps_6 : decode cX5_steps 6 = .ok (.istore 5, 2) := by decide +kernel
theorem dX5_steps_8 : decode cX5_steps 8 = .ok (.iload 5, 2) := by decide +kernel
theorem dX5_steps_10 : decode cX5_steps 10 = .ok (.bipush 8, 2) := by decide +kernel
theorem dX5_steps_12 : decode cX5_steps 12 = .ok (.if_icmp .gt 127, 3) := by decide +kernel
theorem dX5_steps_15 : decode cX5_steps 15 = .ok (.iload 4, 2) := by decide +kernel
theorem dX5_steps_17 : decode cX5_steps 17 = .ok (.iload_n 2, 1) := by decide +kernel
theorem dX5_steps_18 : decode cX5_steps 18 = .ok (.invokestatic 83, 3) := by decide +kernel
theorem dX5_steps_21 : decode cX5_steps 21 = .ok (.ifCond .eq 6, 3) := by decide +kernel
theorem dX5_steps_24 : decode cX5_steps 24 = .ok (.iload 5, 2) := by decide +kernel
theorem dX5_steps_26 : decode cX5_steps 26 = .ok (.ireturn, 1) := by decide +kernel
theorem dX5_steps_27 : decode cX5_steps 27 = .ok (.iload 4, 2) := by decide +kernel
theorem dX5_steps_29 : decode cX5_steps 29 = .ok (.istore 6, 2) := by decide +kernel
theorem dX5_steps_31 : decode cX5_steps 31 = .ok (.iconst 0, 1) := by decide +kernel
theorem dX5_steps_32 : decode cX5_steps 32 = .ok (.istore 7, 2) := by decide +kernel
theorem dX5_steps_34 : decode cX5_steps 34 = .ok (.iload 7, 2) := by decide +kernel
theorem dX5_steps_36 : decode cX5_steps 36 = .ok (.aload_n 0, 1) := by decide +kernel
theorem dX5_steps_37 : decode cX5_steps 37 = .ok (.getfield 57, 3) := by decide +kernel
theorem dX5_steps_40 : decode cX5_steps 40 = .ok (.if_icmp .ge 89, 3) := by decide +kernel
theorem dX5_steps_43 : decode cX5_steps 43 = .ok (.aload_n 0, 1) := by decide +kernel
theorem dX5_steps_44 : decode cX5_steps 44 = .ok (.getfield 23, 3) := by decide +kernel
theorem dX5_steps_47 : decode cX5_steps 47 = .ok (.iconst 2, 1) := by decide +kernel
theorem dX5_steps_48 : decode cX5_steps 48 = .ok (.iload 7, 2) := by decide +kernel
theorem dX5_steps_50 : decode cX5_steps 50 = .ok (.imul, 1) := by decide +kernel
theorem dX5_steps_51 : decode cX5_steps 51 = .ok (.iaload, 1) := by decide +kernel
theorem dX5_steps_52 : decode cX5_steps 52 = .ok (.istore 8, 2) := by decide +kernel
theorem dX5_steps_54 : decode cX5_steps 54 = .ok (.aload_n 0, 1) := by decide +kernel
theorem dX5_steps_55 : decode cX5_steps 55 = .ok (.getfield 23, 3) := by decide +kernel
theorem dX5_steps_58 : decode cX5_steps 58 = .ok (.iconst 2, 1) := by decide +kernel
theorem dX5_steps_59 : decode cX5_steps 59 = .ok (.iload 7, 2) := by decide +kernel
theorem dX5_steps_61 : decode cX5_steps 61 = .ok (.imul, 1) := by decide +kernel
theorem dX5_steps_62 : decode cX5_steps 62 = .ok (.iconst 1, 1) := by decide +kernel
theorem dX5_steps_63 : decode cX5_steps 63 = .ok (.iadd, 1) := by decide +kernel
theorem dX5_steps_64 : decode cX5_steps 64 = .ok (.iaload, 1) := by decide +kernel
theorem dX5_steps_65 : decode cX5_steps 65 = .ok (.istore 9, 2) := by decide +kernel
theorem dX5_steps_67 : decode cX5_steps 67 = .ok (.iload 4, 2) := by decide +kernel
theorem dX5_steps_69 : decode cX5_steps 69 = .ok (.iload 8, 2) := by decide +kernel
theorem dX5_steps_71 : decode cX5_steps 71 = .ok (.invokestatic 83, 3) := by decide +kernel
theorem dX5_steps_74 : decode cX5_steps 74 = .ok (.ifCond .eq 21, 3) := by decide +kernel
theorem dX5_steps_77 : decode cX5_steps 77 = .ok (.iload_n 3, 1) := by decide +kernel
theorem dX5_steps_78 : decode cX5_steps 78 = .ok (.iload 9, 2) := by decide +kernel
theorem dX5_steps_80 : decode cX5_steps 80 = .ok (.invokestatic 83, 3) := by decide +kernel
theorem dX5_steps_83 : decode cX5_steps 83 = .ok (.ifCond .eq 12, 3) := by decide +kernel
theorem dX5_steps_86 : decode cX5_steps 86 = .ok (.iload 6, 2) := by decide +kernel
theorem dX5_steps_88 : decode cX5_steps 88 = .ok (.iconst 1, 1) := by decide +kernel
theorem dX5_steps_89 : decode cX5_steps 89 = .ok (.iload 9, 2) := by decide +kernel
theorem dX5_steps_91 : decode cX5_steps 91 = .ok (.ishl, 1) := by decide +kernel
theorem dX5_steps_92 : decode cX5_steps 92 = .ok (.ior, 1) := by decide +kernel
theorem dX5_steps_93 : decode cX5_steps 93 = .ok (.istore 6, 2) := by decide +kernel
theorem dX5_steps_95 : decode cX5_steps 95 = .ok (.iload 4, 2) := by decide +kernel
theorem dX5_steps_97 : decode cX5_steps 97 = .ok (.iload 9, 2) := by decide +kernel
theorem dX5_steps_99 : decode cX5_steps 99 = .ok (.invokestatic 83, 3) := by decide +kernel
theorem dX5_steps_102 : decode cX5_steps 102 = .ok (.ifCond .eq 21, 3) := by decide +kernel
theorem dX5_steps_105 : decode cX5_steps 105 = .ok (.iload_n 3, 1) := by decide +kernel
theorem dX5_steps_106 : decode cX5_steps 106 = .ok (.iload 8, 2) := by decide +kernel
theorem dX5_steps_108 : decode cX5_steps 108 = .ok (.invokestatic 83, 3) := by decide +kernel
theorem dX5_steps_111 : decode cX5_steps 111 = .ok (.ifCond .eq 12, 3) := by decide +kernel
theorem dX5_steps_114 : decode cX5_steps 114 = .ok (.iload 6, 2) := by decide +kernel
theorem dX5_steps_116 : decode cX5_steps 116 = .ok (.iconst 1, 1) := by decide +kernel
theorem dX5_steps_117 : decode cX5_steps 117 = .ok (.iload 8, 2) := by decide +kernel
theorem dX5_steps_119 : decode cX5_steps 119 = .ok (.ishl, 1) := by decide +kernel
theorem dX5_steps_120 : decode cX5_steps 120 = .ok (.ior, 1) := by decide +kernel
theorem dX5_steps_121 : decode cX5_steps 121 = .ok (.istore 6, 2) := by decide +kernel
theorem dX5_steps_123 : decode cX5_steps 123 = .ok (.iinc 7 1, 3) := by decide +kernel
theorem dX5_steps_126 : decode cX5_steps 126 = .ok (.goto (-92), 3) := by decide +kernel
theorem dX5_steps_129 : decode cX5_steps 129 = .ok (.iload 6, 2) := by decide +kernel
theorem dX5_steps_131 : decode cX5_steps 131 = .ok (.istore 4, 2) := by decide +kernel
theorem dX5_steps_133 : decode cX5_steps 133 = .ok (.iinc 5 1, 3) := by decide +kernel
theorem dX5_steps_136 : decode cX5_steps 136 = .ok (.goto (-128), 3) := by decide +kernel
theorem dX5_steps_139 : decode cX5_steps 139 = .ok (.iconst (-1), 1) := by decide +kernel
theorem dX5_steps_140 : decode cX5_steps 140 = .ok (.ireturn, 1) := by decide +kernel
theorem dX5_distance_0 : decode cX5_distance 0 = .ok (.aload_n 0, 1) := by decide +kernel
theorem dX5_distance_1 : decode cX5_distance 1 = .ok (.iconst 0, 1) := by decide +kernel
theorem dX5_distance_2 : decode cX5_distance 2 = .ok (.putfield 54, 3) := by decide +kernel
theorem dX5_distance_5 : decode cX5_distance 5 = .ok (.aload_n 0, 1) := by decide +kernel
theorem dX5_distance_6 : decode cX5_distance 6 = .ok (.iload_n 1, 1) := by decide +kernel
theorem dX5_distance_7 : decode cX5_distance 7 = .ok (.invokevirtual 71, 3) := by decide +kernel
theorem dX5_distance_10 : decode cX5_distance 10 = .ok (.ifCond .eq 15, 3) := by decide +kernel
theorem dX5_distance_13 : decode cX5_distance 13 = .ok (.aload_n 0, 1) := by decide +kernel
theorem dX5_distance_14 : decode cX5_distance 14 = .ok (.iload_n 1, 1) := by decide +kernel
theorem dX5_distance_15 : decode cX5_distance 15 = .ok (.iconst 0, 1) := by decide +kernel
theorem dX5_distance_16 : decode cX5_distance 16 = .ok (.sipush 255, 3) := by decide +kernel
theorem dX5_distance_19 : decode cX5_distance 19 = .ok (.invokevirtual 87, 3) := by decide +kernel
theorem dX5_distance_22 : decode cX5_distance 22 = .ok (.goto 8, 3) := by decide +kernel
theorem dX5_distance_25 : decode cX5_distance 25 = .ok (.aload_n 0, 1) := by decide +kernel
theorem dX5_distance_26 : decode cX5_distance 26 = .ok (.iconst 1, 1) := by decide +kernel
theorem dX5_distance_27 : decode cX5_distance 27 = .ok (.invokevirtual 67, 3) := by decide +kernel
theorem dX5_distance_30 : decode cX5_distance 30 = .ok (.ireturn, 1) := by decide +kernel
theorem dX5_isOpenNow_0 : decode cX5_isOpenNow 0 = .ok (.aload_n 0, 1) := by decide +kernel
theorem dX5_isOpenNow_1 : decode cX5_isOpenNow 1 = .ok (.getfield 91, 3) := by decide +kernel
theorem dX5_isOpenNow_4 : decode cX5_isOpenNow 4 = .ok (.sipush 1440, 3) := by decide +kernel
theorem dX5_isOpenNow_7 : decode cX5_isOpenNow 7 = .ok (.irem, 1) := by decide +kernel
theorem dX5_isOpenNow_8 : decode cX5_isOpenNow 8 = .ok (.istore_n 2, 1) := by decide +kernel
theorem dX5_isOpenNow_9 : decode cX5_isOpenNow 9 = .ok (.iload_n 1, 1) := by decide +kernel
theorem dX5_isOpenNow_10 : decode cX5_isOpenNow 10 = .ok (.ifCond .ne 5, 3) := by decide +kernel
theorem dX5_isOpenNow_13 : decode cX5_isOpenNow 13 = .ok (.iconst 1, 1) := by decide +kernel
theorem dX5_isOpenNow_14 : decode cX5_isOpenNow 14 = .ok (.ireturn, 1) := by decide +kernel
theorem dX5_isOpenNow_15 : decode cX5_isOpenNow 15 = .ok (.aload_n 0, 1) := by decide +kernel
theorem dX5_isOpenNow_16 : decode cX5_isOpenNow 16 = .ok (.getfield 17, 3) := by decide +kernel
theorem dX5_isOpenNow_19 : decode cX5_isOpenNow 19 = .ok (.iload_n 1, 1) := by decide +kernel
theorem dX5_isOpenNow_20 : decode cX5_isOpenNow 20 = .ok (.iaload, 1) := by decide +kernel
theorem dX5_isOpenNow_21 : decode cX5_isOpenNow 21 = .ok (.aload_n 0, 1) := by decide +kernel
theorem dX5_isOpenNow_22 : decode cX5_isOpenNow 22 = .ok (.getfield 20, 3) := by decide +kernel
theorem dX5_isOpenNow_25 : decode cX5_isOpenNow 25 = .ok (.iload_n 1, 1) := by decide +kernel
theorem dX5_isOpenNow_26 : decode cX5_isOpenNow 26 = .ok (.iaload, 1) := by decide +kernel
theorem dX5_isOpenNow_27 : decode cX5_isOpenNow 27 = .ok (.if_icmp .ge 31, 3) := by decide +kernel
theorem dX5_isOpenNow_30 : decode cX5_isOpenNow 30 = .ok (.iload_n 2, 1) := by decide +kernel
theorem dX5_isOpenNow_31 : decode cX5_isOpenNow 31 = .ok (.aload_n 0, 1) := by decide +kernel
theorem dX5_isOpenNow_32 : decode cX5_isOpenNow 32 = .ok (.getfield 17, 3) := by decide +kernel
theorem dX5_isOpenNow_35 : decode cX5_isOpenNow 35 = .ok (.iload_n 1, 1) := by decide +kernel
theorem dX5_isOpenNow_36 : decode cX5_isOpenNow 36 = .ok (.iaload, 1) := by decide +kernel
theorem dX5_isOpenNow_37 : decode cX5_isOpenNow 37 = .ok (.if_icmp .lt 17, 3) := by decide +kernel
theorem dX5_isOpenNow_40 : decode cX5_isOpenNow 40 = .ok (.iload_n 2, 1) := by decide +kernel
theorem dX5_isOpenNow_41 : decode cX5_isOpenNow 41 = .ok (.aload_n 0, 1) := by decide +kernel
theorem dX5_isOpenNow_42 : decode cX5_isOpenNow 42 = .ok (.getfield 20, 3) := by decide +kernel
theorem dX5_isOpenNow_45 : decode cX5_isOpenNow 45 = .ok (.iload_n 1, 1) := by decide +kernel
theorem dX5_isOpenNow_46 : decode cX5_isOpenNow 46 = .ok (.iaload, 1) := by decide +kernel
theorem dX5_isOpenNow_47 : decode cX5_isOpenNow 47 = .ok (.if_icmp .ge 7, 3) := by decide +kernel
theorem dX5_isOpenNow_50 : decode cX5_isOpenNow 50 = .ok (.iconst 1, 1) := by decide +kernel
theorem dX5_isOpenNow_51 : decode cX5_isOpenNow 51 = .ok (.goto 32, 3) := by decide +kernel
theorem dX5_isOpenNow_54 : decode cX5_isOpenNow 54 = .ok (.iconst 0, 1) := by decide +kernel
theorem dX5_isOpenNow_55 : decode cX5_isOpenNow 55 = .ok (.goto 28, 3) := by decide +kernel
theorem dX5_isOpenNow_58 : decode cX5_isOpenNow 58 = .ok (.iload_n 2, 1) := by decide +kernel
theorem dX5_isOpenNow_59 : decode cX5_isOpenNow 59 = .ok (.aload_n 0, 1) := by decide +kernel
theorem dX5_isOpenNow_60 : decode cX5_isOpenNow 60 = .ok (.getfield 17, 3) := by decide +kernel
theorem dX5_isOpenNow_63 : decode cX5_isOpenNow 63 = .ok (.iload_n 1, 1) := by decide +kernel
theorem dX5_isOpenNow_64 : decode cX5_isOpenNow 64 = .ok (.iaload, 1) := by decide +kernel
theorem dX5_isOpenNow_65 : decode cX5_isOpenNow 65 = .ok (.if_icmp .ge 13, 3) := by decide +kernel
theorem dX5_isOpenNow_68 : decode cX5_isOpenNow 68 = .ok (.iload_n 2, 1) := by decide +kernel
theorem dX5_isOpenNow_69 : decode cX5_isOpenNow 69 = .ok (.aload_n 0, 1) := by decide +kernel
theorem dX5_isOpenNow_70 : decode cX5_isOpenNow 70 = .ok (.getfield 20, 3) := by decide +kernel
theorem dX5_isOpenNow_73 : decode cX5_isOpenNow 73 = .ok (.iload_n 1, 1) := by decide +kernel
theorem dX5_isOpenNow_74 : decode cX5_isOpenNow 74 = .ok (.iaload, 1) := by decide +kernel
theorem dX5_isOpenNow_75 : decode cX5_isOpenNow 75 = .ok (.if_icmp .ge 7, 3) := by decide +kernel
theorem dX5_isOpenNow_78 : decode cX5_isOpenNow 78 = .ok (.iconst 1, 1) := by decide +kernel
theorem dX5_isOpenNow_79 : decode cX5_isOpenNow 79 = .ok (.goto 4, 3) := by decide +kernel
theorem dX5_isOpenNow_82 : decode cX5_isOpenNow 82 = .ok (.iconst 0, 1) := by decide +kernel
theorem dX5_isOpenNow_83 : decode cX5_isOpenNow 83 = .ok (.ireturn, 1) := by decide +kernel
theorem dX5_isOpen_0 : decode cX5_isOpen 0 = .ok (.aload_n 0, 1) := by decide +kernel
theorem dX5_isOpen_1 : decode cX5_isOpen 1 = .ok (.aload_n 0, 1) := by decide +kernel
theorem dX5_isOpen_2 : decode cX5_isOpen 2 = .ok (.iload_n 1, 1) := by decide +kernel
theorem dX5_isOpen_3 : decode cX5_isOpen 3 = .ok (.invokevirtual 71, 3) := by decide +kernel
theorem dX5_isOpen_6 : decode cX5_isOpen 6 = .ok (.ifCond .eq 7, 3) := by decide +kernel
theorem dX5_isOpen_9 : decode cX5_isOpen 9 = .ok (.iconst 0, 1) := by decide +kernel
theorem dX5_isOpen_10 : decode cX5_isOpen 10 = .ok (.goto 4, 3) := by decide +kernel
theorem dX5_isOpen_13 : decode cX5_isOpen 13 = .ok (.iconst 1, 1) := by decide +kernel
theorem dX5_isOpen_14 : decode cX5_isOpen 14 = .ok (.putfield 54, 3) := by decide +kernel
theorem dX5_isOpen_17 : decode cX5_isOpen 17 = .ok (.aload_n 0, 1) := by decide +kernel
theorem dX5_isOpen_18 : decode cX5_isOpen 18 = .ok (.getfield 54, 3) := by decide +kernel
theorem dX5_isOpen_21 : decode cX5_isOpen 21 = .ok (.ifCond .ne 15, 3) := by decide +kernel
theorem dX5_isOpen_24 : decode cX5_isOpen 24 = .ok (.aload_n 0, 1) := by decide +kernel
theorem dX5_isOpen_25 : decode cX5_isOpen 25 = .ok (.iload_n 1, 1) := by decide +kernel
theorem dX5_isOpen_26 : decode cX5_isOpen 26 = .ok (.invokevirtual 94, 3) := by decide +kernel
theorem dX5_isOpen_29 : decode cX5_isOpen 29 = .ok (.ifCond .eq 7, 3) := by decide +kernel
theorem dX5_isOpen_32 : decode cX5_isOpen 32 = .ok (.iconst 1, 1) := by decide +kernel
theorem dX5_isOpen_33 : decode cX5_isOpen 33 = .ok (.goto 4, 3) := by decide +kernel
theorem dX5_isOpen_36 : decode cX5_isOpen 36 = .ok (.iconst 0, 1) := by decide +kernel
theorem dX5_isOpen_37 : decode cX5_isOpen 37 = .ok (.ireturn, 1) := by decide +kernel
theorem dX5_left_0 : decode cX5_left 0 = .ok (.iconst 0, 1) := by decide +kernel
theorem dX5_left_1 : decode cX5_left 1 = .ok (.aload_n 0, 1) := by decide +kernel
theorem dX5_left_2 : decode cX5_left 2 = .ok (.getfield 32, 3) := by decide +kernel
theorem dX5_left_5 : decode cX5_left 5 = .ok (.iload_n 1, 1) := by decide +kernel
theorem dX5_left_6 : decode cX5_left 6 = .ok (.iaload, 1) := by decide +kernel
theorem dX5_left_7 : decode cX5_left 7 = .ok (.aload_n 0, 1) := by decide +kernel
theorem dX5_left_8 : decode cX5_left 8 = .ok (.getfield 91, 3) := by decide +kernel
theorem dX5_left_11 : decode cX5_left 11 = .ok (.isub, 1) := by decide +kernel
theorem dX5_left_12 : decode cX5_left 12 = .ok (.invokestatic 97, 3) := by decide +kernel
theorem dX5_left_15 : decode cX5_left 15 = .ok (.ireturn, 1) := by decide +kernel
theorem dX5_openFor_0 : decode cX5_openFor 0 = .ok (.aload_n 0, 1) := by decide +kernel
theorem dX5_openFor_1 : decode cX5_openFor 1 = .ok (.iconst 0, 1) := by decide +kernel
theorem dX5_openFor_2 : decode cX5_openFor 2 = .ok (.putfield 54, 3) := by decide +kernel
theorem dX5_openFor_5 : decode cX5_openFor 5 = .ok (.aload_n 0, 1) := by decide +kernel
theorem dX5_openFor_6 : decode cX5_openFor 6 = .ok (.iload_n 1, 1) := by decide +kernel
theorem dX5_openFor_7 : decode cX5_openFor 7 = .ok (.invokevirtual 103, 3) := by decide +kernel
theorem dX5_openFor_10 : decode cX5_openFor 10 = .ok (.ifCond .eq 11, 3) := by decide +kernel
theorem dX5_openFor_13 : decode cX5_openFor 13 = .ok (.aload_n 0, 1) := by decide +kernel
theorem dX5_openFor_14 : decode cX5_openFor 14 = .ok (.iload_n 1, 1) := by decide +kernel
theorem dX5_openFor_15 : decode cX5_openFor 15 = .ok (.invokevirtual 106, 3) := by decide +kernel
theorem dX5_openFor_18 : decode cX5_openFor 18 = .ok (.goto 8, 3) := by decide +kernel
theorem dX5_openFor_21 : decode cX5_openFor 21 = .ok (.aload_n 0, 1) := by decide +kernel
theorem dX5_openFor_22 : decode cX5_openFor 22 = .ok (.iconst 1, 1) := by decide +kernel
theorem dX5_openFor_23 : decode cX5_openFor 23 = .ok (.invokevirtual 67, 3) := by decide +kernel
theorem dX5_openFor_26 : decode cX5_openFor 26 = .ok (.ireturn, 1) := by decide +kernel
theorem dX5_add_0 : decode cX5_add 0 = .ok (.aload_n 0, 1) := by decide +kernel
theorem dX5_add_1 : decode cX5_add 1 = .ok (.getfield 35, 3) := by decide +kernel
theorem dX5_add_4 : decode cX5_add 4 = .ok (.aload_n 0, 1) := by decide +kernel
theorem dX5_add_5 : decode cX5_add 5 = .ok (.getfield 60, 3) := by decide +kernel
theorem dX5_add_8 : decode cX5_add 8 = .ok (.iconst 0, 1) := by decide +kernel
theorem dX5_add_9 : decode cX5_add 9 = .ok (.iastore, 1) := by decide +kernel
theorem dX5_add_10 : decode cX5_add 10 = .ok (.aload_n 0, 1) := by decide +kernel
theorem dX5_add_11 : decode cX5_add 11 = .ok (.getfield 38, 3) := by decide +kernel
theorem dX5_add_14 : decode cX5_add 14 = .ok (.aload_n 0, 1) := by decide +kernel
theorem dX5_add_15 : decode cX5_add 15 = .ok (.getfield 60, 3) := by decide +kernel
theorem dX5_add_18 : decode cX5_add 18 = .ok (.iload_n 2, 1) := by decide +kernel
theorem dX5_add_19 : decode cX5_add 19 = .ok (.iastore, 1) := by decide +kernel
theorem dX5_add_20 : decode cX5_add 20 = .ok (.aload_n 0, 1) := by decide +kernel
theorem dX5_add_21 : decode cX5_add 21 = .ok (.getfield 41, 3) := by decide +kernel
theorem dX5_add_24 : decode cX5_add 24 = .ok (.aload_n 0, 1) := by decide +kernel
theorem dX5_add_25 : decode cX5_add 25 = .ok (.getfield 60, 3) := by decide +kernel
theorem dX5_add_28 : decode cX5_add 28 = .ok (.iload_n 1, 1) := by decide +kernel
theorem dX5_add_29 : decode cX5_add 29 = .ok (.iastore, 1) := by decide +kernel
theorem dX5_add_30 : decode cX5_add 30 = .ok (.aload_n 0, 1) := by decide +kernel
theorem dX5_add_31 : decode cX5_add 31 = .ok (.getfield 44, 3) := by decide +kernel
theorem dX5_add_34 : decode cX5_add 34 = .ok (.aload_n 0, 1) := by decide +kernel
theorem dX5_add_35 : decode cX5_add 35 = .ok (.getfield 60, 3) := by decide +kernel
theorem dX5_add_38 : decode cX5_add 38 = .ok (.iconst 0, 1) := by decide +kernel
theorem dX5_add_39 : decode cX5_add 39 = .ok (.bastore, 1) := by decide +kernel
theorem dX5_add_40 : decode cX5_add 40 = .ok (.aload_n 0, 1) := by decide +kernel
theorem dX5_add_41 : decode cX5_add 41 = .ok (.getfield 48, 3) := by decide +kernel
theorem dX5_add_44 : decode cX5_add 44 = .ok (.aload_n 0, 1) := by decide +kernel
theorem dX5_add_45 : decode cX5_add 45 = .ok (.getfield 60, 3) := by decide +kernel
theorem dX5_add_48 : decode cX5_add 48 = .ok (.iconst 0, 1) := by decide +kernel
theorem dX5_add_49 : decode cX5_add 49 = .ok (.iastore, 1) := by decide +kernel
theorem dX5_add_50 : decode cX5_add 50 = .ok (.aload_n 0, 1) := by decide +kernel
theorem dX5_add_51 : decode cX5_add 51 = .ok (.dup, 1) := by decide +kernel
theorem dX5_add_52 : decode cX5_add 52 = .ok (.getfield 60, 3) := by decide +kernel
theorem dX5_add_55 : decode cX5_add 55 = .ok (.iconst 1, 1) := by decide +kernel
theorem dX5_add_56 : decode cX5_add 56 = .ok (.iadd, 1) := by decide +kernel
theorem dX5_add_57 : decode cX5_add 57 = .ok (.putfield 60, 3) := by decide +kernel
theorem dX5_add_60 : decode cX5_add 60 = .ok (.aload_n 0, 1) := by decide +kernel
theorem dX5_add_61 : decode cX5_add 61 = .ok (.getfield 60, 3) := by decide +kernel
theorem dX5_add_64 : decode cX5_add 64 = .ok (.iconst 1, 1) := by decide +kernel
theorem dX5_add_65 : decode cX5_add 65 = .ok (.isub, 1) := by decide +kernel
theorem dX5_add_66 : decode cX5_add 66 = .ok (.ireturn, 1) := by decide +kernel
theorem dX5_addBadge_0 : decode cX5_addBadge 0 = .ok (.aload_n 0, 1) := by decide +kernel
theorem dX5_addBadge_1 : decode cX5_addBadge 1 = .ok (.iconst 0, 1) := by decide +kernel
theorem dX5_addBadge_2 : decode cX5_addBadge 2 = .ok (.putfield 54, 3) := by decide +kernel
theorem dX5_addBadge_5 : decode cX5_addBadge 5 = .ok (.iload_n 1, 1) := by decide +kernel
theorem dX5_addBadge_6 : decode cX5_addBadge 6 = .ok (.ifCond .lt 10, 3) := by decide +kernel
theorem dX5_addBadge_9 : decode cX5_addBadge 9 = .ok (.iload_n 1, 1) := by decide +kernel
theorem dX5_addBadge_10 : decode cX5_addBadge 10 = .ok (.sipush 255, 3) := by decide +kernel
theorem dX5_addBadge_13 : decode cX5_addBadge 13 = .ok (.if_icmp .le 9, 3) := by decide +kernel
theorem dX5_addBadge_16 : decode cX5_addBadge 16 = .ok (.aload_n 0, 1) := by decide +kernel
theorem dX5_addBadge_17 : decode cX5_addBadge 17 = .ok (.iconst 1, 1) := by decide +kernel
theorem dX5_addBadge_18 : decode cX5_addBadge 18 = .ok (.invokevirtual 67, 3) := by decide +kernel
theorem dX5_addBadge_21 : decode cX5_addBadge 21 = .ok (.ireturn, 1) := by decide +kernel
theorem dX5_addBadge_22 : decode cX5_addBadge 22 = .ok (.aload_n 0, 1) := by decide +kernel
theorem dX5_addBadge_23 : decode cX5_addBadge 23 = .ok (.getfield 60, 3) := by decide +kernel
theorem dX5_addBadge_26 : decode cX5_addBadge 26 = .ok (.bipush 10, 2) := by decide +kernel
theorem dX5_addBadge_28 : decode cX5_addBadge 28 = .ok (.if_icmp .ne 11, 3) := by decide +kernel
theorem dX5_addBadge_31 : decode cX5_addBadge 31 = .ok (.aload_n 0, 1) := by decide +kernel
theorem dX5_addBadge_32 : decode cX5_addBadge 32 = .ok (.iconst 2, 1) := by decide +kernel
theorem dX5_addBadge_33 : decode cX5_addBadge 33 = .ok (.invokevirtual 67, 3) := by decide +kernel
theorem dX5_addBadge_36 : decode cX5_addBadge 36 = .ok (.goto 9, 3) := by decide +kernel
theorem dX5_addBadge_39 : decode cX5_addBadge 39 = .ok (.aload_n 0, 1) := by decide +kernel
theorem dX5_addBadge_40 : decode cX5_addBadge 40 = .ok (.iconst (-1), 1) := by decide +kernel
theorem dX5_addBadge_41 : decode cX5_addBadge 41 = .ok (.iload_n 1, 1) := by decide +kernel
theorem dX5_addBadge_42 : decode cX5_addBadge 42 = .ok (.invokevirtual 109, 3) := by decide +kernel
theorem dX5_addBadge_45 : decode cX5_addBadge 45 = .ok (.ireturn, 1) := by decide +kernel
theorem dX5_addVisitor_0 : decode cX5_addVisitor 0 = .ok (.aload_n 0, 1) := by decide +kernel
theorem dX5_addVisitor_1 : decode cX5_addVisitor 1 = .ok (.iconst 0, 1) := by decide +kernel
theorem dX5_addVisitor_2 : decode cX5_addVisitor 2 = .ok (.putfield 54, 3) := by decide +kernel
theorem dX5_addVisitor_5 : decode cX5_addVisitor 5 = .ok (.aload_n 0, 1) := by decide +kernel
theorem dX5_addVisitor_6 : decode cX5_addVisitor 6 = .ok (.iload_n 1, 1) := by decide +kernel
theorem dX5_addVisitor_7 : decode cX5_addVisitor 7 = .ok (.invokevirtual 112, 3) := by decide +kernel
theorem dX5_addVisitor_10 : decode cX5_addVisitor 10 = .ok (.ifCond .ne 9, 3) := by decide +kernel
theorem dX5_addVisitor_13 : decode cX5_addVisitor 13 = .ok (.aload_n 0, 1) := by decide +kernel
theorem dX5_addVisitor_14 : decode cX5_addVisitor 14 = .ok (.iconst 1, 1) := by decide +kernel
theorem dX5_addVisitor_15 : decode cX5_addVisitor 15 = .ok (.invokevirtual 67, 3) := by decide +kernel
theorem dX5_addVisitor_18 : decode cX5_addVisitor 18 = .ok (.ireturn, 1) := by decide +kernel
theorem dX5_addVisitor_19 : decode cX5_addVisitor 19 = .ok (.aload_n 0, 1) := by decide +kernel
theorem dX5_addVisitor_20 : decode cX5_addVisitor 20 = .ok (.getfield 41, 3) := by decide +kernel
theorem dX5_addVisitor_23 : decode cX5_addVisitor 23 = .ok (.iload_n 1, 1) := by decide +kernel
theorem dX5_addVisitor_24 : decode cX5_addVisitor 24 = .ok (.iaload, 1) := by decide +kernel
theorem dX5_addVisitor_25 : decode cX5_addVisitor 25 = .ok (.iconst (-1), 1) := by decide +kernel
theorem dX5_addVisitor_26 : decode cX5_addVisitor 26 = .ok (.if_icmp .eq 9, 3) := by decide +kernel
theorem dX5_addVisitor_29 : decode cX5_addVisitor 29 = .ok (.aload_n 0, 1) := by decide +kernel
theorem dX5_addVisitor_30 : decode cX5_addVisitor 30 = .ok (.iconst 2, 1) := by decide +kernel
theorem dX5_addVisitor_31 : decode cX5_addVisitor 31 = .ok (.invokevirtual 67, 3) := by decide +kernel
theorem dX5_addVisitor_34 : decode cX5_addVisitor 34 = .ok (.ireturn, 1) := by decide +kernel
theorem dX5_addVisitor_35 : decode cX5_addVisitor 35 = .ok (.aload_n 0, 1) := by decide +kernel
theorem dX5_addVisitor_36 : decode cX5_addVisitor 36 = .ok (.getfield 60, 3) := by decide +kernel
theorem dX5_addVisitor_39 : decode cX5_addVisitor 39 = .ok (.bipush 10, 2) := by decide +kernel
theorem dX5_addVisitor_41 : decode cX5_addVisitor 41 = .ok (.if_icmp .ne 11, 3) := by decide +kernel
theorem dX5_addVisitor_44 : decode cX5_addVisitor 44 = .ok (.aload_n 0, 1) := by decide +kernel
theorem dX5_addVisitor_45 : decode cX5_addVisitor 45 = .ok (.iconst 3, 1) := by decide +kernel
theorem dX5_addVisitor_46 : decode cX5_addVisitor 46 = .ok (.invokevirtual 67, 3) := by decide +kernel
theorem dX5_addVisitor_49 : decode cX5_addVisitor 49 = .ok (.goto 9, 3) := by decide +kernel
theorem dX5_addVisitor_52 : decode cX5_addVisitor 52 = .ok (.aload_n 0, 1) := by decide +kernel
theorem dX5_addVisitor_53 : decode cX5_addVisitor 53 = .ok (.iload_n 1, 1) := by decide +kernel
theorem dX5_addVisitor_54 : decode cX5_addVisitor 54 = .ok (.iconst 0, 1) := by decide +kernel
theorem dX5_addVisitor_55 : decode cX5_addVisitor 55 = .ok (.invokevirtual 109, 3) := by decide +kernel
theorem dX5_addVisitor_58 : decode cX5_addVisitor 58 = .ok (.ireturn, 1) := by decide +kernel
theorem dX5_rightsOf_0 : decode cX5_rightsOf 0 = .ok (.aload_n 0, 1) := by decide +kernel
theorem dX5_rightsOf_1 : decode cX5_rightsOf 1 = .ok (.getfield 41, 3) := by decide +kernel
theorem dX5_rightsOf_4 : decode cX5_rightsOf 4 = .ok (.iload_n 1, 1) := by decide +kernel
theorem dX5_rightsOf_5 : decode cX5_rightsOf 5 = .ok (.iaload, 1) := by decide +kernel
theorem dX5_rightsOf_6 : decode cX5_rightsOf 6 = .ok (.iconst (-1), 1) := by decide +kernel
theorem dX5_rightsOf_7 : decode cX5_rightsOf 7 = .ok (.if_icmp .ne 12, 3) := by decide +kernel
theorem dX5_rightsOf_10 : decode cX5_rightsOf 10 = .ok (.aload_n 0, 1) := by decide +kernel
theorem dX5_rightsOf_11 : decode cX5_rightsOf 11 = .ok (.getfield 38, 3) := by decide +kernel
theorem dX5_rightsOf_14 : decode cX5_rightsOf 14 = .ok (.iload_n 1, 1) := by decide +kernel
theorem dX5_rightsOf_15 : decode cX5_rightsOf 15 = .ok (.iaload, 1) := by decide +kernel
theorem dX5_rightsOf_16 : decode cX5_rightsOf 16 = .ok (.goto 14, 3) := by decide +kernel
theorem dX5_rightsOf_19 : decode cX5_rightsOf 19 = .ok (.aload_n 0, 1) := by decide +kernel
theorem dX5_rightsOf_20 : decode cX5_rightsOf 20 = .ok (.getfield 38, 3) := by decide +kernel
theorem dX5_rightsOf_23 : decode cX5_rightsOf 23 = .ok (.aload_n 0, 1) := by decide +kernel
theorem dX5_rightsOf_24 : decode cX5_rightsOf 24 = .ok (.getfield 41, 3) := by decide +kernel
theorem dX5_rightsOf_27 : decode cX5_rightsOf 27 = .ok (.iload_n 1, 1) := by decide +kernel
theorem dX5_rightsOf_28 : decode cX5_rightsOf 28 = .ok (.iaload, 1) := by decide +kernel
theorem dX5_rightsOf_29 : decode cX5_rightsOf 29 = .ok (.iaload, 1) := by decide +kernel
theorem dX5_rightsOf_30 : decode cX5_rightsOf 30 = .ok (.ireturn, 1) := by decide +kernel
theorem dX5_setRights_0 : decode cX5_setRights 0 = .ok (.aload_n 0, 1) := by decide +kernel
theorem dX5_setRights_1 : decode cX5_setRights 1 = .ok (.iconst 0, 1) := by decide +kernel
theorem dX5_setRights_2 : decode cX5_setRights 2 = .ok (.putfield 54, 3) := by decide +kernel
theorem dX5_setRights_5 : decode cX5_setRights 5 = .ok (.aload_n 0, 1) := by decide +kernel
theorem dX5_setRights_6 : decode cX5_setRights 6 = .ok (.iload_n 1, 1) := by decide +kernel
theorem dX5_setRights_7 : decode cX5_setRights 7 = .ok (.invokevirtual 112, 3) := by decide +kernel
theorem dX5_setRights_10 : decode cX5_setRights 10 = .ok (.ifCond .ne 9, 3) := by decide +kernel
theorem dX5_setRights_13 : decode cX5_setRights 13 = .ok (.aload_n 0, 1) := by decide +kernel
theorem dX5_setRights_14 : decode cX5_setRights 14 = .ok (.iconst 1, 1) := by decide +kernel
theorem dX5_setRights_15 : decode cX5_setRights 15 = .ok (.invokevirtual 67, 3) := by decide +kernel
theorem dX5_setRights_18 : decode cX5_setRights 18 = .ok (.ireturn, 1) := by decide +kernel
theorem dX5_setRights_19 : decode cX5_setRights 19 = .ok (.iload_n 2, 1) := by decide +kernel
theorem dX5_setRights_20 : decode cX5_setRights 20 = .ok (.ifCond .lt 10, 3) := by decide +kernel
theorem dX5_setRights_23 : decode cX5_setRights 23 = .ok (.iload_n 2, 1) := by decide +kernel
theorem dX5_setRights_24 : decode cX5_setRights 24 = .ok (.sipush 255, 3) := by decide +kernel
theorem dX5_setRights_27 : decode cX5_setRights 27 = .ok (.if_icmp .le 9, 3) := by decide +kernel
theorem dX5_setRights_30 : decode cX5_setRights 30 = .ok (.aload_n 0, 1) := by decide +kernel
theorem dX5_setRights_31 : decode cX5_setRights 31 = .ok (.iconst 2, 1) := by decide +kernel
theorem dX5_setRights_32 : decode cX5_setRights 32 = .ok (.invokevirtual 67, 3) := by decide +kernel
theorem dX5_setRights_35 : decode cX5_setRights 35 = .ok (.ireturn, 1) := by decide +kernel
theorem dX5_setRights_36 : decode cX5_setRights 36 = .ok (.aload_n 0, 1) := by decide +kernel
theorem dX5_setRights_37 : decode cX5_setRights 37 = .ok (.getfield 41, 3) := by decide +kernel
theorem dX5_setRights_40 : decode cX5_setRights 40 = .ok (.iload_n 1, 1) := by decide +kernel
theorem dX5_setRights_41 : decode cX5_setRights 41 = .ok (.iaload, 1) := by decide +kernel
theorem dX5_setRights_42 : decode cX5_setRights 42 = .ok (.iconst (-1), 1) := by decide +kernel
theorem dX5_setRights_43 : decode cX5_setRights 43 = .ok (.if_icmp .eq 9, 3) := by decide +kernel
theorem dX5_setRights_46 : decode cX5_setRights 46 = .ok (.aload_n 0, 1) := by decide +kernel
theorem dX5_setRights_47 : decode cX5_setRights 47 = .ok (.iconst 3, 1) := by decide +kernel
theorem dX5_setRights_48 : decode cX5_setRights 48 = .ok (.invokevirtual 67, 3) := by decide +kernel
theorem dX5_setRights_51 : decode cX5_setRights 51 = .ok (.ireturn, 1) := by decide +kernel
theorem dX5_setRights_52 : decode cX5_setRights 52 = .ok (.aload_n 0, 1) := by decide +kernel
theorem dX5_setRights_53 : decode cX5_setRights 53 = .ok (.getfield 38, 3) := by decide +kernel
theorem dX5_setRights_56 : decode cX5_setRights 56 = .ok (.iload_n 1, 1) := by decide +kernel
theorem dX5_setRights_57 : decode cX5_setRights 57 = .ok (.iaload, 1) := by decide +kernel
theorem dX5_setRights_58 : decode cX5_setRights 58 = .ok (.istore_n 3, 1) := by decide +kernel
theorem dX5_setRights_59 : decode cX5_setRights 59 = .ok (.aload_n 0, 1) := by decide +kernel
theorem dX5_setRights_60 : decode cX5_setRights 60 = .ok (.getfield 38, 3) := by decide +kernel
theorem dX5_setRights_63 : decode cX5_setRights 63 = .ok (.iload_n 1, 1) := by decide +kernel
theorem dX5_setRights_64 : decode cX5_setRights 64 = .ok (.iload_n 2, 1) := by decide +kernel
theorem dX5_setRights_65 : decode cX5_setRights 65 = .ok (.iastore, 1) := by decide +kernel
theorem dX5_setRights_66 : decode cX5_setRights 66 = .ok (.iload_n 3, 1) := by decide +kernel
theorem dX5_setRights_67 : decode cX5_setRights 67 = .ok (.ireturn, 1) := by decide +kernel
theorem dX5_block_0 : decode cX5_block 0 = .ok (.aload_n 0, 1) := by decide +kernel
theorem dX5_block_1 : decode cX5_block 1 = .ok (.aload_n 0, 1) := by decide +kernel
theorem dX5_block_2 : decode cX5_block 2 = .ok (.iload_n 1, 1) := by decide +kernel
theorem dX5_block_3 : decode cX5_block 3 = .ok (.invokevirtual 112, 3) := by decide +kernel
theorem dX5_block_6 : decode cX5_block 6 = .ok (.ifCond .eq 7, 3) := by decide +kernel
theorem dX5_block_9 : decode cX5_block 9 = .ok (.iconst 0, 1) := by decide +kernel
theorem dX5_block_10 : decode cX5_block 10 = .ok (.goto 4, 3) := by decide +kernel
theorem dX5_block_13 : decode cX5_block 13 = .ok (.iconst 1, 1) := by decide +kernel
theorem dX5_block_14 : decode cX5_block 14 = .ok (.putfield 54, 3) := by decide +kernel
theorem dX5_block_17 : decode cX5_block 17 = .ok (.aload_n 0, 1) := by decide +kernel
theorem dX5_block_18 : decode cX5_block 18 = .ok (.getfield 54, 3) := by decide +kernel
theorem dX5_block_21 : decode cX5_block 21 = .ok (.ifCond .eq 5, 3) := by decide +kernel
theorem dX5_block_24 : decode cX5_block 24 = .ok (.iconst 0, 1) := by decide +kernel
theorem dX5_block_25 : decode cX5_block 25 = .ok (.ireturn, 1) := by decide +kernel
theorem dX5_block_26 : decode cX5_block 26 = .ok (.aload_n 0, 1) := by decide +kernel
theorem dX5_block_27 : decode cX5_block 27 = .ok (.getfield 44, 3) := by decide +kernel
theorem dX5_block_30 : decode cX5_block 30 = .ok (.iload_n 1, 1) := by decide +kernel
theorem dX5_block_31 : decode cX5_block 31 = .ok (.baload, 1) := by decide +kernel
theorem dX5_block_32 : decode cX5_block 32 = .ok (.istore_n 3, 1) := by decide +kernel
theorem dX5_block_33 : decode cX5_block 33 = .ok (.aload_n 0, 1) := by decide +kernel
theorem dX5_block_34 : decode cX5_block 34 = .ok (.getfield 44, 3) := by decide +kernel
theorem dX5_block_37 : decode cX5_block 37 = .ok (.iload_n 1, 1) := by decide +kernel
theorem dX5_block_38 : decode cX5_block 38 = .ok (.iload_n 2, 1) := by decide +kernel
theorem dX5_block_39 : decode cX5_block 39 = .ok (.bastore, 1) := by decide +kernel
theorem dX5_block_40 : decode cX5_block 40 = .ok (.aload_n 0, 1) := by decide +kernel
theorem dX5_block_41 : decode cX5_block 41 = .ok (.getfield 48, 3) := by decide +kernel
theorem dX5_block_44 : decode cX5_block 44 = .ok (.iload_n 1, 1) := by decide +kernel
theorem dX5_block_45 : decode cX5_block 45 = .ok (.iconst 0, 1) := by decide +kernel
theorem dX5_block_46 : decode cX5_block 46 = .ok (.iastore, 1) := by decide +kernel
theorem dX5_block_47 : decode cX5_block 47 = .ok (.iload_n 3, 1) := by decide +kernel
theorem dX5_block_48 : decode cX5_block 48 = .ok (.ireturn, 1) := by decide +kernel
theorem dX5_told_0 : decode cX5_told 0 = .ok (.iload_n 2, 1) := by decide +kernel
theorem dX5_told_1 : decode cX5_told 1 = .ok (.ifCond .ne 12, 3) := by decide +kernel
theorem dX5_told_4 : decode cX5_told 4 = .ok (.aload_n 0, 1) := by decide +kernel
theorem dX5_told_5 : decode cX5_told 5 = .ok (.getfield 35, 3) := by decide +kernel
theorem dX5_told_8 : decode cX5_told 8 = .ok (.iload_n 1, 1) := by decide +kernel
theorem dX5_told_9 : decode cX5_told 9 = .ok (.iaload, 1) := by decide +kernel
theorem dX5_told_10 : decode cX5_told 10 = .ok (.goto 58, 3) := by decide +kernel
theorem dX5_told_13 : decode cX5_told 13 = .ok (.iload_n 2, 1) := by decide +kernel
theorem dX5_told_14 : decode cX5_told 14 = .ok (.iconst 1, 1) := by decide +kernel
theorem dX5_told_15 : decode cX5_told 15 = .ok (.if_icmp .ne 11, 3) := by decide +kernel
theorem dX5_told_18 : decode cX5_told 18 = .ok (.aload_n 0, 1) := by decide +kernel
theorem dX5_told_19 : decode cX5_told 19 = .ok (.iload_n 1, 1) := by decide +kernel
theorem dX5_told_20 : decode cX5_told 20 = .ok (.invokevirtual 115, 3) := by decide +kernel
theorem dX5_told_23 : decode cX5_told 23 = .ok (.goto 45, 3) := by decide +kernel
theorem dX5_told_26 : decode cX5_told 26 = .ok (.iload_n 2, 1) := by decide +kernel
theorem dX5_told_27 : decode cX5_told 27 = .ok (.iconst 2, 1) := by decide +kernel
theorem dX5_told_28 : decode cX5_told 28 = .ok (.if_icmp .ne 12, 3) := by decide +kernel
theorem dX5_told_31 : decode cX5_told 31 = .ok (.aload_n 0, 1) := by decide +kernel
theorem dX5_told_32 : decode cX5_told 32 = .ok (.getfield 41, 3) := by decide +kernel
theorem dX5_told_35 : decode cX5_told 35 = .ok (.iload_n 1, 1) := by decide +kernel
theorem dX5_told_36 : decode cX5_told 36 = .ok (.iaload, 1) := by decide +kernel
theorem dX5_told_37 : decode cX5_told 37 = .ok (.goto 31, 3) := by decide +kernel
theorem dX5_told_40 : decode cX5_told 40 = .ok (.iload_n 2, 1) := by decide +kernel
theorem dX5_told_41 : decode cX5_told 41 = .ok (.iconst 3, 1) := by decide +kernel
theorem dX5_told_42 : decode cX5_told 42 = .ok (.if_icmp .ne 20, 3) := by decide +kernel
theorem dX5_told_45 : decode cX5_told 45 = .ok (.aload_n 0, 1) := by decide +kernel
theorem dX5_told_46 : decode cX5_told 46 = .ok (.getfield 44, 3) := by decide +kernel
theorem dX5_told_49 : decode cX5_told 49 = .ok (.iload_n 1, 1) := by decide +kernel
theorem dX5_told_50 : decode cX5_told 50 = .ok (.baload, 1) := by decide +kernel
theorem dX5_told_51 : decode cX5_told 51 = .ok (.ifCond .eq 7, 3) := by decide +kernel
theorem dX5_told_54 : decode cX5_told 54 = .ok (.iconst 1, 1) := by decide +kernel
theorem dX5_told_55 : decode cX5_told 55 = .ok (.goto 13, 3) := by decide +kernel
theorem dX5_told_58 : decode cX5_told 58 = .ok (.iconst 0, 1) := by decide +kernel
theorem dX5_told_59 : decode cX5_told 59 = .ok (.goto 9, 3) := by decide +kernel
theorem dX5_told_62 : decode cX5_told 62 = .ok (.aload_n 0, 1) := by decide +kernel
theorem dX5_told_63 : decode cX5_told 63 = .ok (.getfield 48, 3) := by decide +kernel
theorem dX5_told_66 : decode cX5_told 66 = .ok (.iload_n 1, 1) := by decide +kernel
theorem dX5_told_67 : decode cX5_told 67 = .ok (.iaload, 1) := by decide +kernel
theorem dX5_told_68 : decode cX5_told 68 = .ok (.ireturn, 1) := by decide +kernel
theorem dX5_badge_0 : decode cX5_badge 0 = .ok (.aload_n 0, 1) := by decide +kernel
theorem dX5_badge_1 : decode cX5_badge 1 = .ok (.iconst 0, 1) := by decide +kernel
theorem dX5_badge_2 : decode cX5_badge 2 = .ok (.putfield 54, 3) := by decide +kernel
theorem dX5_badge_5 : decode cX5_badge 5 = .ok (.aload_n 0, 1) := by decide +kernel
theorem dX5_badge_6 : decode cX5_badge 6 = .ok (.iload_n 1, 1) := by decide +kernel
theorem dX5_badge_7 : decode cX5_badge 7 = .ok (.invokevirtual 112, 3) := by decide +kernel
theorem dX5_badge_10 : decode cX5_badge 10 = .ok (.ifCond .eq 21, 3) := by decide +kernel
theorem dX5_badge_13 : decode cX5_badge 13 = .ok (.iload_n 2, 1) := by decide +kernel
theorem dX5_badge_14 : decode cX5_badge 14 = .ok (.ifCond .lt 17, 3) := by decide +kernel
theorem dX5_badge_17 : decode cX5_badge 17 = .ok (.iload_n 2, 1) := by decide +kernel
theorem dX5_badge_18 : decode cX5_badge 18 = .ok (.iconst 4, 1) := by decide +kernel
theorem dX5_badge_19 : decode cX5_badge 19 = .ok (.if_icmp .gt 12, 3) := by decide +kernel
theorem dX5_badge_22 : decode cX5_badge 22 = .ok (.aload_n 0, 1) := by decide +kernel
theorem dX5_badge_23 : decode cX5_badge 23 = .ok (.iload_n 1, 1) := by decide +kernel
theorem dX5_badge_24 : decode cX5_badge 24 = .ok (.iload_n 2, 1) := by decide +kernel
theorem dX5_badge_25 : decode cX5_badge 25 = .ok (.invokevirtual 118, 3) := by decide +kernel
theorem dX5_badge_28 : decode cX5_badge 28 = .ok (.goto 8, 3) := by decide +kernel
theorem dX5_badge_31 : decode cX5_badge 31 = .ok (.aload_n 0, 1) := by decide +kernel
theorem dX5_badge_32 : decode cX5_badge 32 = .ok (.iconst 1, 1) := by decide +kernel
theorem dX5_badge_33 : decode cX5_badge 33 = .ok (.invokevirtual 67, 3) := by decide +kernel
theorem dX5_badge_36 : decode cX5_badge 36 = .ok (.ireturn, 1) := by decide +kernel
theorem dX5_tick_0 : decode cX5_tick 0 = .ok (.aload_n 0, 1) := by decide +kernel
theorem dX5_tick_1 : decode cX5_tick 1 = .ok (.iconst 0, 1) := by decide +kernel
theorem dX5_tick_2 : decode cX5_tick 2 = .ok (.putfield 54, 3) := by decide +kernel
theorem dX5_tick_5 : decode cX5_tick 5 = .ok (.iload_n 1, 1) := by decide +kernel
theorem dX5_tick_6 : decode cX5_tick 6 = .ok (.iconst 1, 1) := by decide +kernel
theorem dX5_tick_7 : decode cX5_tick 7 = .ok (.if_icmp .lt 10, 3) := by decide +kernel
theorem dX5_tick_10 : decode cX5_tick 10 = .ok (.iload_n 1, 1) := by decide +kernel
theorem dX5_tick_11 : decode cX5_tick 11 = .ok (.sipush 2000, 3) := by decide +kernel
theorem dX5_tick_14 : decode cX5_tick 14 = .ok (.if_icmp .le 9, 3) := by decide +kernel
theorem dX5_tick_17 : decode cX5_tick 17 = .ok (.aload_n 0, 1) := by decide +kernel
theorem dX5_tick_18 : decode cX5_tick 18 = .ok (.iconst 1, 1) := by decide +kernel
theorem dX5_tick_19 : decode cX5_tick 19 = .ok (.invokevirtual 67, 3) := by decide +kernel
theorem dX5_tick_22 : decode cX5_tick 22 = .ok (.ireturn, 1) := by decide +kernel
theorem dX5_tick_23 : decode cX5_tick 23 = .ok (.aload_n 0, 1) := by decide +kernel
theorem dX5_tick_24 : decode cX5_tick 24 = .ok (.getfield 91, 3) := by decide +kernel
theorem dX5_tick_27 : decode cX5_tick 27 = .ok (.iload_n 1, 1) := by decide +kernel
theorem dX5_tick_28 : decode cX5_tick 28 = .ok (.iadd, 1) := by decide +kernel
theorem dX5_tick_29 : decode cX5_tick 29 = .ok (.ldc 121, 2) := by decide +kernel
theorem dX5_tick_31 : decode cX5_tick 31 = .ok (.if_icmp .le 9, 3) := by decide +kernel
theorem dX5_tick_34 : decode cX5_tick 34 = .ok (.aload_n 0, 1) := by decide +kernel
theorem dX5_tick_35 : decode cX5_tick 35 = .ok (.iconst 2, 1) := by decide +kernel
theorem dX5_tick_36 : decode cX5_tick 36 = .ok (.invokevirtual 67, 3) := by decide +kernel
theorem dX5_tick_39 : decode cX5_tick 39 = .ok (.ireturn, 1) := by decide +kernel
theorem dX5_tick_40 : decode cX5_tick 40 = .ok (.aload_n 0, 1) := by decide +kernel
theorem dX5_tick_41 : decode cX5_tick 41 = .ok (.dup, 1) := by decide +kernel
theorem dX5_tick_42 : decode cX5_tick 42 = .ok (.getfield 91, 3) := by decide +kernel
theorem dX5_tick_45 : decode cX5_tick 45 = .ok (.iload_n 1, 1) := by decide +kernel
theorem dX5_tick_46 : decode cX5_tick 46 = .ok (.iadd, 1) := by decide +kernel
theorem dX5_tick_47 : decode cX5_tick 47 = .ok (.putfield 91, 3) := by decide +kernel
theorem dX5_tick_50 : decode cX5_tick 50 = .ok (.aload_n 0, 1) := by decide +kernel
theorem dX5_tick_51 : decode cX5_tick 51 = .ok (.getfield 91, 3) := by decide +kernel
theorem dX5_tick_54 : decode cX5_tick 54 = .ok (.ireturn, 1) := by decide +kernel
theorem dX5_alarm_0 : decode cX5_alarm 0 = .ok (.aload_n 0, 1) := by decide +kernel
theorem dX5_alarm_1 : decode cX5_alarm 1 = .ok (.iconst 0, 1) := by decide +kernel
theorem dX5_alarm_2 : decode cX5_alarm 2 = .ok (.putfield 54, 3) := by decide +kernel
theorem dX5_alarm_5 : decode cX5_alarm 5 = .ok (.aload_n 0, 1) := by decide +kernel
theorem dX5_alarm_6 : decode cX5_alarm 6 = .ok (.getfield 122, 3) := by decide +kernel
theorem dX5_alarm_9 : decode cX5_alarm 9 = .ok (.istore_n 2, 1) := by decide +kernel
theorem dX5_alarm_10 : decode cX5_alarm 10 = .ok (.aload_n 0, 1) := by decide +kernel
theorem dX5_alarm_11 : decode cX5_alarm 11 = .ok (.iload_n 1, 1) := by decide +kernel
theorem dX5_alarm_12 : decode cX5_alarm 12 = .ok (.putfield 122, 3) := by decide +kernel
theorem dX5_alarm_15 : decode cX5_alarm 15 = .ok (.iload_n 2, 1) := by decide +kernel
theorem dX5_alarm_16 : decode cX5_alarm 16 = .ok (.ireturn, 1) := by decide +kernel
theorem dX5_insideOf_0 : decode cX5_insideOf 0 = .ok (.iconst 0, 1) := by decide +kernel
theorem dX5_insideOf_1 : decode cX5_insideOf 1 = .ok (.istore_n 2, 1) := by decide +kernel
theorem dX5_insideOf_2 : decode cX5_insideOf 2 = .ok (.iconst 0, 1) := by decide +kernel
theorem dX5_insideOf_3 : decode cX5_insideOf 3 = .ok (.istore_n 3, 1) := by decide +kernel
theorem dX5_insideOf_4 : decode cX5_insideOf 4 = .ok (.iload_n 3, 1) := by decide +kernel
theorem dX5_insideOf_5 : decode cX5_insideOf 5 = .ok (.aload_n 0, 1) := by decide +kernel
theorem dX5_insideOf_6 : decode cX5_insideOf 6 = .ok (.getfield 60, 3) := by decide +kernel
theorem dX5_insideOf_9 : decode cX5_insideOf 9 = .ok (.if_icmp .ge 25, 3) := by decide +kernel
theorem dX5_insideOf_12 : decode cX5_insideOf 12 = .ok (.aload_n 0, 1) := by decide +kernel
theorem dX5_insideOf_13 : decode cX5_insideOf 13 = .ok (.getfield 35, 3) := by decide +kernel
theorem dX5_insideOf_16 : decode cX5_insideOf 16 = .ok (.iload_n 3, 1) := by decide +kernel
theorem dX5_insideOf_17 : decode cX5_insideOf 17 = .ok (.iaload, 1) := by decide +kernel
theorem dX5_insideOf_18 : decode cX5_insideOf 18 = .ok (.iload_n 1, 1) := by decide +kernel
theorem dX5_insideOf_19 : decode cX5_insideOf 19 = .ok (.if_icmp .ne 9, 3) := by decide +kernel
theorem dX5_insideOf_22 : decode cX5_insideOf 22 = .ok (.iload_n 2, 1) := by decide +kernel
theorem dX5_insideOf_23 : decode cX5_insideOf 23 = .ok (.iconst 1, 1) := by decide +kernel
theorem dX5_insideOf_24 : decode cX5_insideOf 24 = .ok (.iload_n 3, 1) := by decide +kernel
theorem dX5_insideOf_25 : decode cX5_insideOf 25 = .ok (.ishl, 1) := by decide +kernel
theorem dX5_insideOf_26 : decode cX5_insideOf 26 = .ok (.ior, 1) := by decide +kernel
theorem dX5_insideOf_27 : decode cX5_insideOf 27 = .ok (.istore_n 2, 1) := by decide +kernel
theorem dX5_insideOf_28 : decode cX5_insideOf 28 = .ok (.iinc 3 1, 3) := by decide +kernel
theorem dX5_insideOf_31 : decode cX5_insideOf 31 = .ok (.goto (-27), 3) := by decide +kernel
theorem dX5_insideOf_34 : decode cX5_insideOf 34 = .ok (.iload_n 2, 1) := by decide +kernel
theorem dX5_insideOf_35 : decode cX5_insideOf 35 = .ok (.ireturn, 1) := by decide +kernel
theorem dX5_isExcluded_0 : decode cX5_isExcluded 0 = .ok (.iconst 0, 1) := by decide +kernel
theorem dX5_isExcluded_1 : decode cX5_isExcluded 1 = .ok (.istore_n 2, 1) := by decide +kernel
theorem dX5_isExcluded_2 : decode cX5_isExcluded 2 = .ok (.iconst 0, 1) := by decide +kernel
theorem dX5_isExcluded_3 : decode cX5_isExcluded 3 = .ok (.istore_n 3, 1) := by decide +kernel
theorem dX5_isExcluded_4 : decode cX5_isExcluded 4 = .ok (.iload_n 3, 1) := by decide +kernel
theorem dX5_isExcluded_5 : decode cX5_isExcluded 5 = .ok (.aload_n 0, 1) := by decide +kernel
theorem dX5_isExcluded_6 : decode cX5_isExcluded 6 = .ok (.getfield 57, 3) := by decide +kernel
theorem dX5_isExcluded_9 : decode cX5_isExcluded 9 = .ok (.if_icmp .ge 56, 3) := by decide +kernel
theorem dX5_isExcluded_12 : decode cX5_isExcluded 12 = .ok (.iload_n 2, 1) := by decide +kernel
theorem dX5_isExcluded_13 : decode cX5_isExcluded 13 = .ok (.ifCond .ne 40, 3) := by decide +kernel
theorem dX5_isExcluded_16 : decode cX5_isExcluded 16 = .ok (.iload_n 3, 1) := by decide +kernel
theorem dX5_isExcluded_17 : decode cX5_isExcluded 17 = .ok (.iload_n 1, 1) := by decide +kernel
theorem dX5_isExcluded_18 : decode cX5_isExcluded 18 = .ok (.if_icmp .eq 39, 3) := by decide +kernel
theorem dX5_isExcluded_21 : decode cX5_isExcluded 21 = .ok (.aload_n 0, 1) := by decide +kernel
theorem dX5_isExcluded_22 : decode cX5_isExcluded 22 = .ok (.getfield 29, 3) := by decide +kernel
theorem dX5_isExcluded_25 : decode cX5_isExcluded 25 = .ok (.iload_n 3, 1) := by decide +kernel
theorem dX5_isExcluded_26 : decode cX5_isExcluded 26 = .ok (.iaload, 1) := by decide +kernel
theorem dX5_isExcluded_27 : decode cX5_isExcluded 27 = .ok (.ifCond .eq 30, 3) := by decide +kernel
theorem dX5_isExcluded_30 : decode cX5_isExcluded 30 = .ok (.aload_n 0, 1) := by decide +kernel
theorem dX5_isExcluded_31 : decode cX5_isExcluded 31 = .ok (.getfield 29, 3) := by decide +kernel
theorem dX5_isExcluded_34 : decode cX5_isExcluded 34 = .ok (.iload_n 3, 1) := by decide +kernel
theorem dX5_isExcluded_35 : decode cX5_isExcluded 35 = .ok (.iaload, 1) := by decide +kernel
theorem dX5_isExcluded_36 : decode cX5_isExcluded 36 = .ok (.aload_n 0, 1) := by decide +kernel
theorem dX5_isExcluded_37 : decode cX5_isExcluded 37 = .ok (.getfield 29, 3) := by decide +kernel
theorem dX5_isExcluded_40 : decode cX5_isExcluded 40 = .ok (.iload_n 1, 1) := by decide +kernel
theorem dX5_isExcluded_41 : decode cX5_isExcluded 41 = .ok (.iaload, 1) := by decide +kernel
theorem dX5_isExcluded_42 : decode cX5_isExcluded 42 = .ok (.if_icmp .ne 15, 3) := by decide +kernel
theorem dX5_isExcluded_45 : decode cX5_isExcluded 45 = .ok (.aload_n 0, 1) := by decide +kernel
theorem dX5_isExcluded_46 : decode cX5_isExcluded 46 = .ok (.iload_n 3, 1) := by decide +kernel
theorem dX5_isExcluded_47 : decode cX5_isExcluded 47 = .ok (.invokevirtual 106, 3) := by decide +kernel
theorem dX5_isExcluded_50 : decode cX5_isExcluded 50 = .ok (.ifCond .le 7, 3) := by decide +kernel
theorem dX5_isExcluded_53 : decode cX5_isExcluded 53 = .ok (.iconst 1, 1) := by decide +kernel
theorem dX5_isExcluded_54 : decode cX5_isExcluded 54 = .ok (.goto 4, 3) := by decide +kernel
theorem dX5_isExcluded_57 : decode cX5_isExcluded 57 = .ok (.iconst 0, 1) := by decide +kernel
theorem dX5_isExcluded_58 : decode cX5_isExcluded 58 = .ok (.istore_n 2, 1) := by decide +kernel
theorem dX5_isExcluded_59 : decode cX5_isExcluded 59 = .ok (.iinc 3 1, 3) := by decide +kernel
theorem dX5_isExcluded_62 : decode cX5_isExcluded 62 = .ok (.goto (-58), 3) := by decide +kernel
theorem dX5_isExcluded_65 : decode cX5_isExcluded 65 = .ok (.iload_n 2, 1) := by decide +kernel
theorem dX5_isExcluded_66 : decode cX5_isExcluded 66 = .ok (.ireturn, 1) := by decide +kernel
theorem dX5_isWithoutHost_0 : decode cX5_isWithoutHost 0 = .ok (.aload_n 0, 1) := by decide +kernel
theorem dX5_isWithoutHost_1 : decode cX5_isWithoutHost 1 = .ok (.getfield 41, 3) := by decide +kernel
theorem dX5_isWithoutHost_4 : decode cX5_isWithoutHost 4 = .ok (.iload_n 1, 1) := by decide +kernel
theorem dX5_isWithoutHost_5 : decode cX5_isWithoutHost 5 = .ok (.iaload, 1) := by decide +kernel
theorem dX5_isWithoutHost_6 : decode cX5_isWithoutHost 6 = .ok (.iconst (-1), 1) := by decide +kernel
theorem dX5_isWithoutHost_7 : decode cX5_isWithoutHost 7 = .ok (.if_icmp .eq 46, 3) := by decide +kernel
theorem dX5_isWithoutHost_10 : decode cX5_isWithoutHost 10 = .ok (.iload_n 2, 1) := by decide +kernel
theorem dX5_isWithoutHost_11 : decode cX5_isWithoutHost 11 = .ok (.ifCond .eq 42, 3) := by decide +kernel
theorem dX5_isWithoutHost_14 : decode cX5_isWithoutHost 14 = .ok (.aload_n 0, 1) := by decide +kernel
theorem dX5_isWithoutHost_15 : decode cX5_isWithoutHost 15 = .ok (.getfield 35, 3) := by decide +kernel
theorem dX5_isWithoutHost_18 : decode cX5_isWithoutHost 18 = .ok (.aload_n 0, 1) := by decide +kernel
theorem dX5_isWithoutHost_19 : decode cX5_isWithoutHost 19 = .ok (.getfield 41, 3) := by decide +kernel
theorem dX5_isWithoutHost_22 : decode cX5_isWithoutHost 22 = .ok (.iload_n 1, 1) := by decide +kernel
theorem dX5_isWithoutHost_23 : decode cX5_isWithoutHost 23 = .ok (.iaload, 1) := by decide +kernel
theorem dX5_isWithoutHost_24 : decode cX5_isWithoutHost 24 = .ok (.iaload, 1) := by decide +kernel
theorem dX5_isWithoutHost_25 : decode cX5_isWithoutHost 25 = .ok (.aload_n 0, 1) := by decide +kernel
theorem dX5_isWithoutHost_26 : decode cX5_isWithoutHost 26 = .ok (.getfield 35, 3) := by decide +kernel
theorem dX5_isWithoutHost_29 : decode cX5_isWithoutHost 29 = .ok (.iload_n 1, 1) := by decide +kernel
