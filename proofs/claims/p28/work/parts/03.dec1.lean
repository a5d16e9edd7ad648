theorem dX4_addVisitor_17 : decode cX4_addVisitor 17 = .ok (.ldc 132, 2) := by decide +kernel
theorem dX4_addVisitor_19 : decode cX4_addVisitor 19 = .ok (.invokespecial 88, 3) := by decide +kernel
theorem dX4_addVisitor_22 : decode cX4_addVisitor 22 = .ok (.athrow, 1) := by decide +kernel
theorem dX4_addVisitor_23 : decode cX4_addVisitor 23 = .ok (.aload_n 0, 1) := by decide +kernel
theorem dX4_addVisitor_24 : decode cX4_addVisitor 24 = .ok (.aload_n 2, 1) := by decide +kernel
theorem dX4_addVisitor_25 : decode cX4_addVisitor 25 = .ok (.iconst 0, 1) := by decide +kernel
theorem dX4_addVisitor_26 : decode cX4_addVisitor 26 = .ok (.invokevirtual 118, 3) := by decide +kernel
theorem dX4_addVisitor_29 : decode cX4_addVisitor 29 = .ok (.ireturn, 1) := by decide +kernel
theorem dX4_block_0 : decode cX4_block 0 = .ok (.aload_n 0, 1) := by decide +kernel
theorem dX4_block_1 : decode cX4_block 1 = .ok (.iload_n 1, 1) := by decide +kernel
theorem dX4_block_2 : decode cX4_block 2 = .ok (.invokevirtual 122, 3) := by decide +kernel
theorem dX4_block_5 : decode cX4_block 5 = .ok (.astore_n 3, 1) := by decide +kernel
theorem dX4_block_6 : decode cX4_block 6 = .ok (.aload_n 3, 1) := by decide +kernel
theorem dX4_block_7 : decode cX4_block 7 = .ok (.getfield 139, 3) := by decide +kernel
theorem dX4_block_10 : decode cX4_block 10 = .ok (.istore 4, 2) := by decide +kernel
theorem dX4_block_12 : decode cX4_block 12 = .ok (.aload_n 3, 1) := by decide +kernel
theorem dX4_block_13 : decode cX4_block 13 = .ok (.iload_n 2, 1) := by decide +kernel
theorem dX4_block_14 : decode cX4_block 14 = .ok (.putfield 139, 3) := by decide +kernel
theorem dX4_block_17 : decode cX4_block 17 = .ok (.aload_n 3, 1) := by decide +kernel
theorem dX4_block_18 : decode cX4_block 18 = .ok (.iconst 0, 1) := by decide +kernel
theorem dX4_block_19 : decode cX4_block 19 = .ok (.putfield 142, 3) := by decide +kernel
theorem dX4_block_22 : decode cX4_block 22 = .ok (.iload 4, 2) := by decide +kernel
theorem dX4_block_24 : decode cX4_block 24 = .ok (.ireturn, 1) := by decide +kernel
theorem dX4_badge_0 : decode cX4_badge 0 = .ok (.aload_n 0, 1) := by decide +kernel
theorem dX4_badge_1 : decode cX4_badge 1 = .ok (.iload_n 1, 1) := by decide +kernel
theorem dX4_badge_2 : decode cX4_badge 2 = .ok (.invokevirtual 122, 3) := by decide +kernel
theorem dX4_badge_5 : decode cX4_badge 5 = .ok (.astore_n 3, 1) := by decide +kernel
theorem dX4_badge_6 : decode cX4_badge 6 = .ok (.iload_n 2, 1) := by decide +kernel
theorem dX4_badge_7 : decode cX4_badge 7 = .ok (.iconst 0, 1) := by decide +kernel
theorem dX4_badge_8 : decode cX4_badge 8 = .ok (.iconst 4, 1) := by decide +kernel
theorem dX4_badge_9 : decode cX4_badge 9 = .ok (.invokestatic 80, 3) := by decide +kernel
theorem dX4_badge_12 : decode cX4_badge 12 = .ok (.ifCond .ne 13, 3) := by decide +kernel
theorem dX4_badge_15 : decode cX4_badge 15 = .ok (.new 62, 3) := by decide +kernel
theorem dX4_badge_18 : decode cX4_badge 18 = .ok (.dup, 1) := by decide +kernel
theorem dX4_badge_19 : decode cX4_badge 19 = .ok (.ldc 145, 2) := by decide +kernel
theorem dX4_badge_21 : decode cX4_badge 21 = .ok (.invokespecial 66, 3) := by decide +kernel
theorem dX4_badge_24 : decode cX4_badge 24 = .ok (.athrow, 1) := by decide +kernel
theorem dX4_badge_25 : decode cX4_badge 25 = .ok (.aload_n 3, 1) := by decide +kernel
theorem dX4_badge_26 : decode cX4_badge 26 = .ok (.iload_n 2, 1) := by decide +kernel
theorem dX4_badge_27 : decode cX4_badge 27 = .ok (.invokevirtual 147, 3) := by decide +kernel
theorem dX4_badge_30 : decode cX4_badge 30 = .ok (.ireturn, 1) := by decide +kernel
theorem dX4_tick_0 : decode cX4_tick 0 = .ok (.iload_n 1, 1) := by decide +kernel
theorem dX4_tick_1 : decode cX4_tick 1 = .ok (.iconst 1, 1) := by decide +kernel
theorem dX4_tick_2 : decode cX4_tick 2 = .ok (.sipush 2000, 3) := by decide +kernel
theorem dX4_tick_5 : decode cX4_tick 5 = .ok (.invokestatic 80, 3) := by decide +kernel
theorem dX4_tick_8 : decode cX4_tick 8 = .ok (.ifCond .ne 13, 3) := by decide +kernel
theorem dX4_tick_11 : decode cX4_tick 11 = .ok (.new 84, 3) := by decide +kernel
theorem dX4_tick_14 : decode cX4_tick 14 = .ok (.dup, 1) := by decide +kernel
theorem dX4_tick_15 : decode cX4_tick 15 = .ok (.ldc 150, 2) := by decide +kernel
theorem dX4_tick_17 : decode cX4_tick 17 = .ok (.invokespecial 88, 3) := by decide +kernel
theorem dX4_tick_20 : decode cX4_tick 20 = .ok (.athrow, 1) := by decide +kernel
theorem dX4_tick_21 : decode cX4_tick 21 = .ok (.iload_n 1, 1) := by decide +kernel
theorem dX4_tick_22 : decode cX4_tick 22 = .ok (.ldc 152, 2) := by decide +kernel
theorem dX4_tick_24 : decode cX4_tick 24 = .ok (.aload_n 0, 1) := by decide +kernel
theorem dX4_tick_25 : decode cX4_tick 25 = .ok (.getfield 31, 3) := by decide +kernel
theorem dX4_tick_28 : decode cX4_tick 28 = .ok (.isub, 1) := by decide +kernel
theorem dX4_tick_29 : decode cX4_tick 29 = .ok (.if_icmp .le 13, 3) := by decide +kernel
theorem dX4_tick_32 : decode cX4_tick 32 = .ok (.new 51, 3) := by decide +kernel
theorem dX4_tick_35 : decode cX4_tick 35 = .ok (.dup, 1) := by decide +kernel
theorem dX4_tick_36 : decode cX4_tick 36 = .ok (.ldc 153, 2) := by decide +kernel
theorem dX4_tick_38 : decode cX4_tick 38 = .ok (.invokespecial 55, 3) := by decide +kernel
theorem dX4_tick_41 : decode cX4_tick 41 = .ok (.athrow, 1) := by decide +kernel
theorem dX4_tick_42 : decode cX4_tick 42 = .ok (.aload_n 0, 1) := by decide +kernel
theorem dX4_tick_43 : decode cX4_tick 43 = .ok (.dup, 1) := by decide +kernel
theorem dX4_tick_44 : decode cX4_tick 44 = .ok (.getfield 31, 3) := by decide +kernel
theorem dX4_tick_47 : decode cX4_tick 47 = .ok (.iload_n 1, 1) := by decide +kernel
theorem dX4_tick_48 : decode cX4_tick 48 = .ok (.iadd, 1) := by decide +kernel
theorem dX4_tick_49 : decode cX4_tick 49 = .ok (.putfield 31, 3) := by decide +kernel
theorem dX4_tick_52 : decode cX4_tick 52 = .ok (.aload_n 0, 1) := by decide +kernel
theorem dX4_tick_53 : decode cX4_tick 53 = .ok (.getfield 31, 3) := by decide +kernel
theorem dX4_tick_56 : decode cX4_tick 56 = .ok (.ireturn, 1) := by decide +kernel
theorem dX4_alarm_0 : decode cX4_alarm 0 = .ok (.aload_n 0, 1) := by decide +kernel
theorem dX4_alarm_1 : decode cX4_alarm 1 = .ok (.getfield 35, 3) := by decide +kernel
theorem dX4_alarm_4 : decode cX4_alarm 4 = .ok (.istore_n 2, 1) := by decide +kernel
theorem dX4_alarm_5 : decode cX4_alarm 5 = .ok (.aload_n 0, 1) := by decide +kernel
theorem dX4_alarm_6 : decode cX4_alarm 6 = .ok (.iload_n 1, 1) := by decide +kernel
theorem dX4_alarm_7 : decode cX4_alarm 7 = .ok (.putfield 35, 3) := by decide +kernel
theorem dX4_alarm_10 : decode cX4_alarm 10 = .ok (.iload_n 2, 1) := by decide +kernel
theorem dX4_alarm_11 : decode cX4_alarm 11 = .ok (.ireturn, 1) := by decide +kernel
theorem dX4_request_0 : decode cX4_request 0 = .ok (.aload_n 0, 1) := by decide +kernel
theorem dX4_request_1 : decode cX4_request 1 = .ok (.iload_n 1, 1) := by decide +kernel
theorem dX4_request_2 : decode cX4_request 2 = .ok (.invokevirtual 122, 3) := by decide +kernel
theorem dX4_request_5 : decode cX4_request 5 = .ok (.astore_n 3, 1) := by decide +kernel
theorem dX4_request_6 : decode cX4_request 6 = .ok (.aload_n 0, 1) := by decide +kernel
theorem dX4_request_7 : decode cX4_request 7 = .ok (.iload_n 2, 1) := by decide +kernel
theorem dX4_request_8 : decode cX4_request 8 = .ok (.invokevirtual 106, 3) := by decide +kernel
theorem dX4_request_11 : decode cX4_request 11 = .ok (.astore 4, 2) := by decide +kernel
theorem dX4_request_13 : decode cX4_request 13 = .ok (.aload_n 0, 1) := by decide +kernel
theorem dX4_request_14 : decode cX4_request 14 = .ok (.aload_n 3, 1) := by decide +kernel
theorem dX4_request_15 : decode cX4_request 15 = .ok (.aload 4, 2) := by decide +kernel
theorem dX4_request_17 : decode cX4_request 17 = .ok (.invokevirtual 155, 3) := by decide +kernel
theorem dX4_request_20 : decode cX4_request 20 = .ok (.istore 5, 2) := by decide +kernel
theorem dX4_request_22 : decode cX4_request 22 = .ok (.iload 5, 2) := by decide +kernel
theorem dX4_request_24 : decode cX4_request 24 = .ok (.ifCond .ne 13, 3) := by decide +kernel
theorem dX4_request_27 : decode cX4_request 27 = .ok (.aload_n 0, 1) := by decide +kernel
theorem dX4_request_28 : decode cX4_request 28 = .ok (.aload_n 3, 1) := by decide +kernel
theorem dX4_request_29 : decode cX4_request 29 = .ok (.aload 4, 2) := by decide +kernel
theorem dX4_request_31 : decode cX4_request 31 = .ok (.invokevirtual 159, 3) := by decide +kernel
theorem dX4_request_34 : decode cX4_request 34 = .ok (.goto 14, 3) := by decide +kernel
theorem dX4_request_37 : decode cX4_request 37 = .ok (.iload 5, 2) := by decide +kernel
theorem dX4_request_39 : decode cX4_request 39 = .ok (.bipush 8, 2) := by decide +kernel
theorem dX4_request_41 : decode cX4_request 41 = .ok (.if_icmp .eq 7, 3) := by decide +kernel
theorem dX4_request_44 : decode cX4_request 44 = .ok (.aload_n 3, 1) := by decide +kernel
theorem dX4_request_45 : decode cX4_request 45 = .ok (.invokevirtual 163, 3) := by decide +kernel
theorem dX4_request_48 : decode cX4_request 48 = .ok (.iload 5, 2) := by decide +kernel
theorem dX4_request_50 : decode cX4_request 50 = .ok (.ireturn, 1) := by decide +kernel
theorem dX4_now_0 : decode cX4_now 0 = .ok (.aload_n 0, 1) := by decide +kernel
theorem dX4_now_1 : decode cX4_now 1 = .ok (.getfield 31, 3) := by decide +kernel
theorem dX4_now_4 : decode cX4_now 4 = .ok (.ireturn, 1) := by decide +kernel
theorem dX4_inside_0 : decode cX4_inside 0 = .ok (.aload_n 0, 1) := by decide +kernel
theorem dX4_inside_1 : decode cX4_inside 1 = .ok (.aload_n 0, 1) := by decide +kernel
theorem dX4_inside_2 : decode cX4_inside 2 = .ok (.iload_n 1, 1) := by decide +kernel
theorem dX4_inside_3 : decode cX4_inside 3 = .ok (.invokevirtual 58, 3) := by decide +kernel
theorem dX4_inside_6 : decode cX4_inside 6 = .ok (.invokevirtual 166, 3) := by decide +kernel
theorem dX4_inside_9 : decode cX4_inside 9 = .ok (.ireturn, 1) := by decide +kernel
theorem dX4_wasIn_0 : decode cX4_wasIn 0 = .ok (.aload_n 0, 1) := by decide +kernel
theorem dX4_wasIn_1 : decode cX4_wasIn 1 = .ok (.iload_n 1, 1) := by decide +kernel
theorem dX4_wasIn_2 : decode cX4_wasIn 2 = .ok (.invokevirtual 122, 3) := by decide +kernel
theorem dX4_wasIn_5 : decode cX4_wasIn 5 = .ok (.astore_n 3, 1) := by decide +kernel
theorem dX4_wasIn_6 : decode cX4_wasIn 6 = .ok (.iload_n 2, 1) := by decide +kernel
theorem dX4_wasIn_7 : decode cX4_wasIn 7 = .ok (.iconst 0, 1) := by decide +kernel
theorem dX4_wasIn_8 : decode cX4_wasIn 8 = .ok (.aload_n 0, 1) := by decide +kernel
theorem dX4_wasIn_9 : decode cX4_wasIn 9 = .ok (.getfield 31, 3) := by decide +kernel
theorem dX4_wasIn_12 : decode cX4_wasIn 12 = .ok (.invokestatic 80, 3) := by decide +kernel
theorem dX4_wasIn_15 : decode cX4_wasIn 15 = .ok (.ifCond .ne 13, 3) := by decide +kernel
theorem dX4_wasIn_18 : decode cX4_wasIn 18 = .ok (.new 84, 3) := by decide +kernel
theorem dX4_wasIn_21 : decode cX4_wasIn 21 = .ok (.dup, 1) := by decide +kernel
theorem dX4_wasIn_22 : decode cX4_wasIn 22 = .ok (.ldc 177, 2) := by decide +kernel
theorem dX4_wasIn_24 : decode cX4_wasIn 24 = .ok (.invokespecial 88, 3) := by decide +kernel
theorem dX4_wasIn_27 : decode cX4_wasIn 27 = .ok (.athrow, 1) := by decide +kernel
theorem dX4_wasIn_28 : decode cX4_wasIn 28 = .ok (.aload_n 3, 1) := by decide +kernel
theorem dX4_wasIn_29 : decode cX4_wasIn 29 = .ok (.iload_n 2, 1) := by decide +kernel
theorem dX4_wasIn_30 : decode cX4_wasIn 30 = .ok (.invokevirtual 179, 3) := by decide +kernel
theorem dX4_wasIn_33 : decode cX4_wasIn 33 = .ok (.getfield 182, 3) := by decide +kernel
theorem dX4_wasIn_36 : decode cX4_wasIn 36 = .ok (.ireturn, 1) := by decide +kernel
theorem dX4_minutesIn_0 : decode cX4_minutesIn 0 = .ok (.aload_n 0, 1) := by decide +kernel
theorem dX4_minutesIn_1 : decode cX4_minutesIn 1 = .ok (.iload_n 1, 1) := by decide +kernel
theorem dX4_minutesIn_2 : decode cX4_minutesIn 2 = .ok (.invokevirtual 122, 3) := by decide +kernel
theorem dX4_minutesIn_5 : decode cX4_minutesIn 5 = .ok (.astore_n 3, 1) := by decide +kernel
theorem dX4_minutesIn_6 : decode cX4_minutesIn 6 = .ok (.aload_n 3, 1) := by decide +kernel
theorem dX4_minutesIn_7 : decode cX4_minutesIn 7 = .ok (.aload_n 0, 1) := by decide +kernel
theorem dX4_minutesIn_8 : decode cX4_minutesIn 8 = .ok (.iload_n 2, 1) := by decide +kernel
theorem dX4_minutesIn_9 : decode cX4_minutesIn 9 = .ok (.invokevirtual 58, 3) := by decide +kernel
theorem dX4_minutesIn_12 : decode cX4_minutesIn 12 = .ok (.aload_n 0, 1) := by decide +kernel
theorem dX4_minutesIn_13 : decode cX4_minutesIn 13 = .ok (.getfield 31, 3) := by decide +kernel
theorem dX4_minutesIn_16 : decode cX4_minutesIn 16 = .ok (.invokevirtual 185, 3) := by decide +kernel
theorem dX4_minutesIn_19 : decode cX4_minutesIn 19 = .ok (.ireturn, 1) := by decide +kernel
theorem dX4_isWithin_0 : decode cX4_isWithin 0 = .ok (.iload_n 0, 1) := by decide +kernel
theorem dX4_isWithin_1 : decode cX4_isWithin 1 = .ok (.iload_n 1, 1) := by decide +kernel
theorem dX4_isWithin_2 : decode cX4_isWithin 2 = .ok (.if_icmp .lt 12, 3) := by decide +kernel
theorem dX4_isWithin_5 : decode cX4_isWithin 5 = .ok (.iload_n 0, 1) := by decide +kernel
theorem dX4_isWithin_6 : decode cX4_isWithin 6 = .ok (.iload_n 2, 1) := by decide +kernel
theorem dX4_isWithin_7 : decode cX4_isWithin 7 = .ok (.if_icmp .gt 7, 3) := by decide +kernel
theorem dX4_isWithin_10 : decode cX4_isWithin 10 = .ok (.iconst 1, 1) := by decide +kernel
theorem dX4_isWithin_11 : decode cX4_isWithin 11 = .ok (.goto 4, 3) := by decide +kernel
theorem dX4_isWithin_14 : decode cX4_isWithin 14 = .ok (.iconst 0, 1) := by decide +kernel
theorem dX4_isWithin_15 : decode cX4_isWithin 15 = .ok (.ireturn, 1) := by decide +kernel
theorem dX4_zoneAt_0 : decode cX4_zoneAt 0 = .ok (.iload_n 1, 1) := by decide +kernel
theorem dX4_zoneAt_1 : decode cX4_zoneAt 1 = .ok (.ifCond .lt 14, 3) := by decide +kernel
theorem dX4_zoneAt_4 : decode cX4_zoneAt 4 = .ok (.iload_n 1, 1) := by decide +kernel
theorem dX4_zoneAt_5 : decode cX4_zoneAt 5 = .ok (.aload_n 0, 1) := by decide +kernel
theorem dX4_zoneAt_6 : decode cX4_zoneAt 6 = .ok (.getfield 21, 3) := by decide +kernel
theorem dX4_zoneAt_9 : decode cX4_zoneAt 9 = .ok (.invokevirtual 47, 3) := by decide +kernel
theorem dX4_zoneAt_12 : decode cX4_zoneAt 12 = .ok (.if_icmp .lt 13, 3) := by decide +kernel
theorem dX4_zoneAt_15 : decode cX4_zoneAt 15 = .ok (.new 62, 3) := by decide +kernel
theorem dX4_zoneAt_18 : decode cX4_zoneAt 18 = .ok (.dup, 1) := by decide +kernel
theorem dX4_zoneAt_19 : decode cX4_zoneAt 19 = .ok (.ldc 211, 2) := by decide +kernel
theorem dX4_zoneAt_21 : decode cX4_zoneAt 21 = .ok (.invokespecial 66, 3) := by decide +kernel
theorem dX4_zoneAt_24 : decode cX4_zoneAt 24 = .ok (.athrow, 1) := by decide +kernel
theorem dX4_zoneAt_25 : decode cX4_zoneAt 25 = .ok (.aload_n 0, 1) := by decide +kernel
theorem dX4_zoneAt_26 : decode cX4_zoneAt 26 = .ok (.getfield 21, 3) := by decide +kernel
theorem dX4_zoneAt_29 : decode cX4_zoneAt 29 = .ok (.iload_n 1, 1) := by decide +kernel
theorem dX4_zoneAt_30 : decode cX4_zoneAt 30 = .ok (.invokevirtual 169, 3) := by decide +kernel
theorem dX4_zoneAt_33 : decode cX4_zoneAt 33 = .ok (.checkcast 9, 3) := by decide +kernel
theorem dX4_zoneAt_36 : decode cX4_zoneAt 36 = .ok (.areturn, 1) := by decide +kernel
theorem dX4_doorAt_0 : decode cX4_doorAt 0 = .ok (.iload_n 1, 1) := by decide +kernel
theorem dX4_doorAt_1 : decode cX4_doorAt 1 = .ok (.ifCond .lt 14, 3) := by decide +kernel
theorem dX4_doorAt_4 : decode cX4_doorAt 4 = .ok (.iload_n 1, 1) := by decide +kernel
theorem dX4_doorAt_5 : decode cX4_doorAt 5 = .ok (.aload_n 0, 1) := by decide +kernel
theorem dX4_doorAt_6 : decode cX4_doorAt 6 = .ok (.getfield 25, 3) := by decide +kernel
theorem dX4_doorAt_9 : decode cX4_doorAt 9 = .ok (.invokevirtual 47, 3) := by decide +kernel
theorem dX4_doorAt_12 : decode cX4_doorAt 12 = .ok (.if_icmp .lt 13, 3) := by decide +kernel
theorem dX4_doorAt_15 : decode cX4_doorAt 15 = .ok (.new 62, 3) := by decide +kernel
theorem dX4_doorAt_18 : decode cX4_doorAt 18 = .ok (.dup, 1) := by decide +kernel
theorem dX4_doorAt_19 : decode cX4_doorAt 19 = .ok (.ldc 213, 2) := by decide +kernel
theorem dX4_doorAt_21 : decode cX4_doorAt 21 = .ok (.invokespecial 66, 3) := by decide +kernel
theorem dX4_doorAt_24 : decode cX4_doorAt 24 = .ok (.athrow, 1) := by decide +kernel
theorem dX4_doorAt_25 : decode cX4_doorAt 25 = .ok (.aload_n 0, 1) := by decide +kernel
theorem dX4_doorAt_26 : decode cX4_doorAt 26 = .ok (.getfield 25, 3) := by decide +kernel
theorem dX4_doorAt_29 : decode cX4_doorAt 29 = .ok (.iload_n 1, 1) := by decide +kernel
theorem dX4_doorAt_30 : decode cX4_doorAt 30 = .ok (.invokevirtual 169, 3) := by decide +kernel
theorem dX4_doorAt_33 : decode cX4_doorAt 33 = .ok (.checkcast 91, 3) := by decide +kernel
theorem dX4_doorAt_36 : decode cX4_doorAt 36 = .ok (.areturn, 1) := by decide +kernel
theorem dX4_badgeAt_0 : decode cX4_badgeAt 0 = .ok (.iload_n 1, 1) := by decide +kernel
theorem dX4_badgeAt_1 : decode cX4_badgeAt 1 = .ok (.ifCond .lt 14, 3) := by decide +kernel
theorem dX4_badgeAt_4 : decode cX4_badgeAt 4 = .ok (.iload_n 1, 1) := by decide +kernel
theorem dX4_badgeAt_5 : decode cX4_badgeAt 5 = .ok (.aload_n 0, 1) := by decide +kernel
theorem dX4_badgeAt_6 : decode cX4_badgeAt 6 = .ok (.getfield 28, 3) := by decide +kernel
theorem dX4_badgeAt_9 : decode cX4_badgeAt 9 = .ok (.invokevirtual 47, 3) := by decide +kernel
theorem dX4_badgeAt_12 : decode cX4_badgeAt 12 = .ok (.if_icmp .lt 13, 3) := by decide +kernel
theorem dX4_badgeAt_15 : decode cX4_badgeAt 15 = .ok (.new 62, 3) := by decide +kernel
theorem dX4_badgeAt_18 : decode cX4_badgeAt 18 = .ok (.dup, 1) := by decide +kernel
theorem dX4_badgeAt_19 : decode cX4_badgeAt 19 = .ok (.ldc 215, 2) := by decide +kernel
theorem dX4_badgeAt_21 : decode cX4_badgeAt 21 = .ok (.invokespecial 66, 3) := by decide +kernel
theorem dX4_badgeAt_24 : decode cX4_badgeAt 24 = .ok (.athrow, 1) := by decide +kernel
theorem dX4_badgeAt_25 : decode cX4_badgeAt 25 = .ok (.aload_n 0, 1) := by decide +kernel
theorem dX4_badgeAt_26 : decode cX4_badgeAt 26 = .ok (.getfield 28, 3) := by decide +kernel
theorem dX4_badgeAt_29 : decode cX4_badgeAt 29 = .ok (.iload_n 1, 1) := by decide +kernel
theorem dX4_badgeAt_30 : decode cX4_badgeAt 30 = .ok (.invokevirtual 169, 3) := by decide +kernel
theorem dX4_badgeAt_33 : decode cX4_badgeAt 33 = .ok (.checkcast 127, 3) := by decide +kernel
theorem dX4_badgeAt_36 : decode cX4_badgeAt 36 = .ok (.areturn, 1) := by decide +kernel
theorem dX4_checkZone_0 : decode cX4_checkZone 0 = .ok (.iload_n 0, 1) := by decide +kernel
theorem dX4_checkZone_1 : decode cX4_checkZone 1 = .ok (.iconst 1, 1) := by decide +kernel
theorem dX4_checkZone_2 : decode cX4_checkZone 2 = .ok (.bipush 20, 2) := by decide +kernel
theorem dX4_checkZone_4 : decode cX4_checkZone 4 = .ok (.invokestatic 80, 3) := by decide +kernel
theorem dX4_checkZone_7 : decode cX4_checkZone 7 = .ok (.ifCond .ne 13, 3) := by decide +kernel
theorem dX4_checkZone_10 : decode cX4_checkZone 10 = .ok (.new 84, 3) := by decide +kernel
theorem dX4_checkZone_13 : decode cX4_checkZone 13 = .ok (.dup, 1) := by decide +kernel
theorem dX4_checkZone_14 : decode cX4_checkZone 14 = .ok (.ldc 217, 2) := by decide +kernel
theorem dX4_checkZone_16 : decode cX4_checkZone 16 = .ok (.invokespecial 88, 3) := by decide +kernel
theorem dX4_checkZone_19 : decode cX4_checkZone 19 = .ok (.athrow, 1) := by decide +kernel
theorem dX4_checkZone_20 : decode cX4_checkZone 20 = .ok (.iload_n 1, 1) := by decide +kernel
theorem dX4_checkZone_21 : decode cX4_checkZone 21 = .ok (.iconst 0, 1) := by decide +kernel
theorem dX4_checkZone_22 : decode cX4_checkZone 22 = .ok (.sipush 1439, 3) := by decide +kernel
theorem dX4_checkZone_25 : decode cX4_checkZone 25 = .ok (.invokestatic 80, 3) := by decide +kernel
theorem dX4_checkZone_28 : decode cX4_checkZone 28 = .ok (.ifCond .eq 19, 3) := by decide +kernel
theorem dX4_checkZone_31 : decode cX4_checkZone 31 = .ok (.iload_n 2, 1) := by decide +kernel
theorem dX4_checkZone_32 : decode cX4_checkZone 32 = .ok (.iconst 0, 1) := by decide +kernel
theorem dX4_checkZone_33 : decode cX4_checkZone 33 = .ok (.sipush 1440, 3) := by decide +kernel
theorem dX4_checkZone_36 : decode cX4_checkZone 36 = .ok (.invokestatic 80, 3) := by decide +kernel
theorem dX4_checkZone_39 : decode cX4_checkZone 39 = .ok (.ifCond .eq 8, 3) := by decide +kernel
theorem dX4_checkZone_42 : decode cX4_checkZone 42 = .ok (.iload_n 1, 1) := by decide +kernel
theorem dX4_checkZone_43 : decode cX4_checkZone 43 = .ok (.iload_n 2, 1) := by decide +kernel
theorem dX4_checkZone_44 : decode cX4_checkZone 44 = .ok (.if_icmp .ne 13, 3) := by decide +kernel
theorem dX4_checkZone_47 : decode cX4_checkZone 47 = .ok (.new 84, 3) := by decide +kernel
theorem dX4_checkZone_50 : decode cX4_checkZone 50 = .ok (.dup, 1) := by decide +kernel
theorem dX4_checkZone_51 : decode cX4_checkZone 51 = .ok (.ldc 219, 2) := by decide +kernel
theorem dX4_checkZone_53 : decode cX4_checkZone 53 = .ok (.invokespecial 88, 3) := by decide +kernel
theorem dX4_checkZone_56 : decode cX4_checkZone 56 = .ok (.athrow, 1) := by decide +kernel
theorem dX4_checkZone_57 : decode cX4_checkZone 57 = .ok (.return_, 1) := by decide +kernel
theorem dX4_checkRights_0 : decode cX4_checkRights 0 = .ok (.iload_n 0, 1) := by decide +kernel
theorem dX4_checkRights_1 : decode cX4_checkRights 1 = .ok (.iconst 0, 1) := by decide +kernel
theorem dX4_checkRights_2 : decode cX4_checkRights 2 = .ok (.sipush 255, 3) := by decide +kernel
theorem dX4_checkRights_5 : decode cX4_checkRights 5 = .ok (.invokestatic 80, 3) := by decide +kernel
theorem dX4_checkRights_8 : decode cX4_checkRights 8 = .ok (.ifCond .ne 13, 3) := by decide +kernel
theorem dX4_checkRights_11 : decode cX4_checkRights 11 = .ok (.new 84, 3) := by decide +kernel
theorem dX4_checkRights_14 : decode cX4_checkRights 14 = .ok (.dup, 1) := by decide +kernel
theorem dX4_checkRights_15 : decode cX4_checkRights 15 = .ok (.ldc 221, 2) := by decide +kernel
theorem dX4_checkRights_17 : decode cX4_checkRights 17 = .ok (.invokespecial 88, 3) := by decide +kernel
theorem dX4_checkRights_20 : decode cX4_checkRights 20 = .ok (.athrow, 1) := by decide +kernel
theorem dX4_checkRights_21 : decode cX4_checkRights 21 = .ok (.return_, 1) := by decide +kernel
theorem dX4_keepBadge_0 : decode cX4_keepBadge 0 = .ok (.aload_n 0, 1) := by decide +kernel
theorem dX4_keepBadge_1 : decode cX4_keepBadge 1 = .ok (.getfield 28, 3) := by decide +kernel
theorem dX4_keepBadge_4 : decode cX4_keepBadge 4 = .ok (.invokevirtual 47, 3) := by decide +kernel
theorem dX4_keepBadge_7 : decode cX4_keepBadge 7 = .ok (.istore_n 3, 1) := by decide +kernel
theorem dX4_keepBadge_8 : decode cX4_keepBadge 8 = .ok (.iload_n 3, 1) := by decide +kernel
theorem dX4_keepBadge_9 : decode cX4_keepBadge 9 = .ok (.bipush 10, 2) := by decide +kernel
theorem dX4_keepBadge_11 : decode cX4_keepBadge 11 = .ok (.if_icmp .lt 13, 3) := by decide +kernel
theorem dX4_keepBadge_14 : decode cX4_keepBadge 14 = .ok (.new 51, 3) := by decide +kernel
theorem dX4_keepBadge_17 : decode cX4_keepBadge 17 = .ok (.dup, 1) := by decide +kernel
theorem dX4_keepBadge_18 : decode cX4_keepBadge 18 = .ok (.ldc 223, 2) := by decide +kernel
theorem dX4_keepBadge_20 : decode cX4_keepBadge 20 = .ok (.invokespecial 55, 3) := by decide +kernel
theorem dX4_keepBadge_23 : decode cX4_keepBadge 23 = .ok (.athrow, 1) := by decide +kernel
theorem dX4_keepBadge_24 : decode cX4_keepBadge 24 = .ok (.aload_n 0, 1) := by decide +kernel
theorem dX4_keepBadge_25 : decode cX4_keepBadge 25 = .ok (.getfield 28, 3) := by decide +kernel
theorem dX4_keepBadge_28 : decode cX4_keepBadge 28 = .ok (.new 127, 3) := by decide +kernel
theorem dX4_keepBadge_31 : decode cX4_keepBadge 31 = .ok (.dup, 1) := by decide +kernel
theorem dX4_keepBadge_32 : decode cX4_keepBadge 32 = .ok (.iload_n 3, 1) := by decide +kernel
theorem dX4_keepBadge_33 : decode cX4_keepBadge 33 = .ok (.aload_n 1, 1) := by decide +kernel
theorem dX4_keepBadge_34 : decode cX4_keepBadge 34 = .ok (.iload_n 2, 1) := by decide +kernel
theorem dX4_keepBadge_35 : decode cX4_keepBadge 35 = .ok (.aload_n 0, 1) := by decide +kernel
theorem dX4_keepBadge_36 : decode cX4_keepBadge 36 = .ok (.getfield 14, 3) := by decide +kernel
theorem dX4_keepBadge_39 : decode cX4_keepBadge 39 = .ok (.invokespecial 225, 3) := by decide +kernel
theorem dX4_keepBadge_42 : decode cX4_keepBadge 42 = .ok (.invokevirtual 39, 3) := by decide +kernel
theorem dX4_keepBadge_45 : decode cX4_keepBadge 45 = .ok (.pop, 1) := by decide +kernel
theorem dX4_keepBadge_46 : decode cX4_keepBadge 46 = .ok (.iload_n 3, 1) := by decide +kernel
theorem dX4_keepBadge_47 : decode cX4_keepBadge 47 = .ok (.ireturn, 1) := by decide +kernel
theorem dX4_badgesIn_0 : decode cX4_badgesIn 0 = .ok (.iconst 0, 1) := by decide +kernel
theorem dX4_badgesIn_1 : decode cX4_badgesIn 1 = .ok (.istore_n 2, 1) := by decide +kernel
theorem dX4_badgesIn_2 : decode cX4_badgesIn 2 = .ok (.iconst 0, 1) := by decide +kernel
theorem dX4_badgesIn_3 : decode cX4_badgesIn 3 = .ok (.istore_n 3, 1) := by decide +kernel
theorem dX4_badgesIn_4 : decode cX4_badgesIn 4 = .ok (.iload_n 3, 1) := by decide +kernel
theorem dX4_badgesIn_5 : decode cX4_badgesIn 5 = .ok (.aload_n 0, 1) := by decide +kernel
theorem dX4_badgesIn_6 : decode cX4_badgesIn 6 = .ok (.getfield 28, 3) := by decide +kernel
theorem dX4_badgesIn_9 : decode cX4_badgesIn 9 = .ok (.invokevirtual 47, 3) := by decide +kernel
theorem dX4_badgesIn_12 : decode cX4_badgesIn 12 = .ok (.if_icmp .ge 36, 3) := by decide +kernel
theorem dX4_badgesIn_15 : decode cX4_badgesIn 15 = .ok (.aload_n 0, 1) := by decide +kernel
theorem dX4_badgesIn_16 : decode cX4_badgesIn 16 = .ok (.getfield 28, 3) := by decide +kernel
theorem dX4_badgesIn_19 : decode cX4_badgesIn 19 = .ok (.iload_n 3, 1) := by decide +kernel
theorem dX4_badgesIn_20 : decode cX4_badgesIn 20 = .ok (.invokevirtual 169, 3) := by decide +kernel
theorem dX4_badgesIn_23 : decode cX4_badgesIn 23 = .ok (.checkcast 127, 3) := by decide +kernel
theorem dX4_badgesIn_26 : decode cX4_badgesIn 26 = .ok (.getfield 193, 3) := by decide +kernel
theorem dX4_badgesIn_29 : decode cX4_badgesIn 29 = .ok (.getfield 197, 3) := by decide +kernel
theorem dX4_badgesIn_32 : decode cX4_badgesIn 32 = .ok (.aload_n 1, 1) := by decide +kernel
theorem dX4_badgesIn_33 : decode cX4_badgesIn 33 = .ok (.if_acmp .ne 9, 3) := by decide +kernel
theorem dX4_badgesIn_36 : decode cX4_badgesIn 36 = .ok (.iload_n 2, 1) := by decide +kernel
theorem dX4_badgesIn_37 : decode cX4_badgesIn 37 = .ok (.iconst 1, 1) := by decide +kernel
theorem dX4_badgesIn_38 : decode cX4_badgesIn 38 = .ok (.iload_n 3, 1) := by decide +kernel
theorem dX4_badgesIn_39 : decode cX4_badgesIn 39 = .ok (.ishl, 1) := by decide +kernel
theorem dX4_badgesIn_40 : decode cX4_badgesIn 40 = .ok (.ior, 1) := by decide +kernel
theorem dX4_badgesIn_41 : decode cX4_badgesIn 41 = .ok (.istore_n 2, 1) := by decide +kernel
theorem dX4_badgesIn_42 : decode cX4_badgesIn 42 = .ok (.iinc 3 1, 3) := by decide +kernel
theorem dX4_badgesIn_45 : decode cX4_badgesIn 45 = .ok (.goto (-41), 3) := by decide +kernel
theorem dX4_badgesIn_48 : decode cX4_badgesIn 48 = .ok (.iload_n 2, 1) := by decide +kernel
theorem dX4_badgesIn_49 : decode cX4_badgesIn 49 = .ok (.ireturn, 1) := by decide +kernel
theorem dX4_countIn_0 : decode cX4_countIn 0 = .ok (.aload_n 0, 1) := by decide +kernel
theorem dX4_countIn_1 : decode cX4_countIn 1 = .ok (.aload_n 1, 1) := by decide +kernel
theorem dX4_countIn_2 : decode cX4_countIn 2 = .ok (.invokevirtual 166, 3) := by decide +kernel
theorem dX4_countIn_5 : decode cX4_countIn 5 = .ok (.invokestatic 230, 3) := by decide +kernel
theorem dX4_countIn_8 : decode cX4_countIn 8 = .ok (.ireturn, 1) := by decide +kernel
theorem dX4_answerTo_0 : decode cX4_answerTo 0 = .ok (.aload_n 1, 1) := by decide +kernel
theorem dX4_answerTo_1 : decode cX4_answerTo 1 = .ok (.getfield 139, 3) := by decide +kernel
theorem dX4_answerTo_4 : decode cX4_answerTo 4 = .ok (.ifCond .eq 6, 3) := by decide +kernel
theorem dX4_answerTo_7 : decode cX4_answerTo 7 = .ok (.bipush 8, 2) := by decide +kernel
theorem dX4_answerTo_9 : decode cX4_answerTo 9 = .ok (.ireturn, 1) := by decide +kernel
theorem dX4_answerTo_10 : decode cX4_answerTo 10 = .ok (.aload_n 2, 1) := by decide +kernel
theorem dX4_answerTo_11 : decode cX4_answerTo 11 = .ok (.aload_n 1, 1) := by decide +kernel
theorem dX4_answerTo_12 : decode cX4_answerTo 12 = .ok (.getfield 193, 3) := by decide +kernel
theorem dX4_answerTo_15 : decode cX4_answerTo 15 = .ok (.getfield 197, 3) := by decide +kernel
theorem dX4_answerTo_18 : decode cX4_answerTo 18 = .ok (.invokevirtual 235, 3) := by decide +kernel
theorem dX4_answerTo_21 : decode cX4_answerTo 21 = .ok (.astore_n 3, 1) := by decide +kernel
theorem dX4_answerTo_22 : decode cX4_answerTo 22 = .ok (.aload_n 3, 1) := by decide +kernel
theorem dX4_answerTo_23 : decode cX4_answerTo 23 = .ok (.ifnonnull 5, 3) := by decide +kernel
theorem dX4_answerTo_26 : decode cX4_answerTo 26 = .ok (.iconst 1, 1) := by decide +kernel
theorem dX4_answerTo_27 : decode cX4_answerTo 27 = .ok (.ireturn, 1) := by decide +kernel
theorem dX4_answerTo_28 : decode cX4_answerTo 28 = .ok (.aload_n 0, 1) := by decide +kernel
theorem dX4_answerTo_29 : decode cX4_answerTo 29 = .ok (.getfield 35, 3) := by decide +kernel
theorem dX4_answerTo_32 : decode cX4_answerTo 32 = .ok (.ifCond .eq 12, 3) := by decide +kernel
theorem dX4_answerTo_35 : decode cX4_answerTo 35 = .ok (.aload_n 0, 1) := by decide +kernel
theorem dX4_answerTo_36 : decode cX4_answerTo 36 = .ok (.aload_n 1, 1) := by decide +kernel
theorem dX4_answerTo_37 : decode cX4_answerTo 37 = .ok (.aload_n 3, 1) := by decide +kernel
theorem dX4_answerTo_38 : decode cX4_answerTo 38 = .ok (.invokevirtual 239, 3) := by decide +kernel
theorem dX4_answerTo_41 : decode cX4_answerTo 41 = .ok (.goto 10, 3) := by decide +kernel
theorem dX4_answerTo_44 : decode cX4_answerTo 44 = .ok (.aload_n 0, 1) := by decide +kernel
theorem dX4_answerTo_45 : decode cX4_answerTo 45 = .ok (.aload_n 1, 1) := by decide +kernel
theorem dX4_answerTo_46 : decode cX4_answerTo 46 = .ok (.aload_n 2, 1) := by decide +kernel
theorem dX4_answerTo_47 : decode cX4_answerTo 47 = .ok (.aload_n 3, 1) := by decide +kernel
theorem dX4_answerTo_48 : decode cX4_answerTo 48 = .ok (.invokevirtual 243, 3) := by decide +kernel
theorem dX4_answerTo_51 : decode cX4_answerTo 51 = .ok (.ireturn, 1) := by decide +kernel
theorem dX4_answerInPeace_0 : decode cX4_answerInPeace 0 = .ok (.aload_n 1, 1) := by decide +kernel
theorem dX4_answerInPeace_1 : decode cX4_answerInPeace 1 = .ok (.aload_n 3, 1) := by decide +kernel
theorem dX4_answerInPeace_2 : decode cX4_answerInPeace 2 = .ok (.invokevirtual 247, 3) := by decide +kernel
theorem dX4_answerInPeace_5 : decode cX4_answerInPeace 5 = .ok (.ifCond .ne 5, 3) := by decide +kernel
theorem dX4_answerInPeace_8 : decode cX4_answerInPeace 8 = .ok (.iconst 2, 1) := by decide +kernel
theorem dX4_answerInPeace_9 : decode cX4_answerInPeace 9 = .ok (.ireturn, 1) := by decide +kernel
theorem dX4_answerInPeace_10 : decode cX4_answerInPeace 10 = .ok (.aload_n 3, 1) := by decide +kernel
theorem dX4_answerInPeace_11 : decode cX4_answerInPeace 11 = .ok (.aload_n 0, 1) := by decide +kernel
theorem dX4_answerInPeace_12 : decode cX4_answerInPeace 12 = .ok (.getfield 31, 3) := by decide +kernel
theorem dX4_answerInPeace_15 : decode cX4_answerInPeace 15 = .ok (.invokevirtual 102, 3) := by decide +kernel
theorem dX4_answerInPeace_18 : decode cX4_answerInPeace 18 = .ok (.ifCond .ne 5, 3) := by decide +kernel
theorem dX4_answerInPeace_21 : decode cX4_answerInPeace 21 = .ok (.iconst 3, 1) := by decide +kernel
theorem dX4_answerInPeace_22 : decode cX4_answerInPeace 22 = .ok (.ireturn, 1) := by decide +kernel
theorem dX4_answerInPeace_23 : decode cX4_answerInPeace 23 = .ok (.aload_n 0, 1) := by decide +kernel
theorem dX4_answerInPeace_24 : decode cX4_answerInPeace 24 = .ok (.aload_n 3, 1) := by decide +kernel
theorem dX4_answerInPeace_25 : decode cX4_answerInPeace 25 = .ok (.invokevirtual 76, 3) := by decide +kernel
theorem dX4_answerInPeace_28 : decode cX4_answerInPeace 28 = .ok (.aload_n 3, 1) := by decide +kernel
theorem dX4_answerInPeace_29 : decode cX4_answerInPeace 29 = .ok (.getfield 67, 3) := by decide +kernel
theorem dX4_answerInPeace_32 : decode cX4_answerInPeace 32 = .ok (.if_icmp .lt 5, 3) := by decide +kernel
theorem dX4_answerInPeace_35 : decode cX4_answerInPeace 35 = .ok (.iconst 4, 1) := by decide +kernel
theorem dX4_answerInPeace_36 : decode cX4_answerInPeace 36 = .ok (.ireturn, 1) := by decide +kernel
theorem dX4_answerInPeace_37 : decode cX4_answerInPeace 37 = .ok (.aload_n 0, 1) := by decide +kernel
theorem dX4_answerInPeace_38 : decode cX4_answerInPeace 38 = .ok (.aload_n 2, 1) := by decide +kernel
theorem dX4_answerInPeace_39 : decode cX4_answerInPeace 39 = .ok (.invokevirtual 250, 3) := by decide +kernel
theorem dX4_answerInPeace_42 : decode cX4_answerInPeace 42 = .ok (.ifCond .eq 5, 3) := by decide +kernel
theorem dX4_answerInPeace_45 : decode cX4_answerInPeace 45 = .ok (.iconst 5, 1) := by decide +kernel
theorem dX4_answerInPeace_46 : decode cX4_answerInPeace 46 = .ok (.ireturn, 1) := by decide +kernel
theorem dX4_answerInPeace_47 : decode cX4_answerInPeace 47 = .ok (.aload_n 1, 1) := by decide +kernel
theorem dX4_answerInPeace_48 : decode cX4_answerInPeace 48 = .ok (.aload_n 3, 1) := by decide +kernel
theorem dX4_answerInPeace_49 : decode cX4_answerInPeace 49 = .ok (.aload_n 0, 1) := by decide +kernel
theorem dX4_answerInPeace_50 : decode cX4_answerInPeace 50 = .ok (.getfield 14, 3) := by decide +kernel
theorem dX4_answerInPeace_53 : decode cX4_answerInPeace 53 = .ok (.invokevirtual 254, 3) := by decide +kernel
theorem dX4_answerInPeace_56 : decode cX4_answerInPeace 56 = .ok (.ifCond .eq 6, 3) := by decide +kernel
theorem dX4_answerInPeace_59 : decode cX4_answerInPeace 59 = .ok (.bipush 6, 2) := by decide +kernel
theorem dX4_answerInPeace_61 : decode cX4_answerInPeace 61 = .ok (.ireturn, 1) := by decide +kernel
theorem dX4_answerInPeace_62 : decode cX4_answerInPeace 62 = .ok (.aload_n 0, 1) := by decide +kernel
theorem dX4_answerInPeace_63 : decode cX4_answerInPeace 63 = .ok (.aload_n 1, 1) := by decide +kernel
theorem dX4_answerInPeace_64 : decode cX4_answerInPeace 64 = .ok (.invokevirtual 258, 3) := by decide +kernel
theorem dX4_answerInPeace_67 : decode cX4_answerInPeace 67 = .ok (.ifCond .eq 6, 3) := by decide +kernel
theorem dX4_answerInPeace_70 : decode cX4_answerInPeace 70 = .ok (.bipush 7, 2) := by decide +kernel
theorem dX4_answerInPeace_72 : decode cX4_answerInPeace 72 = .ok (.ireturn, 1) := by decide +kernel
theorem dX4_answerInPeace_73 : decode cX4_answerInPeace 73 = .ok (.iconst 0, 1) := by decide +kernel
theorem dX4_answerInPeace_74 : decode cX4_answerInPeace 74 = .ok (.ireturn, 1) := by decide +kernel
theorem dX4_answerInAlarm_0 : decode cX4_answerInAlarm 0 = .ok (.aload_n 0, 1) := by decide +kernel
theorem dX4_answerInAlarm_1 : decode cX4_answerInAlarm 1 = .ok (.invokevirtual 96, 3) := by decide +kernel
theorem dX4_answerInAlarm_4 : decode cX4_answerInAlarm 4 = .ok (.aload_n 2, 1) := by decide +kernel
theorem dX4_answerInAlarm_5 : decode cX4_answerInAlarm 5 = .ok (.getfield 99, 3) := by decide +kernel
theorem dX4_answerInAlarm_8 : decode cX4_answerInAlarm 8 = .ok (.aload_n 1, 1) := by decide +kernel
theorem dX4_answerInAlarm_9 : decode cX4_answerInAlarm 9 = .ok (.getfield 193, 3) := by decide +kernel
theorem dX4_answerInAlarm_12 : decode cX4_answerInAlarm 12 = .ok (.getfield 197, 3) := by decide +kernel
theorem dX4_answerInAlarm_15 : decode cX4_answerInAlarm 15 = .ok (.getfield 99, 3) := by decide +kernel
theorem dX4_answerInAlarm_18 : decode cX4_answerInAlarm 18 = .ok (.if_icmp .lt 6, 3) := by decide +kernel
theorem dX4_answerInAlarm_21 : decode cX4_answerInAlarm 21 = .ok (.bipush 9, 2) := by decide +kernel
theorem dX4_answerInAlarm_23 : decode cX4_answerInAlarm 23 = .ok (.ireturn, 1) := by decide +kernel
theorem dX4_answerInAlarm_24 : decode cX4_answerInAlarm 24 = .ok (.aload_n 1, 1) := by decide +kernel
theorem dX4_answerInAlarm_25 : decode cX4_answerInAlarm 25 = .ok (.aload_n 2, 1) := by decide +kernel
theorem dX4_answerInAlarm_26 : decode cX4_answerInAlarm 26 = .ok (.aload_n 0, 1) := by decide +kernel
theorem dX4_answerInAlarm_27 : decode cX4_answerInAlarm 27 = .ok (.getfield 14, 3) := by decide +kernel
theorem dX4_answerInAlarm_30 : decode cX4_answerInAlarm 30 = .ok (.invokevirtual 254, 3) := by decide +kernel
theorem dX4_answerInAlarm_33 : decode cX4_answerInAlarm 33 = .ok (.ifCond .eq 6, 3) := by decide +kernel
theorem dX4_answerInAlarm_36 : decode cX4_answerInAlarm 36 = .ok (.bipush 6, 2) := by decide +kernel
theorem dX4_answerInAlarm_38 : decode cX4_answerInAlarm 38 = .ok (.ireturn, 1) := by decide +kernel
theorem dX4_answerInAlarm_39 : decode cX4_answerInAlarm 39 = .ok (.iconst 0, 1) := by decide +kernel
theorem dX4_answerInAlarm_40 : decode cX4_answerInAlarm 40 = .ok (.ireturn, 1) := by decide +kernel
theorem dX4_isExcluded_0 : decode cX4_isExcluded 0 = .ok (.iconst 0, 1) := by decide +kernel
theorem dX4_isExcluded_1 : decode cX4_isExcluded 1 = .ok (.istore_n 2, 1) := by decide +kernel
theorem dX4_isExcluded_2 : decode cX4_isExcluded 2 = .ok (.iload_n 2, 1) := by decide +kernel
theorem dX4_isExcluded_3 : decode cX4_isExcluded 3 = .ok (.aload_n 0, 1) := by decide +kernel
theorem dX4_isExcluded_4 : decode cX4_isExcluded 4 = .ok (.getfield 25, 3) := by decide +kernel
theorem dX4_isExcluded_7 : decode cX4_isExcluded 7 = .ok (.invokevirtual 47, 3) := by decide +kernel
theorem dX4_isExcluded_10 : decode cX4_isExcluded 10 = .ok (.if_icmp .ge 42, 3) := by decide +kernel
theorem dX4_isExcluded_13 : decode cX4_isExcluded 13 = .ok (.aload_n 0, 1) := by decide +kernel
theorem dX4_isExcluded_14 : decode cX4_isExcluded 14 = .ok (.getfield 25, 3) := by decide +kernel
theorem dX4_isExcluded_17 : decode cX4_isExcluded 17 = .ok (.iload_n 2, 1) := by decide +kernel
theorem dX4_isExcluded_18 : decode cX4_isExcluded 18 = .ok (.invokevirtual 169, 3) := by decide +kernel
theorem dX4_isExcluded_21 : decode cX4_isExcluded 21 = .ok (.checkcast 91, 3) := by decide +kernel
theorem dX4_isExcluded_24 : decode cX4_isExcluded 24 = .ok (.astore_n 3, 1) := by decide +kernel
theorem dX4_isExcluded_25 : decode cX4_isExcluded 25 = .ok (.aload_n 3, 1) := by decide +kernel
theorem dX4_isExcluded_26 : decode cX4_isExcluded 26 = .ok (.aload_n 1, 1) := by decide +kernel
theorem dX4_isExcluded_27 : decode cX4_isExcluded 27 = .ok (.invokevirtual 262, 3) := by decide +kernel
theorem dX4_isExcluded_30 : decode cX4_isExcluded 30 = .ok (.ifCond .eq 16, 3) := by decide +kernel
theorem dX4_isExcluded_33 : decode cX4_isExcluded 33 = .ok (.aload_n 3, 1) := by decide +kernel
theorem dX4_isExcluded_34 : decode cX4_isExcluded 34 = .ok (.aload_n 0, 1) := by decide +kernel
theorem dX4_isExcluded_35 : decode cX4_isExcluded 35 = .ok (.getfield 31, 3) := by decide +kernel
theorem dX4_isExcluded_38 : decode cX4_isExcluded 38 = .ok (.invokevirtual 110, 3) := by decide +kernel
theorem dX4_isExcluded_41 : decode cX4_isExcluded 41 = .ok (.ifCond .le 5, 3) := by decide +kernel
theorem dX4_isExcluded_44 : decode cX4_isExcluded 44 = .ok (.iconst 1, 1) := by decide +kernel
theorem dX4_isExcluded_45 : decode cX4_isExcluded 45 = .ok (.ireturn, 1) := by decide +kernel
theorem dX4_isExcluded_46 : decode cX4_isExcluded 46 = .ok (.iinc 2 1, 3) := by decide +kernel
theorem dX4_isExcluded_49 : decode cX4_isExcluded 49 = .ok (.goto (-47), 3) := by decide +kernel
theorem dX4_isExcluded_52 : decode cX4_isExcluded 52 = .ok (.iconst 0, 1) := by decide +kernel
theorem dX4_isExcluded_53 : decode cX4_isExcluded 53 = .ok (.ireturn, 1) := by decide +kernel
theorem dX4_wouldLeaveVisitor_0 : decode cX4_wouldLeaveVisitor 0 = .ok (.aload_n 1, 1) := by decide +kernel
theorem dX4_wouldLeaveVisitor_1 : decode cX4_wouldLeaveVisitor 1 = .ok (.getfield 193, 3) := by decide +kernel
theorem dX4_wouldLeaveVisitor_4 : decode cX4_wouldLeaveVisitor 4 = .ok (.getfield 197, 3) := by decide +kernel
theorem dX4_wouldLeaveVisitor_7 : decode cX4_wouldLeaveVisitor 7 = .ok (.astore_n 2, 1) := by decide +kernel
theorem dX4_wouldLeaveVisitor_8 : decode cX4_wouldLeaveVisitor 8 = .ok (.aload_n 2, 1) := by decide +kernel
theorem dX4_wouldLeaveVisitor_9 : decode cX4_wouldLeaveVisitor 9 = .ok (.aload_n 0, 1) := by decide +kernel
theorem dX4_wouldLeaveVisitor_10 : decode cX4_wouldLeaveVisitor 10 = .ok (.getfield 14, 3) := by decide +kernel
theorem dX4_wouldLeaveVisitor_13 : decode cX4_wouldLeaveVisitor 13 = .ok (.if_acmp .ne 5, 3) := by decide +kernel
theorem dX4_wouldLeaveVisitor_16 : decode cX4_wouldLeaveVisitor 16 = .ok (.iconst 0, 1) := by decide +kernel
theorem dX4_wouldLeaveVisitor_17 : decode cX4_wouldLeaveVisitor 17 = .ok (.ireturn, 1) := by decide +kernel
theorem dX4_wouldLeaveVisitor_18 : decode cX4_wouldLeaveVisitor 18 = .ok (.iconst 0, 1) := by decide +kernel
theorem dX4_wouldLeaveVisitor_19 : decode cX4_wouldLeaveVisitor 19 = .ok (.istore_n 3, 1) := by decide +kernel
theorem dX4_wouldLeaveVisitor_20 : decode cX4_wouldLeaveVisitor 20 = .ok (.iload_n 3, 1) := by decide +kernel
theorem dX4_wouldLeaveVisitor_21 : decode cX4_wouldLeaveVisitor 21 = .ok (.aload_n 0, 1) := by decide +kernel
theorem dX4_wouldLeaveVisitor_22 : decode cX4_wouldLeaveVisitor 22 = .ok (.getfield 28, 3) := by decide +kernel
theorem dX4_wouldLeaveVisitor_25 : decode cX4_wouldLeaveVisitor 25 = .ok (.invokevirtual 47, 3) := by decide +kernel
theorem dX4_wouldLeaveVisitor_28 : decode cX4_wouldLeaveVisitor 28 = .ok (.if_icmp .ge 45, 3) := by decide +kernel
theorem dX4_wouldLeaveVisitor_31 : decode cX4_wouldLeaveVisitor 31 = .ok (.aload_n 0, 1) := by decide +kernel
theorem dX4_wouldLeaveVisitor_32 : decode cX4_wouldLeaveVisitor 32 = .ok (.getfield 28, 3) := by decide +kernel
theorem dX4_wouldLeaveVisitor_35 : decode cX4_wouldLeaveVisitor 35 = .ok (.iload_n 3, 1) := by decide +kernel
theorem dX4_wouldLeaveVisitor_36 : decode cX4_wouldLeaveVisitor 36 = .ok (.invokevirtual 169, 3) := by decide +kernel
theorem dX4_wouldLeaveVisitor_39 : decode cX4_wouldLeaveVisitor 39 = .ok (.checkcast 127, 3) := by decide +kernel
theorem dX4_wouldLeaveVisitor_42 : decode cX4_wouldLeaveVisitor 42 = .ok (.astore 4, 2) := by decide +kernel
theorem dX4_wouldLeaveVisitor_44 : decode cX4_wouldLeaveVisitor 44 = .ok (.aload 4, 2) := by decide +kernel
theorem dX4_wouldLeaveVisitor_46 : decode cX4_wouldLeaveVisitor 46 = .ok (.getfield 126, 3) := by decide +kernel
theorem dX4_wouldLeaveVisitor_49 : decode cX4_wouldLeaveVisitor 49 = .ok (.aload_n 1, 1) := by decide +kernel
theorem dX4_wouldLeaveVisitor_50 : decode cX4_wouldLeaveVisitor 50 = .ok (.if_acmp .ne 17, 3) := by decide +kernel
theorem dX4_wouldLeaveVisitor_53 : decode cX4_wouldLeaveVisitor 53 = .ok (.aload 4, 2) := by decide +kernel
theorem dX4_wouldLeaveVisitor_55 : decode cX4_wouldLeaveVisitor 55 = .ok (.getfield 193, 3) := by decide +kernel
theorem dX4_wouldLeaveVisitor_58 : decode cX4_wouldLeaveVisitor 58 = .ok (.getfield 197, 3) := by decide +kernel
theorem dX4_wouldLeaveVisitor_61 : decode cX4_wouldLeaveVisitor 61 = .ok (.aload_n 2, 1) := by decide +kernel
theorem dX4_wouldLeaveVisitor_62 : decode cX4_wouldLeaveVisitor 62 = .ok (.if_acmp .ne 5, 3) := by decide +kernel
theorem dX4_wouldLeaveVisitor_65 : decode cX4_wouldLeaveVisitor 65 = .ok (.iconst 1, 1) := by decide +kernel
theorem dX4_wouldLeaveVisitor_66 : decode cX4_wouldLeaveVisitor 66 = .ok (.ireturn, 1) := by decide +kernel
theorem dX4_wouldLeaveVisitor_67 : decode cX4_wouldLeaveVisitor 67 = .ok (.iinc 3 1, 3) := by decide +kernel
theorem dX4_wouldLeaveVisitor_70 : decode cX4_wouldLeaveVisitor 70 = .ok (.goto (-50), 3) := by decide +kernel
theorem dX4_wouldLeaveVisitor_73 : decode cX4_wouldLeaveVisitor 73 = .ok (.iconst 0, 1) := by decide +kernel
theorem dX4_wouldLeaveVisitor_74 : decode cX4_wouldLeaveVisitor 74 = .ok (.ireturn, 1) := by decide +kernel
theorem dX4_pass_0 : decode cX4_pass 0 = .ok (.aload_n 2, 1) := by decide +kernel
theorem dX4_pass_1 : decode cX4_pass 1 = .ok (.aload_n 1, 1) := by decide +kernel
theorem dX4_pass_2 : decode cX4_pass 2 = .ok (.getfield 193, 3) := by decide +kernel
theorem dX4_pass_5 : decode cX4_pass 5 = .ok (.getfield 197, 3) := by decide +kernel
theorem dX4_pass_8 : decode cX4_pass 8 = .ok (.invokevirtual 235, 3) := by decide +kernel
theorem dX4_pass_11 : decode cX4_pass 11 = .ok (.astore_n 3, 1) := by decide +kernel
theorem dX4_pass_12 : decode cX4_pass 12 = .ok (.aload_n 3, 1) := by decide +kernel
theorem dX4_pass_13 : decode cX4_pass 13 = .ok (.ifnonnull 4, 3) := by decide +kernel
theorem dX4_pass_16 : decode cX4_pass 16 = .ok (.return_, 1) := by decide +kernel
theorem dX4_pass_17 : decode cX4_pass 17 = .ok (.aload_n 1, 1) := by decide +kernel
theorem dX4_pass_18 : decode cX4_pass 18 = .ok (.aload_n 3, 1) := by decide +kernel
theorem dX4_pass_19 : decode cX4_pass 19 = .ok (.aload_n 0, 1) := by decide +kernel
theorem dX4_pass_20 : decode cX4_pass 20 = .ok (.getfield 31, 3) := by decide +kernel
theorem dX4_pass_23 : decode cX4_pass 23 = .ok (.invokevirtual 265, 3) := by decide +kernel
theorem dX4_pass_26 : decode cX4_pass 26 = .ok (.aload_n 1, 1) := by decide +kernel
theorem dX4_pass_27 : decode cX4_pass 27 = .ok (.iconst 0, 1) := by decide +kernel
theorem dX4_pass_28 : decode cX4_pass 28 = .ok (.putfield 142, 3) := by decide +kernel
theorem dX4_pass_31 : decode cX4_pass 31 = .ok (.aload_n 2, 1) := by decide +kernel
theorem dX4_pass_32 : decode cX4_pass 32 = .ok (.aload_n 0, 1) := by decide +kernel
theorem dX4_pass_33 : decode cX4_pass 33 = .ok (.getfield 31, 3) := by decide +kernel
theorem dX4_pass_36 : decode cX4_pass 36 = .ok (.invokevirtual 269, 3) := by decide +kernel
theorem dX4_pass_39 : decode cX4_pass 39 = .ok (.return_, 1) := by decide +kernel
theorem dX4_measureDistances_0 : decode cX4_measureDistances 0 = .ok (.iconst 0, 1) := by decide +kernel
theorem dX4_measureDistances_1 : decode cX4_measureDistances 1 = .ok (.istore_n 1, 1) := by decide +kernel
theorem dX4_measureDistances_2 : decode cX4_measureDistances 2 = .ok (.iload_n 1, 1) := by decide +kernel
theorem dX4_measureDistances_3 : decode cX4_measureDistances 3 = .ok (.aload_n 0, 1) := by decide +kernel
theorem dX4_measureDistances_4 : decode cX4_measureDistances 4 = .ok (.getfield 21, 3) := by decide +kernel
theorem dX4_measureDistances_7 : decode cX4_measureDistances 7 = .ok (.invokevirtual 47, 3) := by decide +kernel
theorem dX4_measureDistances_10 : decode cX4_measureDistances 10 = .ok (.if_icmp .ge 24, 3) := by decide +kernel
theorem dX4_measureDistances_13 : decode cX4_measureDistances 13 = .ok (.aload_n 0, 1) := by decide +kernel
theorem dX4_measureDistances_14 : decode cX4_measureDistances 14 = .ok (.getfield 21, 3) := by decide +kernel
theorem dX4_measureDistances_17 : decode cX4_measureDistances 17 = .ok (.iload_n 1, 1) := by decide +kernel
theorem dX4_measureDistances_18 : decode cX4_measureDistances 18 = .ok (.invokevirtual 169, 3) := by decide +kernel
theorem dX4_measureDistances_21 : decode cX4_measureDistances 21 = .ok (.checkcast 9, 3) := by decide +kernel
theorem dX4_measureDistances_24 : decode cX4_measureDistances 24 = .ok (.iconst 1, 1) := by decide +kernel
theorem dX4_measureDistances_25 : decode cX4_measureDistances 25 = .ok (.putfield 272, 3) := by decide +kernel
theorem dX4_measureDistances_28 : decode cX4_measureDistances 28 = .ok (.iinc 1 1, 3) := by decide +kernel
theorem dX4_measureDistances_31 : decode cX4_measureDistances 31 = .ok (.goto (-29), 3) := by decide +kernel
theorem dX4_measureDistances_34 : decode cX4_measureDistances 34 = .ok (.aload_n 0, 1) := by decide +kernel
theorem dX4_measureDistances_35 : decode cX4_measureDistances 35 = .ok (.aload_n 0, 1) := by decide +kernel
theorem dX4_measureDistances_36 : decode cX4_measureDistances 36 = .ok (.getfield 14, 3) := by decide +kernel
theorem dX4_measureDistances_39 : decode cX4_measureDistances 39 = .ok (.invokevirtual 275, 3) := by decide +kernel
theorem dX4_measureDistances_42 : decode cX4_measureDistances 42 = .ok (.return_, 1) := by decide +kernel
theorem dX4_measureTo_0 : decode cX4_measureTo 0 = .ok (.iconst 0, 1) := by decide +kernel
theorem dX4_measureTo_1 : decode cX4_measureTo 1 = .ok (.istore_n 2, 1) := by decide +kernel
theorem dX4_measureTo_2 : decode cX4_measureTo 2 = .ok (.iload_n 2, 1) := by decide +kernel
theorem dX4_measureTo_3 : decode cX4_measureTo 3 = .ok (.aload_n 0, 1) := by decide +kernel
theorem dX4_measureTo_4 : decode cX4_measureTo 4 = .ok (.getfield 21, 3) := by decide +kernel
theorem dX4_measureTo_7 : decode cX4_measureTo 7 = .ok (.invokevirtual 47, 3) := by decide +kernel
theorem dX4_measureTo_10 : decode cX4_measureTo 10 = .ok (.if_icmp .ge 24, 3) := by decide +kernel
theorem dX4_measureTo_13 : decode cX4_measureTo 13 = .ok (.aload_n 0, 1) := by decide +kernel
