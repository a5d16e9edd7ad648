theorem dX0_init_0 : decode cX0_init 0 = .ok (.aload_n 0, 1) := by decide +kernel
theorem dX0_init_1 : decode cX0_init 1 = .ok (.invokespecial 3, 3) := by decide +kernel
theorem dX0_init_4 : decode cX0_init 4 = .ok (.aload_n 0, 1) := by decide +kernel
theorem dX0_init_5 : decode cX0_init 5 = .ok (.new 9, 3) := by decide +kernel
theorem dX0_init_8 : decode cX0_init 8 = .ok (.dup, 1) := by decide +kernel
theorem dX0_init_9 : decode cX0_init 9 = .ok (.invokespecial 11, 3) := by decide +kernel
theorem dX0_init_12 : decode cX0_init 12 = .ok (.putfield 12, 3) := by decide +kernel
theorem dX0_init_15 : decode cX0_init 15 = .ok (.aload_n 0, 1) := by decide +kernel
theorem dX0_init_16 : decode cX0_init 16 = .ok (.iconst 0, 1) := by decide +kernel
theorem dX0_init_17 : decode cX0_init 17 = .ok (.putfield 18, 3) := by decide +kernel
theorem dX0_init_20 : decode cX0_init 20 = .ok (.aload_n 0, 1) := by decide +kernel
theorem dX0_init_21 : decode cX0_init 21 = .ok (.iconst 0, 1) := by decide +kernel
theorem dX0_init_22 : decode cX0_init 22 = .ok (.putfield 22, 3) := by decide +kernel
theorem dX0_init_25 : decode cX0_init 25 = .ok (.aload_n 0, 1) := by decide +kernel
theorem dX0_init_26 : decode cX0_init 26 = .ok (.iload_n 1, 1) := by decide +kernel
theorem dX0_init_27 : decode cX0_init 27 = .ok (.putfield 26, 3) := by decide +kernel
theorem dX0_init_30 : decode cX0_init 30 = .ok (.aload_n 0, 1) := by decide +kernel
theorem dX0_init_31 : decode cX0_init 31 = .ok (.aload_n 2, 1) := by decide +kernel
theorem dX0_init_32 : decode cX0_init 32 = .ok (.putfield 29, 3) := by decide +kernel
theorem dX0_init_35 : decode cX0_init 35 = .ok (.aload_n 0, 1) := by decide +kernel
theorem dX0_init_36 : decode cX0_init 36 = .ok (.iload_n 3, 1) := by decide +kernel
theorem dX0_init_37 : decode cX0_init 37 = .ok (.putfield 33, 3) := by decide +kernel
theorem dX0_init_40 : decode cX0_init 40 = .ok (.aload_n 0, 1) := by decide +kernel
theorem dX0_init_41 : decode cX0_init 41 = .ok (.new 36, 3) := by decide +kernel
theorem dX0_init_44 : decode cX0_init 44 = .ok (.dup, 1) := by decide +kernel
theorem dX0_init_45 : decode cX0_init 45 = .ok (.aload 4, 2) := by decide +kernel
theorem dX0_init_47 : decode cX0_init 47 = .ok (.iconst 0, 1) := by decide +kernel
theorem dX0_init_48 : decode cX0_init 48 = .ok (.invokespecial 38, 3) := by decide +kernel
theorem dX0_init_51 : decode cX0_init 51 = .ok (.putfield 41, 3) := by decide +kernel
theorem dX0_init_54 : decode cX0_init 54 = .ok (.aload_n 0, 1) := by decide +kernel
theorem dX0_init_55 : decode cX0_init 55 = .ok (.getfield 12, 3) := by decide +kernel
theorem dX0_init_58 : decode cX0_init 58 = .ok (.aload_n 0, 1) := by decide +kernel
theorem dX0_init_59 : decode cX0_init 59 = .ok (.getfield 41, 3) := by decide +kernel
theorem dX0_init_62 : decode cX0_init 62 = .ok (.invokevirtual 45, 3) := by decide +kernel
theorem dX0_init_65 : decode cX0_init 65 = .ok (.pop, 1) := by decide +kernel
theorem dX0_init_66 : decode cX0_init 66 = .ok (.return_, 1) := by decide +kernel
theorem dX0_rightsNow_0 : decode cX0_rightsNow 0 = .ok (.aload_n 0, 1) := by decide +kernel
theorem dX0_rightsNow_1 : decode cX0_rightsNow 1 = .ok (.getfield 29, 3) := by decide +kernel
theorem dX0_rightsNow_4 : decode cX0_rightsNow 4 = .ok (.ifnonnull 10, 3) := by decide +kernel
theorem dX0_rightsNow_7 : decode cX0_rightsNow 7 = .ok (.aload_n 0, 1) := by decide +kernel
theorem dX0_rightsNow_8 : decode cX0_rightsNow 8 = .ok (.getfield 33, 3) := by decide +kernel
theorem dX0_rightsNow_11 : decode cX0_rightsNow 11 = .ok (.goto 10, 3) := by decide +kernel
theorem dX0_rightsNow_14 : decode cX0_rightsNow 14 = .ok (.aload_n 0, 1) := by decide +kernel
theorem dX0_rightsNow_15 : decode cX0_rightsNow 15 = .ok (.getfield 29, 3) := by decide +kernel
theorem dX0_rightsNow_18 : decode cX0_rightsNow 18 = .ok (.getfield 33, 3) := by decide +kernel
theorem dX0_rightsNow_21 : decode cX0_rightsNow 21 = .ok (.ireturn, 1) := by decide +kernel
theorem dX0_hasRightFor_0 : decode cX0_hasRightFor 0 = .ok (.aload_n 1, 1) := by decide +kernel
theorem dX0_hasRightFor_1 : decode cX0_hasRightFor 1 = .ok (.getfield 49, 3) := by decide +kernel
theorem dX0_hasRightFor_4 : decode cX0_hasRightFor 4 = .ok (.ifCond .eq 18, 3) := by decide +kernel
theorem dX0_hasRightFor_7 : decode cX0_hasRightFor 7 = .ok (.aload_n 0, 1) := by decide +kernel
theorem dX0_hasRightFor_8 : decode cX0_hasRightFor 8 = .ok (.invokevirtual 52, 3) := by decide +kernel
theorem dX0_hasRightFor_11 : decode cX0_hasRightFor 11 = .ok (.aload_n 1, 1) := by decide +kernel
theorem dX0_hasRightFor_12 : decode cX0_hasRightFor 12 = .ok (.getfield 49, 3) := by decide +kernel
theorem dX0_hasRightFor_15 : decode cX0_hasRightFor 15 = .ok (.ishr, 1) := by decide +kernel
theorem dX0_hasRightFor_16 : decode cX0_hasRightFor 16 = .ok (.iconst 1, 1) := by decide +kernel
theorem dX0_hasRightFor_17 : decode cX0_hasRightFor 17 = .ok (.iand, 1) := by decide +kernel
theorem dX0_hasRightFor_18 : decode cX0_hasRightFor 18 = .ok (.iconst 1, 1) := by decide +kernel
theorem dX0_hasRightFor_19 : decode cX0_hasRightFor 19 = .ok (.if_icmp .ne 7, 3) := by decide +kernel
theorem dX0_hasRightFor_22 : decode cX0_hasRightFor 22 = .ok (.iconst 1, 1) := by decide +kernel
theorem dX0_hasRightFor_23 : decode cX0_hasRightFor 23 = .ok (.goto 4, 3) := by decide +kernel
theorem dX0_hasRightFor_26 : decode cX0_hasRightFor 26 = .ok (.iconst 0, 1) := by decide +kernel
theorem dX0_hasRightFor_27 : decode cX0_hasRightFor 27 = .ok (.ireturn, 1) := by decide +kernel
theorem dX0_tell_0 : decode cX0_tell 0 = .ok (.iload_n 1, 1) := by decide +kernel
theorem dX0_tell_1 : decode cX0_tell 1 = .ok (.tableswitch 79 0 3 #[31, 42, 47, 66], 31) := by decide +kernel
theorem dX0_tell_32 : decode cX0_tell 32 = .ok (.aload_n 0, 1) := by decide +kernel
theorem dX0_tell_33 : decode cX0_tell 33 = .ok (.getfield 41, 3) := by decide +kernel
theorem dX0_tell_36 : decode cX0_tell 36 = .ok (.getfield 56, 3) := by decide +kernel
theorem dX0_tell_39 : decode cX0_tell 39 = .ok (.getfield 49, 3) := by decide +kernel
theorem dX0_tell_42 : decode cX0_tell 42 = .ok (.ireturn, 1) := by decide +kernel
theorem dX0_tell_43 : decode cX0_tell 43 = .ok (.aload_n 0, 1) := by decide +kernel
theorem dX0_tell_44 : decode cX0_tell 44 = .ok (.invokevirtual 52, 3) := by decide +kernel
theorem dX0_tell_47 : decode cX0_tell 47 = .ok (.ireturn, 1) := by decide +kernel
theorem dX0_tell_48 : decode cX0_tell 48 = .ok (.aload_n 0, 1) := by decide +kernel
theorem dX0_tell_49 : decode cX0_tell 49 = .ok (.getfield 29, 3) := by decide +kernel
theorem dX0_tell_52 : decode cX0_tell 52 = .ok (.ifnonnull 7, 3) := by decide +kernel
theorem dX0_tell_55 : decode cX0_tell 55 = .ok (.iconst (-1), 1) := by decide +kernel
theorem dX0_tell_56 : decode cX0_tell 56 = .ok (.goto 10, 3) := by decide +kernel
theorem dX0_tell_59 : decode cX0_tell 59 = .ok (.aload_n 0, 1) := by decide +kernel
theorem dX0_tell_60 : decode cX0_tell 60 = .ok (.getfield 29, 3) := by decide +kernel
theorem dX0_tell_63 : decode cX0_tell 63 = .ok (.getfield 26, 3) := by decide +kernel
theorem dX0_tell_66 : decode cX0_tell 66 = .ok (.ireturn, 1) := by decide +kernel
theorem dX0_tell_67 : decode cX0_tell 67 = .ok (.aload_n 0, 1) := by decide +kernel
theorem dX0_tell_68 : decode cX0_tell 68 = .ok (.getfield 18, 3) := by decide +kernel
theorem dX0_tell_71 : decode cX0_tell 71 = .ok (.ifCond .eq 7, 3) := by decide +kernel
theorem dX0_tell_74 : decode cX0_tell 74 = .ok (.iconst 1, 1) := by decide +kernel
theorem dX0_tell_75 : decode cX0_tell 75 = .ok (.goto 4, 3) := by decide +kernel
theorem dX0_tell_78 : decode cX0_tell 78 = .ok (.iconst 0, 1) := by decide +kernel
theorem dX0_tell_79 : decode cX0_tell 79 = .ok (.ireturn, 1) := by decide +kernel
theorem dX0_tell_80 : decode cX0_tell 80 = .ok (.aload_n 0, 1) := by decide +kernel
theorem dX0_tell_81 : decode cX0_tell 81 = .ok (.getfield 22, 3) := by decide +kernel
theorem dX0_tell_84 : decode cX0_tell 84 = .ok (.ireturn, 1) := by decide +kernel
theorem dX0_countRefusal_0 : decode cX0_countRefusal 0 = .ok (.aload_n 0, 1) := by decide +kernel
theorem dX0_countRefusal_1 : decode cX0_countRefusal 1 = .ok (.dup, 1) := by decide +kernel
theorem dX0_countRefusal_2 : decode cX0_countRefusal 2 = .ok (.getfield 22, 3) := by decide +kernel
theorem dX0_countRefusal_5 : decode cX0_countRefusal 5 = .ok (.iconst 1, 1) := by decide +kernel
theorem dX0_countRefusal_6 : decode cX0_countRefusal 6 = .ok (.iadd, 1) := by decide +kernel
theorem dX0_countRefusal_7 : decode cX0_countRefusal 7 = .ok (.putfield 22, 3) := by decide +kernel
theorem dX0_countRefusal_10 : decode cX0_countRefusal 10 = .ok (.aload_n 0, 1) := by decide +kernel
theorem dX0_countRefusal_11 : decode cX0_countRefusal 11 = .ok (.getfield 22, 3) := by decide +kernel
theorem dX0_countRefusal_14 : decode cX0_countRefusal 14 = .ok (.iconst 3, 1) := by decide +kernel
theorem dX0_countRefusal_15 : decode cX0_countRefusal 15 = .ok (.if_icmp .lt 8, 3) := by decide +kernel
theorem dX0_countRefusal_18 : decode cX0_countRefusal 18 = .ok (.aload_n 0, 1) := by decide +kernel
theorem dX0_countRefusal_19 : decode cX0_countRefusal 19 = .ok (.iconst 1, 1) := by decide +kernel
theorem dX0_countRefusal_20 : decode cX0_countRefusal 20 = .ok (.putfield 18, 3) := by decide +kernel
theorem dX0_countRefusal_23 : decode cX0_countRefusal 23 = .ok (.return_, 1) := by decide +kernel
theorem dX0_enter_0 : decode cX0_enter 0 = .ok (.aload_n 0, 1) := by decide +kernel
theorem dX0_enter_1 : decode cX0_enter 1 = .ok (.getfield 41, 3) := by decide +kernel
theorem dX0_enter_4 : decode cX0_enter 4 = .ok (.getfield 60, 3) := by decide +kernel
theorem dX0_enter_7 : decode cX0_enter 7 = .ok (.iload_n 2, 1) := by decide +kernel
theorem dX0_enter_8 : decode cX0_enter 8 = .ok (.if_icmp .eq 16, 3) := by decide +kernel
theorem dX0_enter_11 : decode cX0_enter 11 = .ok (.aload_n 0, 1) := by decide +kernel
theorem dX0_enter_12 : decode cX0_enter 12 = .ok (.getfield 12, 3) := by decide +kernel
theorem dX0_enter_15 : decode cX0_enter 15 = .ok (.invokevirtual 63, 3) := by decide +kernel
theorem dX0_enter_18 : decode cX0_enter 18 = .ok (.sipush 513, 3) := by decide +kernel
theorem dX0_enter_21 : decode cX0_enter 21 = .ok (.if_icmp .lt 12, 3) := by decide +kernel
theorem dX0_enter_24 : decode cX0_enter 24 = .ok (.aload_n 0, 1) := by decide +kernel
theorem dX0_enter_25 : decode cX0_enter 25 = .ok (.getfield 41, 3) := by decide +kernel
theorem dX0_enter_28 : decode cX0_enter 28 = .ok (.aload_n 1, 1) := by decide +kernel
theorem dX0_enter_29 : decode cX0_enter 29 = .ok (.putfield 56, 3) := by decide +kernel
theorem dX0_enter_32 : decode cX0_enter 32 = .ok (.return_, 1) := by decide +kernel
theorem dX0_enter_33 : decode cX0_enter 33 = .ok (.aload_n 0, 1) := by decide +kernel
theorem dX0_enter_34 : decode cX0_enter 34 = .ok (.new 36, 3) := by decide +kernel
theorem dX0_enter_37 : decode cX0_enter 37 = .ok (.dup, 1) := by decide +kernel
theorem dX0_enter_38 : decode cX0_enter 38 = .ok (.aload_n 1, 1) := by decide +kernel
theorem dX0_enter_39 : decode cX0_enter 39 = .ok (.iload_n 2, 1) := by decide +kernel
theorem dX0_enter_40 : decode cX0_enter 40 = .ok (.invokespecial 38, 3) := by decide +kernel
theorem dX0_enter_43 : decode cX0_enter 43 = .ok (.putfield 41, 3) := by decide +kernel
theorem dX0_enter_46 : decode cX0_enter 46 = .ok (.aload_n 0, 1) := by decide +kernel
theorem dX0_enter_47 : decode cX0_enter 47 = .ok (.getfield 12, 3) := by decide +kernel
theorem dX0_enter_50 : decode cX0_enter 50 = .ok (.aload_n 0, 1) := by decide +kernel
theorem dX0_enter_51 : decode cX0_enter 51 = .ok (.getfield 41, 3) := by decide +kernel
theorem dX0_enter_54 : decode cX0_enter 54 = .ok (.invokevirtual 45, 3) := by decide +kernel
theorem dX0_enter_57 : decode cX0_enter 57 = .ok (.pop, 1) := by decide +kernel
theorem dX0_enter_58 : decode cX0_enter 58 = .ok (.return_, 1) := by decide +kernel
theorem dX0_wouldLackHost_0 : decode cX0_wouldLackHost 0 = .ok (.aload_n 0, 1) := by decide +kernel
theorem dX0_wouldLackHost_1 : decode cX0_wouldLackHost 1 = .ok (.getfield 29, 3) := by decide +kernel
theorem dX0_wouldLackHost_4 : decode cX0_wouldLackHost 4 = .ok (.ifnull 8, 3) := by decide +kernel
theorem dX0_wouldLackHost_7 : decode cX0_wouldLackHost 7 = .ok (.aload_n 1, 1) := by decide +kernel
theorem dX0_wouldLackHost_8 : decode cX0_wouldLackHost 8 = .ok (.aload_n 2, 1) := by decide +kernel
theorem dX0_wouldLackHost_9 : decode cX0_wouldLackHost 9 = .ok (.if_acmp .ne 5, 3) := by decide +kernel
theorem dX0_wouldLackHost_12 : decode cX0_wouldLackHost 12 = .ok (.iconst 0, 1) := by decide +kernel
theorem dX0_wouldLackHost_13 : decode cX0_wouldLackHost 13 = .ok (.ireturn, 1) := by decide +kernel
theorem dX0_wouldLackHost_14 : decode cX0_wouldLackHost 14 = .ok (.aload_n 0, 1) := by decide +kernel
theorem dX0_wouldLackHost_15 : decode cX0_wouldLackHost 15 = .ok (.getfield 29, 3) := by decide +kernel
theorem dX0_wouldLackHost_18 : decode cX0_wouldLackHost 18 = .ok (.getfield 41, 3) := by decide +kernel
theorem dX0_wouldLackHost_21 : decode cX0_wouldLackHost 21 = .ok (.getfield 56, 3) := by decide +kernel
theorem dX0_wouldLackHost_24 : decode cX0_wouldLackHost 24 = .ok (.astore_n 3, 1) := by decide +kernel
theorem dX0_wouldLackHost_25 : decode cX0_wouldLackHost 25 = .ok (.aload_n 3, 1) := by decide +kernel
theorem dX0_wouldLackHost_26 : decode cX0_wouldLackHost 26 = .ok (.aload_n 0, 1) := by decide +kernel
theorem dX0_wouldLackHost_27 : decode cX0_wouldLackHost 27 = .ok (.getfield 41, 3) := by decide +kernel
theorem dX0_wouldLackHost_30 : decode cX0_wouldLackHost 30 = .ok (.getfield 56, 3) := by decide +kernel
theorem dX0_wouldLackHost_33 : decode cX0_wouldLackHost 33 = .ok (.if_acmp .eq 12, 3) := by decide +kernel
theorem dX0_wouldLackHost_36 : decode cX0_wouldLackHost 36 = .ok (.aload_n 3, 1) := by decide +kernel
theorem dX0_wouldLackHost_37 : decode cX0_wouldLackHost 37 = .ok (.aload_n 1, 1) := by decide +kernel
theorem dX0_wouldLackHost_38 : decode cX0_wouldLackHost 38 = .ok (.if_acmp .eq 7, 3) := by decide +kernel
theorem dX0_wouldLackHost_41 : decode cX0_wouldLackHost 41 = .ok (.iconst 1, 1) := by decide +kernel
theorem dX0_wouldLackHost_42 : decode cX0_wouldLackHost 42 = .ok (.goto 4, 3) := by decide +kernel
theorem dX0_wouldLackHost_45 : decode cX0_wouldLackHost 45 = .ok (.iconst 0, 1) := by decide +kernel
theorem dX0_wouldLackHost_46 : decode cX0_wouldLackHost 46 = .ok (.ireturn, 1) := by decide +kernel
theorem dX0_zoneAtEndOf_0 : decode cX0_zoneAtEndOf 0 = .ok (.aload_n 0, 1) := by decide +kernel
theorem dX0_zoneAtEndOf_1 : decode cX0_zoneAtEndOf 1 = .ok (.getfield 12, 3) := by decide +kernel
theorem dX0_zoneAtEndOf_4 : decode cX0_zoneAtEndOf 4 = .ok (.invokevirtual 63, 3) := by decide +kernel
theorem dX0_zoneAtEndOf_7 : decode cX0_zoneAtEndOf 7 = .ok (.iconst 1, 1) := by decide +kernel
theorem dX0_zoneAtEndOf_8 : decode cX0_zoneAtEndOf 8 = .ok (.isub, 1) := by decide +kernel
theorem dX0_zoneAtEndOf_9 : decode cX0_zoneAtEndOf 9 = .ok (.istore_n 2, 1) := by decide +kernel
theorem dX0_zoneAtEndOf_10 : decode cX0_zoneAtEndOf 10 = .ok (.iload_n 2, 1) := by decide +kernel
theorem dX0_zoneAtEndOf_11 : decode cX0_zoneAtEndOf 11 = .ok (.ifCond .lt 34, 3) := by decide +kernel
theorem dX0_zoneAtEndOf_14 : decode cX0_zoneAtEndOf 14 = .ok (.aload_n 0, 1) := by decide +kernel
theorem dX0_zoneAtEndOf_15 : decode cX0_zoneAtEndOf 15 = .ok (.getfield 12, 3) := by decide +kernel
theorem dX0_zoneAtEndOf_18 : decode cX0_zoneAtEndOf 18 = .ok (.iload_n 2, 1) := by decide +kernel
theorem dX0_zoneAtEndOf_19 : decode cX0_zoneAtEndOf 19 = .ok (.invokevirtual 66, 3) := by decide +kernel
theorem dX0_zoneAtEndOf_22 : decode cX0_zoneAtEndOf 22 = .ok (.checkcast 36, 3) := by decide +kernel
theorem dX0_zoneAtEndOf_25 : decode cX0_zoneAtEndOf 25 = .ok (.astore_n 3, 1) := by decide +kernel
theorem dX0_zoneAtEndOf_26 : decode cX0_zoneAtEndOf 26 = .ok (.aload_n 3, 1) := by decide +kernel
theorem dX0_zoneAtEndOf_27 : decode cX0_zoneAtEndOf 27 = .ok (.getfield 60, 3) := by decide +kernel
theorem dX0_zoneAtEndOf_30 : decode cX0_zoneAtEndOf 30 = .ok (.iload_n 1, 1) := by decide +kernel
theorem dX0_zoneAtEndOf_31 : decode cX0_zoneAtEndOf 31 = .ok (.if_icmp .gt 8, 3) := by decide +kernel
theorem dX0_zoneAtEndOf_34 : decode cX0_zoneAtEndOf 34 = .ok (.aload_n 3, 1) := by decide +kernel
theorem dX0_zoneAtEndOf_35 : decode cX0_zoneAtEndOf 35 = .ok (.getfield 56, 3) := by decide +kernel
theorem dX0_zoneAtEndOf_38 : decode cX0_zoneAtEndOf 38 = .ok (.areturn, 1) := by decide +kernel
theorem dX0_zoneAtEndOf_39 : decode cX0_zoneAtEndOf 39 = .ok (.iinc 2 (-1), 3) := by decide +kernel
theorem dX0_zoneAtEndOf_42 : decode cX0_zoneAtEndOf 42 = .ok (.goto (-32), 3) := by decide +kernel
theorem dX0_zoneAtEndOf_45 : decode cX0_zoneAtEndOf 45 = .ok (.aload_n 0, 1) := by decide +kernel
theorem dX0_zoneAtEndOf_46 : decode cX0_zoneAtEndOf 46 = .ok (.getfield 41, 3) := by decide +kernel
theorem dX0_zoneAtEndOf_49 : decode cX0_zoneAtEndOf 49 = .ok (.getfield 56, 3) := by decide +kernel
theorem dX0_zoneAtEndOf_52 : decode cX0_zoneAtEndOf 52 = .ok (.areturn, 1) := by decide +kernel
theorem dX0_minutesSpent_0 : decode cX0_minutesSpent 0 = .ok (.iconst 0, 1) := by decide +kernel
theorem dX0_minutesSpent_1 : decode cX0_minutesSpent 1 = .ok (.istore_n 3, 1) := by decide +kernel
theorem dX0_minutesSpent_2 : decode cX0_minutesSpent 2 = .ok (.iload_n 2, 1) := by decide +kernel
theorem dX0_minutesSpent_3 : decode cX0_minutesSpent 3 = .ok (.istore 4, 2) := by decide +kernel
theorem dX0_minutesSpent_5 : decode cX0_minutesSpent 5 = .ok (.aload_n 0, 1) := by decide +kernel
theorem dX0_minutesSpent_6 : decode cX0_minutesSpent 6 = .ok (.getfield 12, 3) := by decide +kernel
theorem dX0_minutesSpent_9 : decode cX0_minutesSpent 9 = .ok (.invokevirtual 63, 3) := by decide +kernel
theorem dX0_minutesSpent_12 : decode cX0_minutesSpent 12 = .ok (.iconst 1, 1) := by decide +kernel
theorem dX0_minutesSpent_13 : decode cX0_minutesSpent 13 = .ok (.isub, 1) := by decide +kernel
theorem dX0_minutesSpent_14 : decode cX0_minutesSpent 14 = .ok (.istore 5, 2) := by decide +kernel
theorem dX0_minutesSpent_16 : decode cX0_minutesSpent 16 = .ok (.iload 5, 2) := by decide +kernel
theorem dX0_minutesSpent_18 : decode cX0_minutesSpent 18 = .ok (.ifCond .lt 50, 3) := by decide +kernel
theorem dX0_minutesSpent_21 : decode cX0_minutesSpent 21 = .ok (.aload_n 0, 1) := by decide +kernel
theorem dX0_minutesSpent_22 : decode cX0_minutesSpent 22 = .ok (.getfield 12, 3) := by decide +kernel
theorem dX0_minutesSpent_25 : decode cX0_minutesSpent 25 = .ok (.iload 5, 2) := by decide +kernel
theorem dX0_minutesSpent_27 : decode cX0_minutesSpent 27 = .ok (.invokevirtual 66, 3) := by decide +kernel
theorem dX0_minutesSpent_30 : decode cX0_minutesSpent 30 = .ok (.checkcast 36, 3) := by decide +kernel
theorem dX0_minutesSpent_33 : decode cX0_minutesSpent 33 = .ok (.astore 6, 2) := by decide +kernel
theorem dX0_minutesSpent_35 : decode cX0_minutesSpent 35 = .ok (.aload 6, 2) := by decide +kernel
theorem dX0_minutesSpent_37 : decode cX0_minutesSpent 37 = .ok (.getfield 56, 3) := by decide +kernel
theorem dX0_minutesSpent_40 : decode cX0_minutesSpent 40 = .ok (.aload_n 1, 1) := by decide +kernel
theorem dX0_minutesSpent_41 : decode cX0_minutesSpent 41 = .ok (.if_acmp .ne 14, 3) := by decide +kernel
theorem dX0_minutesSpent_44 : decode cX0_minutesSpent 44 = .ok (.iload_n 3, 1) := by decide +kernel
theorem dX0_minutesSpent_45 : decode cX0_minutesSpent 45 = .ok (.iload 4, 2) := by decide +kernel
theorem dX0_minutesSpent_47 : decode cX0_minutesSpent 47 = .ok (.aload 6, 2) := by decide +kernel
theorem dX0_minutesSpent_49 : decode cX0_minutesSpent 49 = .ok (.getfield 60, 3) := by decide +kernel
theorem dX0_minutesSpent_52 : decode cX0_minutesSpent 52 = .ok (.isub, 1) := by decide +kernel
theorem dX0_minutesSpent_53 : decode cX0_minutesSpent 53 = .ok (.iadd, 1) := by decide +kernel
theorem dX0_minutesSpent_54 : decode cX0_minutesSpent 54 = .ok (.istore_n 3, 1) := by decide +kernel
theorem dX0_minutesSpent_55 : decode cX0_minutesSpent 55 = .ok (.aload 6, 2) := by decide +kernel
theorem dX0_minutesSpent_57 : decode cX0_minutesSpent 57 = .ok (.getfield 60, 3) := by decide +kernel
theorem dX0_minutesSpent_60 : decode cX0_minutesSpent 60 = .ok (.istore 4, 2) := by decide +kernel
theorem dX0_minutesSpent_62 : decode cX0_minutesSpent 62 = .ok (.iinc 5 (-1), 3) := by decide +kernel
theorem dX0_minutesSpent_65 : decode cX0_minutesSpent 65 = .ok (.goto (-49), 3) := by decide +kernel
theorem dX0_minutesSpent_68 : decode cX0_minutesSpent 68 = .ok (.iload_n 3, 1) := by decide +kernel
theorem dX0_minutesSpent_69 : decode cX0_minutesSpent 69 = .ok (.ireturn, 1) := by decide +kernel
theorem dX1_init_0 : decode cX1_init 0 = .ok (.aload_n 0, 1) := by decide +kernel
theorem dX1_init_1 : decode cX1_init 1 = .ok (.invokespecial 3, 3) := by decide +kernel
theorem dX1_init_4 : decode cX1_init 4 = .ok (.aload_n 0, 1) := by decide +kernel
theorem dX1_init_5 : decode cX1_init 5 = .ok (.iconst 0, 1) := by decide +kernel
theorem dX1_init_6 : decode cX1_init 6 = .ok (.putfield 9, 3) := by decide +kernel
theorem dX1_init_9 : decode cX1_init 9 = .ok (.aload_n 0, 1) := by decide +kernel
theorem dX1_init_10 : decode cX1_init 10 = .ok (.aload_n 1, 1) := by decide +kernel
theorem dX1_init_11 : decode cX1_init 11 = .ok (.putfield 15, 3) := by decide +kernel
theorem dX1_init_14 : decode cX1_init 14 = .ok (.aload_n 0, 1) := by decide +kernel
theorem dX1_init_15 : decode cX1_init 15 = .ok (.aload_n 2, 1) := by decide +kernel
theorem dX1_init_16 : decode cX1_init 16 = .ok (.putfield 19, 3) := by decide +kernel
theorem dX1_init_19 : decode cX1_init 19 = .ok (.aload_n 0, 1) := by decide +kernel
theorem dX1_init_20 : decode cX1_init 20 = .ok (.iload_n 3, 1) := by decide +kernel
theorem dX1_init_21 : decode cX1_init 21 = .ok (.putfield 22, 3) := by decide +kernel
theorem dX1_init_24 : decode cX1_init 24 = .ok (.aload_n 0, 1) := by decide +kernel
theorem dX1_init_25 : decode cX1_init 25 = .ok (.iload 4, 2) := by decide +kernel
theorem dX1_init_27 : decode cX1_init 27 = .ok (.putfield 25, 3) := by decide +kernel
theorem dX1_init_30 : decode cX1_init 30 = .ok (.return_, 1) := by decide +kernel
theorem dX1_otherSide_0 : decode cX1_otherSide 0 = .ok (.aload_n 1, 1) := by decide +kernel
theorem dX1_otherSide_1 : decode cX1_otherSide 1 = .ok (.aload_n 0, 1) := by decide +kernel
theorem dX1_otherSide_2 : decode cX1_otherSide 2 = .ok (.getfield 15, 3) := by decide +kernel
theorem dX1_otherSide_5 : decode cX1_otherSide 5 = .ok (.if_acmp .ne 8, 3) := by decide +kernel
theorem dX1_otherSide_8 : decode cX1_otherSide 8 = .ok (.aload_n 0, 1) := by decide +kernel
theorem dX1_otherSide_9 : decode cX1_otherSide 9 = .ok (.getfield 19, 3) := by decide +kernel
theorem dX1_otherSide_12 : decode cX1_otherSide 12 = .ok (.areturn, 1) := by decide +kernel
theorem dX1_otherSide_13 : decode cX1_otherSide 13 = .ok (.aload_n 1, 1) := by decide +kernel
theorem dX1_otherSide_14 : decode cX1_otherSide 14 = .ok (.aload_n 0, 1) := by decide +kernel
theorem dX1_otherSide_15 : decode cX1_otherSide 15 = .ok (.getfield 19, 3) := by decide +kernel
theorem dX1_otherSide_18 : decode cX1_otherSide 18 = .ok (.if_acmp .ne 10, 3) := by decide +kernel
theorem dX1_otherSide_21 : decode cX1_otherSide 21 = .ok (.aload_n 0, 1) := by decide +kernel
theorem dX1_otherSide_22 : decode cX1_otherSide 22 = .ok (.getfield 15, 3) := by decide +kernel
theorem dX1_otherSide_25 : decode cX1_otherSide 25 = .ok (.goto 4, 3) := by decide +kernel
theorem dX1_otherSide_28 : decode cX1_otherSide 28 = .ok (.aconst_null, 1) := by decide +kernel
theorem dX1_otherSide_29 : decode cX1_otherSide 29 = .ok (.areturn, 1) := by decide +kernel
theorem dX1_openAt_0 : decode cX1_openAt 0 = .ok (.aload_n 0, 1) := by decide +kernel
theorem dX1_openAt_1 : decode cX1_openAt 1 = .ok (.iload_n 1, 1) := by decide +kernel
theorem dX1_openAt_2 : decode cX1_openAt 2 = .ok (.aload_n 0, 1) := by decide +kernel
theorem dX1_openAt_3 : decode cX1_openAt 3 = .ok (.getfield 22, 3) := by decide +kernel
theorem dX1_openAt_6 : decode cX1_openAt 6 = .ok (.iadd, 1) := by decide +kernel
theorem dX1_openAt_7 : decode cX1_openAt 7 = .ok (.putfield 9, 3) := by decide +kernel
theorem dX1_openAt_10 : decode cX1_openAt 10 = .ok (.return_, 1) := by decide +kernel
theorem dX1_minutesLeft_0 : decode cX1_minutesLeft 0 = .ok (.iconst 0, 1) := by decide +kernel
theorem dX1_minutesLeft_1 : decode cX1_minutesLeft 1 = .ok (.aload_n 0, 1) := by decide +kernel
theorem dX1_minutesLeft_2 : decode cX1_minutesLeft 2 = .ok (.getfield 9, 3) := by decide +kernel
theorem dX1_minutesLeft_5 : decode cX1_minutesLeft 5 = .ok (.iload_n 1, 1) := by decide +kernel
theorem dX1_minutesLeft_6 : decode cX1_minutesLeft 6 = .ok (.isub, 1) := by decide +kernel
theorem dX1_minutesLeft_7 : decode cX1_minutesLeft 7 = .ok (.invokestatic 28, 3) := by decide +kernel
theorem dX1_minutesLeft_10 : decode cX1_minutesLeft 10 = .ok (.ireturn, 1) := by decide +kernel
theorem dX1_excludes_0 : decode cX1_excludes 0 = .ok (.aload_n 0, 1) := by decide +kernel
theorem dX1_excludes_1 : decode cX1_excludes 1 = .ok (.aload_n 1, 1) := by decide +kernel
theorem dX1_excludes_2 : decode cX1_excludes 2 = .ok (.if_acmp .eq 25, 3) := by decide +kernel
theorem dX1_excludes_5 : decode cX1_excludes 5 = .ok (.aload_n 0, 1) := by decide +kernel
theorem dX1_excludes_6 : decode cX1_excludes 6 = .ok (.getfield 25, 3) := by decide +kernel
theorem dX1_excludes_9 : decode cX1_excludes 9 = .ok (.ifCond .eq 18, 3) := by decide +kernel
theorem dX1_excludes_12 : decode cX1_excludes 12 = .ok (.aload_n 0, 1) := by decide +kernel
theorem dX1_excludes_13 : decode cX1_excludes 13 = .ok (.getfield 25, 3) := by decide +kernel
theorem dX1_excludes_16 : decode cX1_excludes 16 = .ok (.aload_n 1, 1) := by decide +kernel
theorem dX1_excludes_17 : decode cX1_excludes 17 = .ok (.getfield 25, 3) := by decide +kernel
theorem dX1_excludes_20 : decode cX1_excludes 20 = .ok (.if_icmp .ne 7, 3) := by decide +kernel
theorem dX1_excludes_23 : decode cX1_excludes 23 = .ok (.iconst 1, 1) := by decide +kernel
theorem dX1_excludes_24 : decode cX1_excludes 24 = .ok (.goto 4, 3) := by decide +kernel
theorem dX1_excludes_27 : decode cX1_excludes 27 = .ok (.iconst 0, 1) := by decide +kernel
theorem dX1_excludes_28 : decode cX1_excludes 28 = .ok (.ireturn, 1) := by decide +kernel
theorem dX1_measureBack_0 : decode cX1_measureBack 0 = .ok (.aload_n 0, 1) := by decide +kernel
theorem dX1_measureBack_1 : decode cX1_measureBack 1 = .ok (.getfield 15, 3) := by decide +kernel
theorem dX1_measureBack_4 : decode cX1_measureBack 4 = .ok (.aload_n 0, 1) := by decide +kernel
theorem dX1_measureBack_5 : decode cX1_measureBack 5 = .ok (.getfield 19, 3) := by decide +kernel
theorem dX1_measureBack_8 : decode cX1_measureBack 8 = .ok (.iload_n 1, 1) := by decide +kernel
theorem dX1_measureBack_9 : decode cX1_measureBack 9 = .ok (.invokestatic 34, 3) := by decide +kernel
theorem dX1_measureBack_12 : decode cX1_measureBack 12 = .ok (.aload_n 0, 1) := by decide +kernel
theorem dX1_measureBack_13 : decode cX1_measureBack 13 = .ok (.getfield 19, 3) := by decide +kernel
theorem dX1_measureBack_16 : decode cX1_measureBack 16 = .ok (.aload_n 0, 1) := by decide +kernel
theorem dX1_measureBack_17 : decode cX1_measureBack 17 = .ok (.getfield 15, 3) := by decide +kernel
theorem dX1_measureBack_20 : decode cX1_measureBack 20 = .ok (.iload_n 1, 1) := by decide +kernel
theorem dX1_measureBack_21 : decode cX1_measureBack 21 = .ok (.invokestatic 34, 3) := by decide +kernel
theorem dX1_measureBack_24 : decode cX1_measureBack 24 = .ok (.return_, 1) := by decide +kernel
theorem dX1_measureFrom_0 : decode cX1_measureFrom 0 = .ok (.aload_n 0, 1) := by decide +kernel
theorem dX1_measureFrom_1 : decode cX1_measureFrom 1 = .ok (.getfield 38, 3) := by decide +kernel
theorem dX1_measureFrom_4 : decode cX1_measureFrom 4 = .ok (.ifCond .eq 26, 3) := by decide +kernel
theorem dX1_measureFrom_7 : decode cX1_measureFrom 7 = .ok (.aload_n 0, 1) := by decide +kernel
theorem dX1_measureFrom_8 : decode cX1_measureFrom 8 = .ok (.getfield 44, 3) := by decide +kernel
theorem dX1_measureFrom_11 : decode cX1_measureFrom 11 = .ok (.iload_n 2, 1) := by decide +kernel
theorem dX1_measureFrom_12 : decode cX1_measureFrom 12 = .ok (.if_icmp .ne 18, 3) := by decide +kernel
theorem dX1_measureFrom_15 : decode cX1_measureFrom 15 = .ok (.aload_n 1, 1) := by decide +kernel
theorem dX1_measureFrom_16 : decode cX1_measureFrom 16 = .ok (.getfield 44, 3) := by decide +kernel
theorem dX1_measureFrom_19 : decode cX1_measureFrom 19 = .ok (.iconst (-1), 1) := by decide +kernel
theorem dX1_measureFrom_20 : decode cX1_measureFrom 20 = .ok (.if_icmp .ne 10, 3) := by decide +kernel
theorem dX1_measureFrom_23 : decode cX1_measureFrom 23 = .ok (.aload_n 1, 1) := by decide +kernel
theorem dX1_measureFrom_24 : decode cX1_measureFrom 24 = .ok (.iload_n 2, 1) := by decide +kernel
theorem dX1_measureFrom_25 : decode cX1_measureFrom 25 = .ok (.iconst 1, 1) := by decide +kernel
theorem dX1_measureFrom_26 : decode cX1_measureFrom 26 = .ok (.iadd, 1) := by decide +kernel
theorem dX1_measureFrom_27 : decode cX1_measureFrom 27 = .ok (.putfield 44, 3) := by decide +kernel
theorem dX1_measureFrom_30 : decode cX1_measureFrom 30 = .ok (.return_, 1) := by decide +kernel
theorem dX2_init_0 : decode cX2_init 0 = .ok (.aload_n 0, 1) := by decide +kernel
theorem dX2_init_1 : decode cX2_init 1 = .ok (.invokespecial 1, 3) := by decide +kernel
theorem dX2_init_4 : decode cX2_init 4 = .ok (.aload_n 0, 1) := by decide +kernel
theorem dX2_init_5 : decode cX2_init 5 = .ok (.aload_n 1, 1) := by decide +kernel
theorem dX2_init_6 : decode cX2_init 6 = .ok (.putfield 7, 3) := by decide +kernel
theorem dX2_init_9 : decode cX2_init 9 = .ok (.aload_n 0, 1) := by decide +kernel
theorem dX2_init_10 : decode cX2_init 10 = .ok (.iload_n 2, 1) := by decide +kernel
theorem dX2_init_11 : decode cX2_init 11 = .ok (.putfield 13, 3) := by decide +kernel
theorem dX2_init_14 : decode cX2_init 14 = .ok (.return_, 1) := by decide +kernel
theorem dX3_init_0 : decode cX3_init 0 = .ok (.aload_n 0, 1) := by decide +kernel
theorem dX3_init_1 : decode cX3_init 1 = .ok (.invokespecial 3, 3) := by decide +kernel
theorem dX3_init_4 : decode cX3_init 4 = .ok (.aload_n 0, 1) := by decide +kernel
theorem dX3_init_5 : decode cX3_init 5 = .ok (.iconst 0, 1) := by decide +kernel
theorem dX3_init_6 : decode cX3_init 6 = .ok (.putfield 9, 3) := by decide +kernel
theorem dX3_init_9 : decode cX3_init 9 = .ok (.aload_n 0, 1) := by decide +kernel
theorem dX3_init_10 : decode cX3_init 10 = .ok (.iconst (-1), 1) := by decide +kernel
theorem dX3_init_11 : decode cX3_init 11 = .ok (.putfield 15, 3) := by decide +kernel
theorem dX3_init_14 : decode cX3_init 14 = .ok (.aload_n 0, 1) := by decide +kernel
theorem dX3_init_15 : decode cX3_init 15 = .ok (.iload_n 1, 1) := by decide +kernel
theorem dX3_init_16 : decode cX3_init 16 = .ok (.putfield 19, 3) := by decide +kernel
theorem dX3_init_19 : decode cX3_init 19 = .ok (.aload_n 0, 1) := by decide +kernel
theorem dX3_init_20 : decode cX3_init 20 = .ok (.iload_n 2, 1) := by decide +kernel
theorem dX3_init_21 : decode cX3_init 21 = .ok (.putfield 22, 3) := by decide +kernel
theorem dX3_init_24 : decode cX3_init 24 = .ok (.aload_n 0, 1) := by decide +kernel
theorem dX3_init_25 : decode cX3_init 25 = .ok (.iload_n 3, 1) := by decide +kernel
theorem dX3_init_26 : decode cX3_init 26 = .ok (.putfield 25, 3) := by decide +kernel
theorem dX3_init_29 : decode cX3_init 29 = .ok (.aload_n 0, 1) := by decide +kernel
theorem dX3_init_30 : decode cX3_init 30 = .ok (.iload 4, 2) := by decide +kernel
theorem dX3_init_32 : decode cX3_init 32 = .ok (.putfield 28, 3) := by decide +kernel
theorem dX3_init_35 : decode cX3_init 35 = .ok (.return_, 1) := by decide +kernel
theorem dX3_hasHoursAt_0 : decode cX3_hasHoursAt 0 = .ok (.iload_n 1, 1) := by decide +kernel
theorem dX3_hasHoursAt_1 : decode cX3_hasHoursAt 1 = .ok (.sipush 1440, 3) := by decide +kernel
theorem dX3_hasHoursAt_4 : decode cX3_hasHoursAt 4 = .ok (.irem, 1) := by decide +kernel
theorem dX3_hasHoursAt_5 : decode cX3_hasHoursAt 5 = .ok (.istore_n 2, 1) := by decide +kernel
theorem dX3_hasHoursAt_6 : decode cX3_hasHoursAt 6 = .ok (.aload_n 0, 1) := by decide +kernel
theorem dX3_hasHoursAt_7 : decode cX3_hasHoursAt 7 = .ok (.getfield 28, 3) := by decide +kernel
theorem dX3_hasHoursAt_10 : decode cX3_hasHoursAt 10 = .ok (.aload_n 0, 1) := by decide +kernel
theorem dX3_hasHoursAt_11 : decode cX3_hasHoursAt 11 = .ok (.getfield 25, 3) := by decide +kernel
theorem dX3_hasHoursAt_14 : decode cX3_hasHoursAt 14 = .ok (.if_icmp .ge 25, 3) := by decide +kernel
theorem dX3_hasHoursAt_17 : decode cX3_hasHoursAt 17 = .ok (.iload_n 2, 1) := by decide +kernel
theorem dX3_hasHoursAt_18 : decode cX3_hasHoursAt 18 = .ok (.aload_n 0, 1) := by decide +kernel
theorem dX3_hasHoursAt_19 : decode cX3_hasHoursAt 19 = .ok (.getfield 25, 3) := by decide +kernel
theorem dX3_hasHoursAt_22 : decode cX3_hasHoursAt 22 = .ok (.if_icmp .ge 11, 3) := by decide +kernel
theorem dX3_hasHoursAt_25 : decode cX3_hasHoursAt 25 = .ok (.iload_n 2, 1) := by decide +kernel
theorem dX3_hasHoursAt_26 : decode cX3_hasHoursAt 26 = .ok (.aload_n 0, 1) := by decide +kernel
theorem dX3_hasHoursAt_27 : decode cX3_hasHoursAt 27 = .ok (.getfield 28, 3) := by decide +kernel
theorem dX3_hasHoursAt_30 : decode cX3_hasHoursAt 30 = .ok (.if_icmp .ge 7, 3) := by decide +kernel
theorem dX3_hasHoursAt_33 : decode cX3_hasHoursAt 33 = .ok (.iconst 1, 1) := by decide +kernel
theorem dX3_hasHoursAt_34 : decode cX3_hasHoursAt 34 = .ok (.goto 4, 3) := by decide +kernel
theorem dX3_hasHoursAt_37 : decode cX3_hasHoursAt 37 = .ok (.iconst 0, 1) := by decide +kernel
theorem dX3_hasHoursAt_38 : decode cX3_hasHoursAt 38 = .ok (.ireturn, 1) := by decide +kernel
theorem dX3_hasHoursAt_39 : decode cX3_hasHoursAt 39 = .ok (.iload_n 2, 1) := by decide +kernel
theorem dX3_hasHoursAt_40 : decode cX3_hasHoursAt 40 = .ok (.aload_n 0, 1) := by decide +kernel
theorem dX3_hasHoursAt_41 : decode cX3_hasHoursAt 41 = .ok (.getfield 25, 3) := by decide +kernel
theorem dX3_hasHoursAt_44 : decode cX3_hasHoursAt 44 = .ok (.if_icmp .lt 15, 3) := by decide +kernel
theorem dX3_hasHoursAt_47 : decode cX3_hasHoursAt 47 = .ok (.iload_n 2, 1) := by decide +kernel
theorem dX3_hasHoursAt_48 : decode cX3_hasHoursAt 48 = .ok (.aload_n 0, 1) := by decide +kernel
theorem dX3_hasHoursAt_49 : decode cX3_hasHoursAt 49 = .ok (.getfield 28, 3) := by decide +kernel
theorem dX3_hasHoursAt_52 : decode cX3_hasHoursAt 52 = .ok (.if_icmp .ge 7, 3) := by decide +kernel
theorem dX3_hasHoursAt_55 : decode cX3_hasHoursAt 55 = .ok (.iconst 1, 1) := by decide +kernel
theorem dX3_hasHoursAt_56 : decode cX3_hasHoursAt 56 = .ok (.goto 4, 3) := by decide +kernel
theorem dX3_hasHoursAt_59 : decode cX3_hasHoursAt 59 = .ok (.iconst 0, 1) := by decide +kernel
theorem dX3_hasHoursAt_60 : decode cX3_hasHoursAt 60 = .ok (.ireturn, 1) := by decide +kernel
theorem dX4_init_0 : decode cX4_init 0 = .ok (.aload_n 0, 1) := by decide +kernel
theorem dX4_init_1 : decode cX4_init 1 = .ok (.invokespecial 3, 3) := by decide +kernel
theorem dX4_init_4 : decode cX4_init 4 = .ok (.aload_n 0, 1) := by decide +kernel
theorem dX4_init_5 : decode cX4_init 5 = .ok (.new 9, 3) := by decide +kernel
theorem dX4_init_8 : decode cX4_init 8 = .ok (.dup, 1) := by decide +kernel
theorem dX4_init_9 : decode cX4_init 9 = .ok (.iconst 0, 1) := by decide +kernel
theorem dX4_init_10 : decode cX4_init 10 = .ok (.bipush 11, 2) := by decide +kernel
theorem dX4_init_12 : decode cX4_init 12 = .ok (.iconst 0, 1) := by decide +kernel
theorem dX4_init_13 : decode cX4_init 13 = .ok (.sipush 1440, 3) := by decide +kernel
theorem dX4_init_16 : decode cX4_init 16 = .ok (.invokespecial 11, 3) := by decide +kernel
theorem dX4_init_19 : decode cX4_init 19 = .ok (.putfield 14, 3) := by decide +kernel
theorem dX4_init_22 : decode cX4_init 22 = .ok (.aload_n 0, 1) := by decide +kernel
theorem dX4_init_23 : decode cX4_init 23 = .ok (.new 18, 3) := by decide +kernel
theorem dX4_init_26 : decode cX4_init 26 = .ok (.dup, 1) := by decide +kernel
theorem dX4_init_27 : decode cX4_init 27 = .ok (.invokespecial 20, 3) := by decide +kernel
theorem dX4_init_30 : decode cX4_init 30 = .ok (.putfield 21, 3) := by decide +kernel
theorem dX4_init_33 : decode cX4_init 33 = .ok (.aload_n 0, 1) := by decide +kernel
theorem dX4_init_34 : decode cX4_init 34 = .ok (.new 18, 3) := by decide +kernel
theorem dX4_init_37 : decode cX4_init 37 = .ok (.dup, 1) := by decide +kernel
theorem dX4_init_38 : decode cX4_init 38 = .ok (.invokespecial 20, 3) := by decide +kernel
theorem dX4_init_41 : decode cX4_init 41 = .ok (.putfield 25, 3) := by decide +kernel
theorem dX4_init_44 : decode cX4_init 44 = .ok (.aload_n 0, 1) := by decide +kernel
theorem dX4_init_45 : decode cX4_init 45 = .ok (.new 18, 3) := by decide +kernel
theorem dX4_init_48 : decode cX4_init 48 = .ok (.dup, 1) := by decide +kernel
theorem dX4_init_49 : decode cX4_init 49 = .ok (.invokespecial 20, 3) := by decide +kernel
theorem dX4_init_52 : decode cX4_init 52 = .ok (.putfield 28, 3) := by decide +kernel
theorem dX4_init_55 : decode cX4_init 55 = .ok (.aload_n 0, 1) := by decide +kernel
theorem dX4_init_56 : decode cX4_init 56 = .ok (.iconst 0, 1) := by decide +kernel
theorem dX4_init_57 : decode cX4_init 57 = .ok (.putfield 31, 3) := by decide +kernel
theorem dX4_init_60 : decode cX4_init 60 = .ok (.aload_n 0, 1) := by decide +kernel
theorem dX4_init_61 : decode cX4_init 61 = .ok (.iconst 0, 1) := by decide +kernel
theorem dX4_init_62 : decode cX4_init 62 = .ok (.putfield 35, 3) := by decide +kernel
theorem dX4_init_65 : decode cX4_init 65 = .ok (.aload_n 0, 1) := by decide +kernel
theorem dX4_init_66 : decode cX4_init 66 = .ok (.getfield 21, 3) := by decide +kernel
theorem dX4_init_69 : decode cX4_init 69 = .ok (.aload_n 0, 1) := by decide +kernel
theorem dX4_init_70 : decode cX4_init 70 = .ok (.getfield 14, 3) := by decide +kernel
theorem dX4_init_73 : decode cX4_init 73 = .ok (.invokevirtual 39, 3) := by decide +kernel
theorem dX4_init_76 : decode cX4_init 76 = .ok (.pop, 1) := by decide +kernel
theorem dX4_init_77 : decode cX4_init 77 = .ok (.return_, 1) := by decide +kernel
theorem dX4_addZone_0 : decode cX4_addZone 0 = .ok (.iload_n 1, 1) := by decide +kernel
theorem dX4_addZone_1 : decode cX4_addZone 1 = .ok (.iload_n 2, 1) := by decide +kernel
theorem dX4_addZone_2 : decode cX4_addZone 2 = .ok (.iload_n 3, 1) := by decide +kernel
theorem dX4_addZone_3 : decode cX4_addZone 3 = .ok (.invokestatic 43, 3) := by decide +kernel
theorem dX4_addZone_6 : decode cX4_addZone 6 = .ok (.aload_n 0, 1) := by decide +kernel
theorem dX4_addZone_7 : decode cX4_addZone 7 = .ok (.getfield 21, 3) := by decide +kernel
theorem dX4_addZone_10 : decode cX4_addZone 10 = .ok (.invokevirtual 47, 3) := by decide +kernel
theorem dX4_addZone_13 : decode cX4_addZone 13 = .ok (.istore 4, 2) := by decide +kernel
theorem dX4_addZone_15 : decode cX4_addZone 15 = .ok (.iload 4, 2) := by decide +kernel
theorem dX4_addZone_17 : decode cX4_addZone 17 = .ok (.bipush 8, 2) := by decide +kernel
theorem dX4_addZone_19 : decode cX4_addZone 19 = .ok (.if_icmp .lt 13, 3) := by decide +kernel
theorem dX4_addZone_22 : decode cX4_addZone 22 = .ok (.new 51, 3) := by decide +kernel
theorem dX4_addZone_25 : decode cX4_addZone 25 = .ok (.dup, 1) := by decide +kernel
theorem dX4_addZone_26 : decode cX4_addZone 26 = .ok (.ldc 53, 2) := by decide +kernel
theorem dX4_addZone_28 : decode cX4_addZone 28 = .ok (.invokespecial 55, 3) := by decide +kernel
theorem dX4_addZone_31 : decode cX4_addZone 31 = .ok (.athrow, 1) := by decide +kernel
theorem dX4_addZone_32 : decode cX4_addZone 32 = .ok (.aload_n 0, 1) := by decide +kernel
theorem dX4_addZone_33 : decode cX4_addZone 33 = .ok (.getfield 21, 3) := by decide +kernel
theorem dX4_addZone_36 : decode cX4_addZone 36 = .ok (.new 9, 3) := by decide +kernel
theorem dX4_addZone_39 : decode cX4_addZone 39 = .ok (.dup, 1) := by decide +kernel
theorem dX4_addZone_40 : decode cX4_addZone 40 = .ok (.iload 4, 2) := by decide +kernel
theorem dX4_addZone_42 : decode cX4_addZone 42 = .ok (.iload_n 1, 1) := by decide +kernel
theorem dX4_addZone_43 : decode cX4_addZone 43 = .ok (.iload_n 2, 1) := by decide +kernel
theorem dX4_addZone_44 : decode cX4_addZone 44 = .ok (.iload_n 3, 1) := by decide +kernel
theorem dX4_addZone_45 : decode cX4_addZone 45 = .ok (.invokespecial 11, 3) := by decide +kernel
theorem dX4_addZone_48 : decode cX4_addZone 48 = .ok (.invokevirtual 39, 3) := by decide +kernel
theorem dX4_addZone_51 : decode cX4_addZone 51 = .ok (.pop, 1) := by decide +kernel
theorem dX4_addZone_52 : decode cX4_addZone 52 = .ok (.iload 4, 2) := by decide +kernel
theorem dX4_addZone_54 : decode cX4_addZone 54 = .ok (.ireturn, 1) := by decide +kernel
theorem dX4_addDoor_0 : decode cX4_addDoor 0 = .ok (.aload_n 0, 1) := by decide +kernel
theorem dX4_addDoor_1 : decode cX4_addDoor 1 = .ok (.iload_n 1, 1) := by decide +kernel
theorem dX4_addDoor_2 : decode cX4_addDoor 2 = .ok (.invokevirtual 58, 3) := by decide +kernel
theorem dX4_addDoor_5 : decode cX4_addDoor 5 = .ok (.astore 5, 2) := by decide +kernel
theorem dX4_addDoor_7 : decode cX4_addDoor 7 = .ok (.aload_n 0, 1) := by decide +kernel
theorem dX4_addDoor_8 : decode cX4_addDoor 8 = .ok (.iload_n 2, 1) := by decide +kernel
theorem dX4_addDoor_9 : decode cX4_addDoor 9 = .ok (.invokevirtual 58, 3) := by decide +kernel
theorem dX4_addDoor_12 : decode cX4_addDoor 12 = .ok (.astore 6, 2) := by decide +kernel
theorem dX4_addDoor_14 : decode cX4_addDoor 14 = .ok (.iload_n 1, 1) := by decide +kernel
theorem dX4_addDoor_15 : decode cX4_addDoor 15 = .ok (.iload_n 2, 1) := by decide +kernel
theorem dX4_addDoor_16 : decode cX4_addDoor 16 = .ok (.if_icmp .eq 23, 3) := by decide +kernel
theorem dX4_addDoor_19 : decode cX4_addDoor 19 = .ok (.iload_n 3, 1) := by decide +kernel
theorem dX4_addDoor_20 : decode cX4_addDoor 20 = .ok (.iconst 0, 1) := by decide +kernel
theorem dX4_addDoor_21 : decode cX4_addDoor 21 = .ok (.bipush 9, 2) := by decide +kernel
theorem dX4_addDoor_23 : decode cX4_addDoor 23 = .ok (.invokestatic 80, 3) := by decide +kernel
theorem dX4_addDoor_26 : decode cX4_addDoor 26 = .ok (.ifCond .eq 13, 3) := by decide +kernel
theorem dX4_addDoor_29 : decode cX4_addDoor 29 = .ok (.iload 4, 2) := by decide +kernel
theorem dX4_addDoor_31 : decode cX4_addDoor 31 = .ok (.iconst 0, 1) := by decide +kernel
theorem dX4_addDoor_32 : decode cX4_addDoor 32 = .ok (.iconst 3, 1) := by decide +kernel
theorem dX4_addDoor_33 : decode cX4_addDoor 33 = .ok (.invokestatic 80, 3) := by decide +kernel
theorem dX4_addDoor_36 : decode cX4_addDoor 36 = .ok (.ifCond .ne 13, 3) := by decide +kernel
theorem dX4_addDoor_39 : decode cX4_addDoor 39 = .ok (.new 84, 3) := by decide +kernel
theorem dX4_addDoor_42 : decode cX4_addDoor 42 = .ok (.dup, 1) := by decide +kernel
theorem dX4_addDoor_43 : decode cX4_addDoor 43 = .ok (.ldc 86, 2) := by decide +kernel
theorem dX4_addDoor_45 : decode cX4_addDoor 45 = .ok (.invokespecial 88, 3) := by decide +kernel
theorem dX4_addDoor_48 : decode cX4_addDoor 48 = .ok (.athrow, 1) := by decide +kernel
theorem dX4_addDoor_49 : decode cX4_addDoor 49 = .ok (.aload_n 0, 1) := by decide +kernel
theorem dX4_addDoor_50 : decode cX4_addDoor 50 = .ok (.getfield 25, 3) := by decide +kernel
theorem dX4_addDoor_53 : decode cX4_addDoor 53 = .ok (.invokevirtual 47, 3) := by decide +kernel
theorem dX4_addDoor_56 : decode cX4_addDoor 56 = .ok (.istore 7, 2) := by decide +kernel
theorem dX4_addDoor_58 : decode cX4_addDoor 58 = .ok (.iload 7, 2) := by decide +kernel
theorem dX4_addDoor_60 : decode cX4_addDoor 60 = .ok (.bipush 12, 2) := by decide +kernel
theorem dX4_addDoor_62 : decode cX4_addDoor 62 = .ok (.if_icmp .lt 13, 3) := by decide +kernel
theorem dX4_addDoor_65 : decode cX4_addDoor 65 = .ok (.new 51, 3) := by decide +kernel
theorem dX4_addDoor_68 : decode cX4_addDoor 68 = .ok (.dup, 1) := by decide +kernel
theorem dX4_addDoor_69 : decode cX4_addDoor 69 = .ok (.ldc 89, 2) := by decide +kernel
theorem dX4_addDoor_71 : decode cX4_addDoor 71 = .ok (.invokespecial 55, 3) := by decide +kernel
theorem dX4_addDoor_74 : decode cX4_addDoor 74 = .ok (.athrow, 1) := by decide +kernel
theorem dX4_addDoor_75 : decode cX4_addDoor 75 = .ok (.aload_n 0, 1) := by decide +kernel
theorem dX4_addDoor_76 : decode cX4_addDoor 76 = .ok (.getfield 25, 3) := by decide +kernel
theorem dX4_addDoor_79 : decode cX4_addDoor 79 = .ok (.new 91, 3) := by decide +kernel
theorem dX4_addDoor_82 : decode cX4_addDoor 82 = .ok (.dup, 1) := by decide +kernel
theorem dX4_addDoor_83 : decode cX4_addDoor 83 = .ok (.aload 5, 2) := by decide +kernel
theorem dX4_addDoor_85 : decode cX4_addDoor 85 = .ok (.aload 6, 2) := by decide +kernel
theorem dX4_addDoor_87 : decode cX4_addDoor 87 = .ok (.iload_n 3, 1) := by decide +kernel
theorem dX4_addDoor_88 : decode cX4_addDoor 88 = .ok (.iload 4, 2) := by decide +kernel
theorem dX4_addDoor_90 : decode cX4_addDoor 90 = .ok (.invokespecial 93, 3) := by decide +kernel
theorem dX4_addDoor_93 : decode cX4_addDoor 93 = .ok (.invokevirtual 39, 3) := by decide +kernel
theorem dX4_addDoor_96 : decode cX4_addDoor 96 = .ok (.pop, 1) := by decide +kernel
theorem dX4_addDoor_97 : decode cX4_addDoor 97 = .ok (.iload 7, 2) := by decide +kernel
theorem dX4_addDoor_99 : decode cX4_addDoor 99 = .ok (.ireturn, 1) := by decide +kernel
theorem dX4_openFor_0 : decode cX4_openFor 0 = .ok (.aload_n 0, 1) := by decide +kernel
theorem dX4_openFor_1 : decode cX4_openFor 1 = .ok (.iload_n 1, 1) := by decide +kernel
theorem dX4_openFor_2 : decode cX4_openFor 2 = .ok (.invokevirtual 106, 3) := by decide +kernel
theorem dX4_openFor_5 : decode cX4_openFor 5 = .ok (.aload_n 0, 1) := by decide +kernel
theorem dX4_openFor_6 : decode cX4_openFor 6 = .ok (.getfield 31, 3) := by decide +kernel
theorem dX4_openFor_9 : decode cX4_openFor 9 = .ok (.invokevirtual 110, 3) := by decide +kernel
theorem dX4_openFor_12 : decode cX4_openFor 12 = .ok (.ireturn, 1) := by decide +kernel
theorem dX4_addBadge_0 : decode cX4_addBadge 0 = .ok (.iload_n 1, 1) := by decide +kernel
theorem dX4_addBadge_1 : decode cX4_addBadge 1 = .ok (.invokestatic 114, 3) := by decide +kernel
theorem dX4_addBadge_4 : decode cX4_addBadge 4 = .ok (.aload_n 0, 1) := by decide +kernel
theorem dX4_addBadge_5 : decode cX4_addBadge 5 = .ok (.aconst_null, 1) := by decide +kernel
theorem dX4_addBadge_6 : decode cX4_addBadge 6 = .ok (.iload_n 1, 1) := by decide +kernel
theorem dX4_addBadge_7 : decode cX4_addBadge 7 = .ok (.invokevirtual 118, 3) := by decide +kernel
theorem dX4_addBadge_10 : decode cX4_addBadge 10 = .ok (.ireturn, 1) := by decide +kernel
theorem dX4_addVisitor_0 : decode cX4_addVisitor 0 = .ok (.aload_n 0, 1) := by decide +kernel
theorem dX4_addVisitor_1 : decode cX4_addVisitor 1 = .ok (.iload_n 1, 1) := by decide +kernel
theorem dX4_addVisitor_2 : decode cX4_addVisitor 2 = .ok (.invokevirtual 122, 3) := by decide +kernel
theorem dX4_addVisitor_5 : decode cX4_addVisitor 5 = .ok (.astore_n 2, 1) := by decide +kernel
theorem dX4_addVisitor_6 : decode cX4_addVisitor 6 = .ok (.aload_n 2, 1) := by decide +kernel
theorem dX4_addVisitor_7 : decode cX4_addVisitor 7 = .ok (.getfield 126, 3) := by decide +kernel
theorem dX4_addVisitor_10 : decode cX4_addVisitor 10 = .ok (.ifnull 13, 3) := by decide +kernel
theorem dX4_addVisitor_13 : decode cX4_addVisitor 13 = .ok (.new 84, 3) := by decide +kernel
theorem dX4_addVisitor_16 : decode cX4_addVisitor 16 = .ok (.dup, 1) := by decide +kernel
