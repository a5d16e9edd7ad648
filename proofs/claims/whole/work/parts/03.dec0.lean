theorem dX0_init_0 : decode cX0_init 0 = .ok (.aload_n 0, 1) := by decide +kernel
theorem dX0_init_1 : decode cX0_init 1 = .ok (.invokespecial 3, 3) := by decide +kernel
theorem dX0_init_4 : decode cX0_init 4 = .ok (.aload_n 0, 1) := by decide +kernel
theorem dX0_init_5 : decode cX0_init 5 = .ok (.new 9, 3) := by decide +kernel
theorem dX0_init_8 : decode cX0_init 8 = .ok (.dup, 1) := by decide +kernel
theorem dX0_init_9 : decode cX0_init 9 = .ok (.invokespecial 11, 3) := by decide +kernel
theorem dX0_init_12 : decode cX0_init 12 = .ok (.putfield 12, 3) := by decide +kernel
theorem dX0_init_15 : decode cX0_init 15 = .ok (.aload_n 0, 1) := by decide +kernel
theorem dX0_init_16 : decode cX0_init 16 = .ok (.iconst 0, 1) := by decide +kernel
theorem dX0_init_17 : decode cX0_init 17 = .ok (.putfield 18, 3) := by decide +kernel
theorem dX0_init_20 : decode cX0_init 20 = .ok (.aload_n 0, 1) := by decide +kernel
theorem dX0_init_21 : decode cX0_init 21 = .ok (.iconst 0, 1) := by decide +kernel
theorem dX0_init_22 : decode cX0_init 22 = .ok (.putfield 22, 3) := by decide +kernel
theorem dX0_init_25 : decode cX0_init 25 = .ok (.aload_n 0, 1) := by decide +kernel
theorem dX0_init_26 : decode cX0_init 26 = .ok (.iload_n 1, 1) := by decide +kernel
theorem dX0_init_27 : decode cX0_init 27 = .ok (.putfield 26, 3) := by decide +kernel
theorem dX0_init_30 : decode cX0_init 30 = .ok (.aload_n 0, 1) := by decide +kernel
theorem dX0_init_31 : decode cX0_init 31 = .ok (.aload_n 2, 1) := by decide +kernel
theorem dX0_init_32 : decode cX0_init 32 = .ok (.putfield 29, 3) := by decide +kernel
theorem dX0_init_35 : decode cX0_init 35 = .ok (.aload_n 0, 1) := by decide +kernel
theorem dX0_init_36 : decode cX0_init 36 = .ok (.iload_n 3, 1) := by decide +kernel
theorem dX0_init_37 : decode cX0_init 37 = .ok (.putfield 33, 3) := by decide +kernel
theorem dX0_init_40 : decode cX0_init 40 = .ok (.aload_n 0, 1) := by decide +kernel
theorem dX0_init_41 : decode cX0_init 41 = .ok (.new 36, 3) := by decide +kernel
theorem dX0_init_44 : decode cX0_init 44 = .ok (.dup, 1) := by decide +kernel
theorem dX0_init_45 : decode cX0_init 45 = .ok (.aload 4, 2) := by decide +kernel
theorem dX0_init_47 : decode cX0_init 47 = .ok (.iconst 0, 1) := by decide +kernel
theorem dX0_init_48 : decode cX0_init 48 = .ok (.invokespecial 38, 3) := by decide +kernel
theorem dX0_init_51 : decode cX0_init 51 = .ok (.putfield 41, 3) := by decide +kernel
theorem dX0_init_54 : decode cX0_init 54 = .ok (.aload_n 0, 1) := by decide +kernel
theorem dX0_init_55 : decode cX0_init 55 = .ok (.getfield 12, 3) := by decide +kernel
theorem dX0_init_58 : decode cX0_init 58 = .ok (.aload_n 0, 1) := by decide +kernel
theorem dX0_init_59 : decode cX0_init 59 = .ok (.getfield 41, 3) := by decide +kernel
theorem dX0_init_62 : decode cX0_init 62 = .ok (.invokevirtual 45, 3) := by decide +kernel
theorem dX0_init_65 : decode cX0_init 65 = .ok (.pop, 1) := by decide +kernel
theorem dX0_init_66 : decode cX0_init 66 = .ok (.return_, 1) := by decide +kernel
theorem dX0_rightsNow_0 : decode cX0_rightsNow 0 = .ok (.aload_n 0, 1) := by decide +kernel
theorem dX0_rightsNow_1 : decode cX0_rightsNow 1 = .ok (.getfield 29, 3) := by decide +kernel
theorem dX0_rightsNow_4 : decode cX0_rightsNow 4 = .ok (.ifnonnull 10, 3) := by decide +kernel
theorem dX0_rightsNow_7 : decode cX0_rightsNow 7 = .ok (.aload_n 0, 1) := by decide +kernel
theorem dX0_rightsNow_8 : decode cX0_rightsNow 8 = .ok (.getfield 33, 3) := by decide +kernel
theorem dX0_rightsNow_11 : decode cX0_rightsNow 11 = .ok (.goto 10, 3) := by decide +kernel
theorem dX0_rightsNow_14 : decode cX0_rightsNow 14 = .ok (.aload_n 0, 1) := by decide +kernel
theorem dX0_rightsNow_15 : decode cX0_rightsNow 15 = .ok (.getfield 29, 3) := by decide +kernel
theorem dX0_rightsNow_18 : decode cX0_rightsNow 18 = .ok (.getfield 33, 3) := by decide +kernel
theorem dX0_rightsNow_21 : decode cX0_rightsNow 21 = .ok (.ireturn, 1) := by decide +kernel
theorem dX0_hasRightFor_0 : decode cX0_hasRightFor 0 = .ok (.aload_n 1, 1) := by decide +kernel
theorem dX0_hasRightFor_1 : decode cX0_hasRightFor 1 = .ok (.getfield 49, 3) := by decide +kernel
theorem dX0_hasRightFor_4 : decode cX0_hasRightFor 4 = .ok (.ifCond .eq 18, 3) := by decide +kernel
theorem dX0_hasRightFor_7 : decode cX0_hasRightFor 7 = .ok (.aload_n 0, 1) := by decide +kernel
theorem dX0_hasRightFor_8 : decode cX0_hasRightFor 8 = .ok (.invokevirtual 52, 3) := by decide +kernel
theorem dX0_hasRightFor_11 : decode cX0_hasRightFor 11 = .ok (.aload_n 1, 1) := by decide +kernel
theorem dX0_hasRightFor_12 : decode cX0_hasRightFor 12 = .ok (.getfield 49, 3) := by decide +kernel
theorem dX0_hasRightFor_15 : decode cX0_hasRightFor 15 = .ok (.ishr, 1) := by decide +kernel
theorem dX0_hasRightFor_16 : decode cX0_hasRightFor 16 = .ok (.iconst 1, 1) := by decide +kernel
theorem dX0_hasRightFor_17 : decode cX0_hasRightFor 17 = .ok (.iand, 1) := by decide +kernel
theorem dX0_hasRightFor_18 : decode cX0_hasRightFor 18 = .ok (.iconst 1, 1) := by decide +kernel
theorem dX0_hasRightFor_19 : decode cX0_hasRightFor 19 = .ok (.if_icmp .ne 7, 3) := by decide +kernel
theorem dX0_hasRightFor_22 : decode cX0_hasRightFor 22 = .ok (.iconst 1, 1) := by decide +kernel
theorem dX0_hasRightFor_23 : decode cX0_hasRightFor 23 = .ok (.goto 4, 3) := by decide +kernel
theorem dX0_hasRightFor_26 : decode cX0_hasRightFor 26 = .ok (.iconst 0, 1) := by decide +kernel
theorem dX0_hasRightFor_27 : decode cX0_hasRightFor 27 = .ok (.ireturn, 1) := by decide +kernel
theorem dX0_tell_0 : decode cX0_tell 0 = .ok (.iload_n 1, 1) := by decide +kernel
theorem dX0_tell_1 : decode cX0_tell 1 = .ok (.tableswitch 79 0 3 #[31, 42, 47, 66], 31) := by decide +kernel
theorem dX0_tell_32 : decode cX0_tell 32 = .ok (.aload_n 0, 1) := by decide +kernel
theorem dX0_tell_33 : decode cX0_tell 33 = .ok (.getfield 41, 3) := by decide +kernel
theorem dX0_tell_36 : decode cX0_tell 36 = .ok (.getfield 56, 3) := by decide +kernel
theorem dX0_tell_39 : decode cX0_tell 39 = .ok (.getfield 49, 3) := by decide +kernel
theorem dX0_tell_42 : decode cX0_tell 42 = .ok (.ireturn, 1) := by decide +kernel
theorem dX0_tell_43 : decode cX0_tell 43 = .ok (.aload_n 0, 1) := by decide +kernel
theorem dX0_tell_44 : decode cX0_tell 44 = .ok (.invokevirtual 52, 3) := by decide +kernel
theorem dX0_tell_47 : decode cX0_tell 47 = .ok (.ireturn, 1) := by decide +kernel
theorem dX0_tell_48 : decode cX0_tell 48 = .ok (.aload_n 0, 1) := by decide +kernel
theorem dX0_tell_49 : decode cX0_tell 49 = .ok (.getfield 29, 3) := by decide +kernel
theorem dX0_tell_52 : decode cX0_tell 52 = .ok (.ifnonnull 7, 3) := by decide +kernel
theorem dX0_tell_55 : decode cX0_tell 55 = .ok (.iconst (-1), 1) := by decide +kernel
theorem dX0_tell_56 : decode cX0_tell 56 = .ok (.goto 10, 3) := by decide +kernel
theorem dX0_tell_59 : decode cX0_tell 59 = .ok (.aload_n 0, 1) := by decide +kernel
theorem dX0_tell_60 : decode cX0_tell 60 = .ok (.getfield 29, 3) := by decide +kernel
theorem dX0_tell_63 : decode cX0_tell 63 = .ok (.getfield 26, 3) := by decide +kernel
theorem dX0_tell_66 : decode cX0_tell 66 = .ok (.ireturn, 1) := by decide +kernel
theorem dX0_tell_67 : decode cX0_tell 67 = .ok (.aload_n 0, 1) := by decide +kernel
theorem dX0_tell_68 : decode cX0_tell 68 = .ok (.getfield 18, 3) := by decide +kernel
theorem dX0_tell_71 : decode cX0_tell 71 = .ok (.ifCond .eq 7, 3) := by decide +kernel
theorem dX0_tell_74 : decode cX0_tell 74 = .ok (.iconst 1, 1) := by decide +kernel
theorem dX0_tell_75 : decode cX0_tell 75 = .ok (.goto 4, 3) := by decide +kernel
theorem dX0_tell_78 : decode cX0_tell 78 = .ok (.iconst 0, 1) := by decide +kernel
theorem dX0_tell_79 : decode cX0_tell 79 = .ok (.ireturn, 1) := by decide +kernel
theorem dX0_tell_80 : decode cX0_tell 80 = .ok (.aload_n 0, 1) := by decide +kernel
theorem dX0_tell_81 : decode cX0_tell 81 = .ok (.getfield 22, 3) := by decide +kernel
theorem dX0_tell_84 : decode cX0_tell 84 = .ok (.ireturn, 1) := by decide +kernel
theorem dX0_countRefusal_0 : decode cX0_countRefusal 0 = .ok (.aload_n 0, 1) := by decide +kernel
theorem dX0_countRefusal_1 : decode cX0_countRefusal 1 = .ok (.dup, 1) := by decide +kernel
theorem dX0_countRefusal_2 : decode cX0_countRefusal 2 = .ok (.getfield 22, 3) := by decide +kernel
theorem dX0_countRefusal_5 : decode cX0_countRefusal 5 = .ok (.iconst 1, 1) := by decide +kernel
theorem dX0_countRefusal_6 : decode cX0_countRefusal 6 = .ok (.iadd, 1) := by decide +kernel
theorem dX0_countRefusal_7 : decode cX0_countRefusal 7 = .ok (.putfield 22, 3) := by decide +kernel
theorem dX0_countRefusal_10 : decode cX0_countRefusal 10 = .ok (.aload_n 0, 1) := by decide +kernel
theorem dX0_countRefusal_11 : decode cX0_countRefusal 11 = .ok (.getfield 22, 3) := by decide +kernel
theorem dX0_countRefusal_14 : decode cX0_countRefusal 14 = .ok (.iconst 3, 1) := by decide +kernel
theorem dX0_countRefusal_15 : decode cX0_countRefusal 15 = .ok (.if_icmp .lt 8, 3) := by decide +kernel
theorem dX0_countRefusal_18 : decode cX0_countRefusal 18 = .ok (.aload_n 0, 1) := by decide +kernel
theorem dX0_countRefusal_19 : decode cX0_countRefusal 19 = .ok (.iconst 1, 1) := by decide +kernel
theorem dX0_countRefusal_20 : decode cX0_countRefusal 20 = .ok (.putfield 18, 3) := by decide +kernel
theorem dX0_countRefusal_23 : decode cX0_countRefusal 23 = .ok (.return_, 1) := by decide +kernel
theorem dX0_enter_0 : decode cX0_enter 0 = .ok (.aload_n 0, 1) := by decide +kernel
theorem dX0_enter_1 : decode cX0_enter 1 = .ok (.getfield 41, 3) := by decide +kernel
theorem dX0_enter_4 : decode cX0_enter 4 = .ok (.getfield 60, 3) := by decide +kernel
theorem dX0_enter_7 : decode cX0_enter 7 = .ok (.iload_n 2, 1) := by decide +kernel
theorem dX0_enter_8 : decode cX0_enter 8 = .ok (.if_icmp .eq 16, 3) := by decide +kernel
theorem dX0_enter_11 : decode cX0_enter 11 = .ok (.aload_n 0, 1) := by decide +kernel
theorem dX0_enter_12 : decode cX0_enter 12 = .ok (.getfield 12, 3) := by decide +kernel
theorem dX0_enter_15 : decode cX0_enter 15 = .ok (.invokevirtual 63, 3) := by decide +kernel
theorem dX0_enter_18 : decode cX0_enter 18 = .ok (.sipush 513, 3) := by decide +kernel
theorem dX0_enter_21 : decode cX0_enter 21 = .ok (.if_icmp .lt 12, 3) := by decide +kernel
theorem dX0_enter_24 : decode cX0_enter 24 = .ok (.aload_n 0, 1) := by decide +kernel
theorem dX0_enter_25 : decode cX0_enter 25 = .ok (.getfield 41, 3) := by decide +kernel
theorem dX0_enter_28 : decode cX0_enter 28 = .ok (.aload_n 1, 1) := by decide +kernel
theorem dX0_enter_29 : decode cX0_enter 29 = .ok (.putfield 56, 3) := by decide +kernel
theorem dX0_enter_32 : decode cX0_enter 32 = .ok (.return_, 1) := by decide +kernel
theorem dX0_enter_33 : decode cX0_enter 33 = .ok (.aload_n 0, 1) := by decide +kernel
theorem dX0_enter_34 : decode cX0_enter 34 = .ok (.new 36, 3) := by decide +kernel
theorem dX0_enter_37 : decode cX0_enter 37 = .ok (.dup, 1) := by decide +kernel
theorem dX0_enter_38 : decode cX0_enter 38 = .ok (.aload_n 1, 1) := by decide +kernel
theorem dX0_enter_39 : decode cX0_enter 39 = .ok (.iload_n 2, 1) := by decide +kernel
theorem dX0_enter_40 : decode cX0_enter 40 = .ok (.invokespecial 38, 3) := by decide +kernel
theorem dX0_enter_43 : decode cX0_enter 43 = .ok (.putfield 41, 3) := by decide +kernel
theorem dX0_enter_46 : decode cX0_enter 46 = .ok (.aload_n 0, 1) := by decide +kernel
theorem dX0_enter_47 : decode cX0_enter 47 = .ok (.getfield 12, 3) := by decide +kernel
theorem dX0_enter_50 : decode cX0_enter 50 = .ok (.aload_n 0, 1) := by decide +kernel
theorem dX0_enter_51 : decode cX0_enter 51 = .ok (.getfield 41, 3) := by decide +kernel
theorem dX0_enter_54 : decode cX0_enter 54 = .ok (.invokevirtual 45, 3) := by decide +kernel
theorem dX0_enter_57 : decode cX0_enter 57 = .ok (.pop, 1) := by decide +kernel
theorem dX0_enter_58 : decode cX0_enter 58 = .ok (.return_, 1) := by decide +kernel
theorem dX0_isAlone_0 : decode cX0_isAlone 0 = .ok (.aload_n 0, 1) := by decide +kernel
theorem dX0_isAlone_1 : decode cX0_isAlone 1 = .ok (.getfield 29, 3) := by decide +kernel
theorem dX0_isAlone_4 : decode cX0_isAlone 4 = .ok (.ifnull 38, 3) := by decide +kernel
theorem dX0_isAlone_7 : decode cX0_isAlone 7 = .ok (.aload_n 0, 1) := by decide +kernel
theorem dX0_isAlone_8 : decode cX0_isAlone 8 = .ok (.getfield 41, 3) := by decide +kernel
theorem dX0_isAlone_11 : decode cX0_isAlone 11 = .ok (.getfield 56, 3) := by decide +kernel
theorem dX0_isAlone_14 : decode cX0_isAlone 14 = .ok (.aload_n 1, 1) := by decide +kernel
theorem dX0_isAlone_15 : decode cX0_isAlone 15 = .ok (.if_acmp .eq 27, 3) := by decide +kernel
theorem dX0_isAlone_18 : decode cX0_isAlone 18 = .ok (.aload_n 0, 1) := by decide +kernel
theorem dX0_isAlone_19 : decode cX0_isAlone 19 = .ok (.getfield 41, 3) := by decide +kernel
theorem dX0_isAlone_22 : decode cX0_isAlone 22 = .ok (.getfield 56, 3) := by decide +kernel
theorem dX0_isAlone_25 : decode cX0_isAlone 25 = .ok (.aload_n 0, 1) := by decide +kernel
theorem dX0_isAlone_26 : decode cX0_isAlone 26 = .ok (.getfield 29, 3) := by decide +kernel
theorem dX0_isAlone_29 : decode cX0_isAlone 29 = .ok (.getfield 41, 3) := by decide +kernel
theorem dX0_isAlone_32 : decode cX0_isAlone 32 = .ok (.getfield 56, 3) := by decide +kernel
theorem dX0_isAlone_35 : decode cX0_isAlone 35 = .ok (.if_acmp .eq 7, 3) := by decide +kernel
theorem dX0_isAlone_38 : decode cX0_isAlone 38 = .ok (.iconst 1, 1) := by decide +kernel
theorem dX0_isAlone_39 : decode cX0_isAlone 39 = .ok (.goto 4, 3) := by decide +kernel
theorem dX0_isAlone_42 : decode cX0_isAlone 42 = .ok (.iconst 0, 1) := by decide +kernel
theorem dX0_isAlone_43 : decode cX0_isAlone 43 = .ok (.ireturn, 1) := by decide +kernel
theorem dX0_wouldLackHost_0 : decode cX0_wouldLackHost 0 = .ok (.aload_n 0, 1) := by decide +kernel
theorem dX0_wouldLackHost_1 : decode cX0_wouldLackHost 1 = .ok (.getfield 29, 3) := by decide +kernel
theorem dX0_wouldLackHost_4 : decode cX0_wouldLackHost 4 = .ok (.ifnull 8, 3) := by decide +kernel
theorem dX0_wouldLackHost_7 : decode cX0_wouldLackHost 7 = .ok (.aload_n 1, 1) := by decide +kernel
theorem dX0_wouldLackHost_8 : decode cX0_wouldLackHost 8 = .ok (.aload_n 2, 1) := by decide +kernel
theorem dX0_wouldLackHost_9 : decode cX0_wouldLackHost 9 = .ok (.if_acmp .ne 5, 3) := by decide +kernel
theorem dX0_wouldLackHost_12 : decode cX0_wouldLackHost 12 = .ok (.iconst 0, 1) := by decide +kernel
theorem dX0_wouldLackHost_13 : decode cX0_wouldLackHost 13 = .ok (.ireturn, 1) := by decide +kernel
theorem dX0_wouldLackHost_14 : decode cX0_wouldLackHost 14 = .ok (.aload_n 0, 1) := by decide +kernel
theorem dX0_wouldLackHost_15 : decode cX0_wouldLackHost 15 = .ok (.getfield 29, 3) := by decide +kernel
theorem dX0_wouldLackHost_18 : decode cX0_wouldLackHost 18 = .ok (.getfield 41, 3) := by decide +kernel
theorem dX0_wouldLackHost_21 : decode cX0_wouldLackHost 21 = .ok (.getfield 56, 3) := by decide +kernel
theorem dX0_wouldLackHost_24 : decode cX0_wouldLackHost 24 = .ok (.astore_n 3, 1) := by decide +kernel
theorem dX0_wouldLackHost_25 : decode cX0_wouldLackHost 25 = .ok (.aload_n 3, 1) := by decide +kernel
theorem dX0_wouldLackHost_26 : decode cX0_wouldLackHost 26 = .ok (.aload_n 0, 1) := by decide +kernel
theorem dX0_wouldLackHost_27 : decode cX0_wouldLackHost 27 = .ok (.getfield 41, 3) := by decide +kernel
theorem dX0_wouldLackHost_30 : decode cX0_wouldLackHost 30 = .ok (.getfield 56, 3) := by decide +kernel
theorem dX0_wouldLackHost_33 : decode cX0_wouldLackHost 33 = .ok (.if_acmp .eq 12, 3) := by decide +kernel
theorem dX0_wouldLackHost_36 : decode cX0_wouldLackHost 36 = .ok (.aload_n 3, 1) := by decide +kernel
theorem dX0_wouldLackHost_37 : decode cX0_wouldLackHost 37 = .ok (.aload_n 1, 1) := by decide +kernel
theorem dX0_wouldLackHost_38 : decode cX0_wouldLackHost 38 = .ok (.if_acmp .eq 7, 3) := by decide +kernel
theorem dX0_wouldLackHost_41 : decode cX0_wouldLackHost 41 = .ok (.iconst 1, 1) := by decide +kernel
theorem dX0_wouldLackHost_42 : decode cX0_wouldLackHost 42 = .ok (.goto 4, 3) := by decide +kernel
theorem dX0_wouldLackHost_45 : decode cX0_wouldLackHost 45 = .ok (.iconst 0, 1) := by decide +kernel
theorem dX0_wouldLackHost_46 : decode cX0_wouldLackHost 46 = .ok (.ireturn, 1) := by decide +kernel
theorem dX0_zoneAtEndOf_0 : decode cX0_zoneAtEndOf 0 = .ok (.aload_n 0, 1) := by decide +kernel
theorem dX0_zoneAtEndOf_1 : decode cX0_zoneAtEndOf 1 = .ok (.getfield 12, 3) := by decide +kernel
theorem dX0_zoneAtEndOf_4 : decode cX0_zoneAtEndOf 4 = .ok (.invokevirtual 63, 3) := by decide +kernel
theorem dX0_zoneAtEndOf_7 : decode cX0_zoneAtEndOf 7 = .ok (.iconst 1, 1) := by decide +kernel
theorem dX0_zoneAtEndOf_8 : decode cX0_zoneAtEndOf 8 = .ok (.isub, 1) := by decide +kernel
theorem dX0_zoneAtEndOf_9 : decode cX0_zoneAtEndOf 9 = .ok (.istore_n 2, 1) := by decide +kernel
theorem dX0_zoneAtEndOf_10 : decode cX0_zoneAtEndOf 10 = .ok (.iload_n 2, 1) := by decide +kernel
theorem dX0_zoneAtEndOf_11 : decode cX0_zoneAtEndOf 11 = .ok (.ifCond .lt 34, 3) := by decide +kernel
theorem dX0_zoneAtEndOf_14 : decode cX0_zoneAtEndOf 14 = .ok (.aload_n 0, 1) := by decide +kernel
theorem dX0_zoneAtEndOf_15 : decode cX0_zoneAtEndOf 15 = .ok (.getfield 12, 3) := by decide +kernel
theorem dX0_zoneAtEndOf_18 : decode cX0_zoneAtEndOf 18 = .ok (.iload_n 2, 1) := by decide +kernel
theorem dX0_zoneAtEndOf_19 : decode cX0_zoneAtEndOf 19 = .ok (.invokevirtual 66, 3) := by decide +kernel
theorem dX0_zoneAtEndOf_22 : decode cX0_zoneAtEndOf 22 = .ok (.checkcast 36, 3) := by decide +kernel
theorem dX0_zoneAtEndOf_25 : decode cX0_zoneAtEndOf 25 = .ok (.astore_n 3, 1) := by decide +kernel
theorem dX0_zoneAtEndOf_26 : decode cX0_zoneAtEndOf 26 = .ok (.aload_n 3, 1) := by decide +kernel
theorem dX0_zoneAtEndOf_27 : decode cX0_zoneAtEndOf 27 = .ok (.getfield 60, 3) := by decide +kernel
theorem dX0_zoneAtEndOf_30 : decode cX0_zoneAtEndOf 30 = .ok (.iload_n 1, 1) := by decide +kernel
theorem dX0_zoneAtEndOf_31 : decode cX0_zoneAtEndOf 31 = .ok (.if_icmp .gt 8, 3) := by decide +kernel
theorem dX0_zoneAtEndOf_34 : decode cX0_zoneAtEndOf 34 = .ok (.aload_n 3, 1) := by decide +kernel
theorem dX0_zoneAtEndOf_35 : decode cX0_zoneAtEndOf 35 = .ok (.getfield 56, 3) := by decide +kernel
theorem dX0_zoneAtEndOf_38 : decode cX0_zoneAtEndOf 38 = .ok (.areturn, 1) := by decide +kernel
theorem dX0_zoneAtEndOf_39 : decode cX0_zoneAtEndOf 39 = .ok (.iinc 2 (-1), 3) := by decide +kernel
theorem dX0_zoneAtEndOf_42 : decode cX0_zoneAtEndOf 42 = .ok (.goto (-32), 3) := by decide +kernel
theorem dX0_zoneAtEndOf_45 : decode cX0_zoneAtEndOf 45 = .ok (.aload_n 0, 1) := by decide +kernel
theorem dX0_zoneAtEndOf_46 : decode cX0_zoneAtEndOf 46 = .ok (.getfield 41, 3) := by decide +kernel
theorem dX0_zoneAtEndOf_49 : decode cX0_zoneAtEndOf 49 = .ok (.getfield 56, 3) := by decide +kernel
theorem dX0_zoneAtEndOf_52 : decode cX0_zoneAtEndOf 52 = .ok (.areturn, 1) := by decide +kernel
theorem dX0_minutesSpent_0 : decode cX0_minutesSpent 0 = .ok (.iconst 0, 1) := by decide +kernel
theorem dX0_minutesSpent_1 : decode cX0_minutesSpent 1 = .ok (.istore_n 3, 1) := by decide +kernel
theorem dX0_minutesSpent_2 : decode cX0_minutesSpent 2 = .ok (.iload_n 2, 1) := by decide +kernel
theorem dX0_minutesSpent_3 : decode cX0_minutesSpent 3 = .ok (.istore 4, 2) := by decide +kernel
theorem dX0_minutesSpent_5 : decode cX0_minutesSpent 5 = .ok (.aload_n 0, 1) := by decide +kernel
theorem dX0_minutesSpent_6 : decode cX0_minutesSpent 6 = .ok (.getfield 12, 3) := by decide +kernel
theorem dX0_minutesSpent_9 : decode cX0_minutesSpent 9 = .ok (.invokevirtual 63, 3) := by decide +kernel
theorem dX0_minutesSpent_12 : decode cX0_minutesSpent 12 = .ok (.iconst 1, 1) := by decide +kernel
theorem dX0_minutesSpent_13 : decode cX0_minutesSpent 13 = .ok (.isub, 1) := by decide +kernel
theorem dX0_minutesSpent_14 : decode cX0_minutesSpent 14 = .ok (.istore 5, 2) := by decide +kernel
theorem dX0_minutesSpent_16 : decode cX0_minutesSpent 16 = .ok (.iload 5, 2) := by decide +kernel
theorem dX0_minutesSpent_18 : decode cX0_minutesSpent 18 = .ok (.ifCond .lt 50, 3) := by decide +kernel
theorem dX0_minutesSpent_21 : decode cX0_minutesSpent 21 = .ok (.aload_n 0, 1) := by decide +kernel
theorem dX0_minutesSpent_22 : decode cX0_minutesSpent 22 = .ok (.getfield 12, 3) := by decide +kernel
theorem dX0_minutesSpent_25 : decode cX0_minutesSpent 25 = .ok (.iload 5, 2) := by decide +kernel
theorem dX0_minutesSpent_27 : decode cX0_minutesSpent 27 = .ok (.invokevirtual 66, 3) := by decide +kernel
theorem dX0_minutesSpent_30 : decode cX0_minutesSpent 30 = .ok (.checkcast 36, 3) := by decide +kernel
theorem dX0_minutesSpent_33 : decode cX0_minutesSpent 33 = .ok (.astore 6, 2) := by decide +kernel
theorem dX0_minutesSpent_35 : decode cX0_minutesSpent 35 = .ok (.aload 6, 2) := by decide +kernel
theorem dX0_minutesSpent_37 : decode cX0_minutesSpent 37 = .ok (.getfield 56, 3) := by decide +kernel
theorem dX0_minutesSpent_40 : decode cX0_minutesSpent 40 = .ok (.aload_n 1, 1) := by decide +kernel
theorem dX0_minutesSpent_41 : decode cX0_minutesSpent 41 = .ok (.if_acmp .ne 14, 3) := by decide +kernel
theorem dX0_minutesSpent_44 : decode cX0_minutesSpent 44 = .ok (.iload_n 3, 1) := by decide +kernel
theorem dX0_minutesSpent_45 : decode cX0_minutesSpent 45 = .ok (.iload 4, 2) := by decide +kernel
theorem dX0_minutesSpent_47 : decode cX0_minutesSpent 47 = .ok (.aload 6, 2) := by decide +kernel
theorem dX0_minutesSpent_49 : decode cX0_minutesSpent 49 = .ok (.getfield 60, 3) := by decide +kernel
theorem dX0_minutesSpent_52 : decode cX0_minutesSpent 52 = .ok (.isub, 1) := by decide +kernel
theorem dX0_minutesSpent_53 : decode cX0_minutesSpent 53 = .ok (.iadd, 1) := by decide +kernel
theorem dX0_minutesSpent_54 : decode cX0_minutesSpent 54 = .ok (.istore_n 3, 1) := by decide +kernel
theorem dX0_minutesSpent_55 : decode cX0_minutesSpent 55 = .ok (.aload 6, 2) := by decide +kernel
theorem dX0_minutesSpent_57 : decode cX0_minutesSpent 57 = .ok (.getfield 60, 3) := by decide +kernel
theorem dX0_minutesSpent_60 : decode cX0_minutesSpent 60 = .ok (.istore 4, 2) := by decide +kernel
theorem dX0_minutesSpent_62 : decode cX0_minutesSpent 62 = .ok (.iinc 5 (-1), 3) := by decide +kernel
theorem dX0_minutesSpent_65 : decode cX0_minutesSpent 65 = .ok (.goto (-49), 3) := by decide +kernel
theorem dX0_minutesSpent_68 : decode cX0_minutesSpent 68 = .ok (.iload_n 3, 1) := by decide +kernel
theorem dX0_minutesSpent_69 : decode cX0_minutesSpent 69 = .ok (.ireturn, 1) := by decide +kernel
theorem dX1_init_0 : decode cX1_init 0 = .ok (.aload_n 0, 1) := by decide +kernel
theorem dX1_init_1 : decode cX1_init 1 = .ok (.invokespecial 3, 3) := by decide +kernel
theorem dX1_init_4 : decode cX1_init 4 = .ok (.aload_n 0, 1) := by decide +kernel
theorem dX1_init_5 : decode cX1_init 5 = .ok (.iconst 0, 1) := by decide +kernel
theorem dX1_init_6 : decode cX1_init 6 = .ok (.putfield 9, 3) := by decide +kernel
theorem dX1_init_9 : decode cX1_init 9 = .ok (.aload_n 0, 1) := by decide +kernel
theorem dX1_init_10 : decode cX1_init 10 = .ok (.aload_n 1, 1) := by decide +kernel
theorem dX1_init_11 : decode cX1_init 11 = .ok (.putfield 15, 3) := by decide +kernel
theorem dX1_init_14 : decode cX1_init 14 = .ok (.aload_n 0, 1) := by decide +kernel
theorem dX1_init_15 : decode cX1_init 15 = .ok (.aload_n 2, 1) := by decide +kernel
theorem dX1_init_16 : decode cX1_init 16 = .ok (.putfield 19, 3) := by decide +kernel
theorem dX1_init_19 : decode cX1_init 19 = .ok (.aload_n 0, 1) := by decide +kernel
theorem dX1_init_20 : decode cX1_init 20 = .ok (.iload_n 3, 1) := by decide +kernel
theorem dX1_init_21 : decode cX1_init 21 = .ok (.putfield 22, 3) := by decide +kernel
theorem dX1_init_24 : decode cX1_init 24 = .ok (.aload_n 0, 1) := by decide +kernel
theorem dX1_init_25 : decode cX1_init 25 = .ok (.iload 4, 2) := by decide +kernel
theorem dX1_init_27 : decode cX1_init 27 = .ok (.putfield 25, 3) := by decide +kernel
theorem dX1_init_30 : decode cX1_init 30 = .ok (.return_, 1) := by decide +kernel
theorem dX1_otherSide_0 : decode cX1_otherSide 0 = .ok (.aload_n 1, 1) := by decide +kernel
theorem dX1_otherSide_1 : decode cX1_otherSide 1 = .ok (.aload_n 0, 1) := by decide +kernel
theorem dX1_otherSide_2 : decode cX1_otherSide 2 = .ok (.getfield 15, 3) := by decide +kernel
theorem dX1_otherSide_5 : decode cX1_otherSide 5 = .ok (.if_acmp .ne 8, 3) := by decide +kernel
theorem dX1_otherSide_8 : decode cX1_otherSide 8 = .ok (.aload_n 0, 1) := by decide +kernel
theorem dX1_otherSide_9 : decode cX1_otherSide 9 = .ok (.getfield 19, 3) := by decide +kernel
theorem dX1_otherSide_12 : decode cX1_otherSide 12 = .ok (.areturn, 1) := by decide +kernel
theorem dX1_otherSide_13 : decode cX1_otherSide 13 = .ok (.aload_n 1, 1) := by decide +kernel
theorem dX1_otherSide_14 : decode cX1_otherSide 14 = .ok (.aload_n 0, 1) := by decide +kernel
theorem dX1_otherSide_15 : decode cX1_otherSide 15 = .ok (.getfield 19, 3) := by decide +kernel
theorem dX1_otherSide_18 : decode cX1_otherSide 18 = .ok (.if_acmp .ne 10, 3) := by decide +kernel
theorem dX1_otherSide_21 : decode cX1_otherSide 21 = .ok (.aload_n 0, 1) := by decide +kernel
theorem dX1_otherSide_22 : decode cX1_otherSide 22 = .ok (.getfield 15, 3) := by decide +kernel
theorem dX1_otherSide_25 : decode cX1_otherSide 25 = .ok (.goto 4, 3) := by decide +kernel
theorem dX1_otherSide_28 : decode cX1_otherSide 28 = .ok (.aconst_null, 1) := by decide +kernel
theorem dX1_otherSide_29 : decode cX1_otherSide 29 = .ok (.areturn, 1) := by decide +kernel
theorem dX1_openAt_0 : decode cX1_openAt 0 = .ok (.aload_n 0, 1) := by decide +kernel
theorem dX1_openAt_1 : decode cX1_openAt 1 = .ok (.iload_n 1, 1) := by decide +kernel
theorem dX1_openAt_2 : decode cX1_openAt 2 = .ok (.aload_n 0, 1) := by decide +kernel
theorem dX1_openAt_3 : decode cX1_openAt 3 = .ok (.getfield 22, 3) := by decide +kernel
theorem dX1_openAt_6 : decode cX1_openAt 6 = .ok (.iadd, 1) := by decide +kernel
theorem dX1_openAt_7 : decode cX1_openAt 7 = .ok (.putfield 9, 3) := by decide +kernel
theorem dX1_openAt_10 : decode cX1_openAt 10 = .ok (.return_, 1) := by decide +kernel
theorem dX1_minutesLeft_0 : decode cX1_minutesLeft 0 = .ok (.iconst 0, 1) := by decide +kernel
theorem dX1_minutesLeft_1 : decode cX1_minutesLeft 1 = .ok (.aload_n 0, 1) := by decide +kernel
theorem dX1_minutesLeft_2 : decode cX1_minutesLeft 2 = .ok (.getfield 9, 3) := by decide +kernel
theorem dX1_minutesLeft_5 : decode cX1_minutesLeft 5 = .ok (.iload_n 1, 1) := by decide +kernel
theorem dX1_minutesLeft_6 : decode cX1_minutesLeft 6 = .ok (.isub, 1) := by decide +kernel
theorem dX1_minutesLeft_7 : decode cX1_minutesLeft 7 = .ok (.invokestatic 28, 3) := by decide +kernel
theorem dX1_minutesLeft_10 : decode cX1_minutesLeft 10 = .ok (.ireturn, 1) := by decide +kernel
theorem dX1_excludes_0 : decode cX1_excludes 0 = .ok (.aload_n 0, 1) := by decide +kernel
theorem dX1_excludes_1 : decode cX1_excludes 1 = .ok (.aload_n 1, 1) := by decide +kernel
theorem dX1_excludes_2 : decode cX1_excludes 2 = .ok (.if_acmp .eq 25, 3) := by decide +kernel
theorem dX1_excludes_5 : decode cX1_excludes 5 = .ok (.aload_n 0, 1) := by decide +kernel
theorem dX1_excludes_6 : decode cX1_excludes 6 = .ok (.getfield 25, 3) := by decide +kernel
theorem dX1_excludes_9 : decode cX1_excludes 9 = .ok (.ifCond .eq 18, 3) := by decide +kernel
theorem dX1_excludes_12 : decode cX1_excludes 12 = .ok (.aload_n 0, 1) := by decide +kernel
theorem dX1_excludes_13 : decode cX1_excludes 13 = .ok (.getfield 25, 3) := by decide +kernel
theorem dX1_excludes_16 : decode cX1_excludes 16 = .ok (.aload_n 1, 1) := by decide +kernel
theorem dX1_excludes_17 : decode cX1_excludes 17 = .ok (.getfield 25, 3) := by decide +kernel
theorem dX1_excludes_20 : decode cX1_excludes 20 = .ok (.if_icmp .ne 7, 3) := by decide +kernel
theorem dX1_excludes_23 : decode cX1_excludes 23 = .ok (.iconst 1, 1) := by decide +kernel
theorem dX1_excludes_24 : decode cX1_excludes 24 = .ok (.goto 4, 3) := by decide +kernel
theorem dX1_excludes_27 : decode cX1_excludes 27 = .ok (.iconst 0, 1) := by decide +kernel
theorem dX1_excludes_28 : decode cX1_excludes 28 = .ok (.ireturn, 1) := by decide +kernel
theorem dX1_measureBack_0 : decode cX1_measureBack 0 = .ok (.aload_n 0, 1) := by decide +kernel
theorem dX1_measureBack_1 : decode cX1_measureBack 1 = .ok (.getfield 15, 3) := by decide +kernel
theorem dX1_measureBack_4 : decode cX1_measureBack 4 = .ok (.aload_n 0, 1) := by decide +kernel
theorem dX1_measureBack_5 : decode cX1_measureBack 5 = .ok (.getfield 19, 3) := by decide +kernel
theorem dX1_measureBack_8 : decode cX1_measureBack 8 = .ok (.iload_n 1, 1) := by decide +kernel
theorem dX1_measureBack_9 : decode cX1_measureBack 9 = .ok (.invokestatic 34, 3) := by decide +kernel
theorem dX1_measureBack_12 : decode cX1_measureBack 12 = .ok (.aload_n 0, 1) := by decide +kernel
theorem dX1_measureBack_13 : decode cX1_measureBack 13 = .ok (.getfield 19, 3) := by decide +kernel
theorem dX1_measureBack_16 : decode cX1_measureBack 16 = .ok (.aload_n 0, 1) := by decide +kernel
theorem dX1_measureBack_17 : decode cX1_measureBack 17 = .ok (.getfield 15, 3) := by decide +kernel
theorem dX1_measureBack_20 : decode cX1_measureBack 20 = .ok (.iload_n 1, 1) := by decide +kernel
theorem dX1_measureBack_21 : decode cX1_measureBack 21 = .ok (.invokestatic 34, 3) := by decide +kernel
theorem dX1_measureBack_24 : decode cX1_measureBack 24 = .ok (.return_, 1) := by decide +kernel
theorem dX1_measureFrom_0 : decode cX1_measureFrom 0 = .ok (.aload_n 0, 1) := by decide +kernel
theorem dX1_measureFrom_1 : decode cX1_measureFrom 1 = .ok (.getfield 38, 3) := by decide +kernel
theorem dX1_measureFrom_4 : decode cX1_measureFrom 4 = .ok (.ifCond .eq 26, 3) := by decide +kernel
theorem dX1_measureFrom_7 : decode cX1_measureFrom 7 = .ok (.aload_n 0, 1) := by decide +kernel
theorem dX1_measureFrom_8 : decode cX1_measureFrom 8 = .ok (.getfield 44, 3) := by decide +kernel
theorem dX1_measureFrom_11 : decode cX1_measureFrom 11 = .ok (.iload_n 2, 1) := by decide +kernel
theorem dX1_measureFrom_12 : decode cX1_measureFrom 12 = .ok (.if_icmp .ne 18, 3) := by decide +kernel
theorem dX1_measureFrom_15 : decode cX1_measureFrom 15 = .ok (.aload_n 1, 1) := by decide +kernel
theorem dX1_measureFrom_16 : decode cX1_measureFrom 16 = .ok (.getfield 44, 3) := by decide +kernel
theorem dX1_measureFrom_19 : decode cX1_measureFrom 19 = .ok (.iconst (-1), 1) := by decide +kernel
theorem dX1_measureFrom_20 : decode cX1_measureFrom 20 = .ok (.if_icmp .ne 10, 3) := by decide +kernel
theorem dX1_measureFrom_23 : decode cX1_measureFrom 23 = .ok (.aload_n 1, 1) := by decide +kernel
theorem dX1_measureFrom_24 : decode cX1_measureFrom 24 = .ok (.iload_n 2, 1) := by decide +kernel
theorem dX1_measureFrom_25 : decode cX1_measureFrom 25 = .ok (.iconst 1, 1) := by decide +kernel
theorem dX1_measureFrom_26 : decode cX1_measureFrom 26 = .ok (.iadd, 1) := by decide +kernel
theorem dX1_measureFrom_27 : decode cX1_measureFrom 27 = .ok (.putfield 44, 3) := by decide +kernel
theorem dX1_measureFrom_30 : decode cX1_measureFrom 30 = .ok (.return_, 1) := by decide +kernel
theorem dX2_init_0 : decode cX2_init 0 = .ok (.aload_n 0, 1) := by decide +kernel
theorem dX2_init_1 : decode cX2_init 1 = .ok (.invokespecial 1, 3) := by decide +kernel
theorem dX2_init_4 : decode cX2_init 4 = .ok (.aload_n 0, 1) := by decide +kernel
theorem dX2_init_5 : decode cX2_init 5 = .ok (.aload_n 1, 1) := by decide +kernel
theorem dX2_init_6 : decode cX2_init 6 = .ok (.putfield 7, 3) := by decide +kernel
theorem dX2_init_9 : decode cX2_init 9 = .ok (.aload_n 0, 1) := by decide +kernel
theorem dX2_init_10 : decode cX2_init 10 = .ok (.iload_n 2, 1) := by decide +kernel
theorem dX2_init_11 : decode cX2_init 11 = .ok (.putfield 13, 3) := by decide +kernel
theorem dX2_init_14 : decode cX2_init 14 = .ok (.return_, 1) := by decide +kernel
theorem dX3_init_0 : decode cX3_init 0 = .ok (.aload_n 0, 1) := by decide +kernel
theorem dX3_init_1 : decode cX3_init 1 = .ok (.invokespecial 3, 3) := by decide +kernel
theorem dX3_init_4 : decode cX3_init 4 = .ok (.aload_n 0, 1) := by decide +kernel
theorem dX3_init_5 : decode cX3_init 5 = .ok (.iconst 0, 1) := by decide +kernel
theorem dX3_init_6 : decode cX3_init 6 = .ok (.putfield 9, 3) := by decide +kernel
theorem dX3_init_9 : decode cX3_init 9 = .ok (.aload_n 0, 1) := by decide +kernel
theorem dX3_init_10 : decode cX3_init 10 = .ok (.iconst (-1), 1) := by decide +kernel
theorem dX3_init_11 : decode cX3_init 11 = .ok (.putfield 15, 3) := by decide +kernel
theorem dX3_init_14 : decode cX3_init 14 = .ok (.aload_n 0, 1) := by decide +kernel
theorem dX3_init_15 : decode cX3_init 15 = .ok (.iload_n 1, 1) := by decide +kernel
theorem dX3_init_16 : decode cX3_init 16 = .ok (.putfield 19, 3) := by decide +kernel
theorem dX3_init_19 : decode cX3_init 19 = .ok (.aload_n 0, 1) := by decide +kernel
theorem dX3_init_20 : decode cX3_init 20 = .ok (.iload_n 2, 1) := by decide +kernel
theorem dX3_init_21 : decode cX3_init 21 = .ok (.putfield 22, 3) := by decide +kernel
theorem dX3_init_24 : decode cX3_init 24 = .ok (.aload_n 0, 1) := by decide +kernel
theorem dX3_init_25 : decode cX3_init 25 = .ok (.iload_n 3, 1) := by decide +kernel
theorem dX3_init_26 : decode cX3_init 26 = .ok (.putfield 25, 3) := by decide +kernel
theorem dX3_init_29 : decode cX3_init 29 = .ok (.aload_n 0, 1) := by decide +kernel
theorem dX3_init_30 : decode cX3_init 30 = .ok (.iload 4, 2) := by decide +kernel
theorem dX3_init_32 : decode cX3_init 32 = .ok (.putfield 28, 3) := by decide +kernel
theorem dX3_init_35 : decode cX3_init 35 = .ok (.return_, 1) := by decide +kernel
theorem dX3_hasHoursAt_0 : decode cX3_hasHoursAt 0 = .ok (.iload_n 1, 1) := by decide +kernel
theorem dX3_hasHoursAt_1 : decode cX3_hasHoursAt 1 = .ok (.sipush 1440, 3) := by decide +kernel
theorem dX3_hasHoursAt_4 : decode cX3_hasHoursAt 4 = .ok (.irem, 1) := by decide +kernel
theorem dX3_hasHoursAt_5 : decode cX3_hasHoursAt 5 = .ok (.istore_n 2, 1) := by decide +kernel
theorem dX3_hasHoursAt_6 : decode cX3_hasHoursAt 6 = .ok (.aload_n 0, 1) := by decide +kernel
theorem dX3_hasHoursAt_7 : decode cX3_hasHoursAt 7 = .ok (.getfield 28, 3) := by decide +kernel
theorem dX3_hasHoursAt_10 : decode cX3_hasHoursAt 10 = .ok (.aload_n 0, 1) := by decide +kernel
theorem dX3_hasHoursAt_11 : decode cX3_hasHoursAt 11 = .ok (.getfield 25, 3) := by decide +kernel
theorem dX3_hasHoursAt_14 : decode cX3_hasHoursAt 14 = .ok (.if_icmp .ge 25, 3) := by decide +kernel
theorem dX3_hasHoursAt_17 : decode cX3_hasHoursAt 17 = .ok (.iload_n 2, 1) := by decide +kernel
theorem dX3_hasHoursAt_18 : decode cX3_hasHoursAt 18 = .ok (.aload_n 0, 1) := by decide +kernel
theorem dX3_hasHoursAt_19 : decode cX3_hasHoursAt 19 = .ok (.getfield 25, 3) := by decide +kernel
theorem dX3_hasHoursAt_22 : decode cX3_hasHoursAt 22 = .ok (.if_icmp .ge 11, 3) := by decide +kernel
theorem dX3_hasHoursAt_25 : decode cX3_hasHoursAt 25 = .ok (.iload_n 2, 1) := by decide +kernel
theorem dX3_hasHoursAt_26 : decode cX3_hasHoursAt 26 = .ok (.aload_n 0, 1) := by decide +kernel
theorem dX3_hasHoursAt_27 : decode cX3_hasHoursAt 27 = .ok (.getfield 28, 3) := by decide +kernel
theorem dX3_hasHoursAt_30 : decode cX3_hasHoursAt 30 = .ok (.if_icmp .ge 7, 3) := by decide +kernel
theorem dX3_hasHoursAt_33 : decode cX3_hasHoursAt 33 = .ok (.iconst 1, 1) := by decide +kernel
theorem dX3_hasHoursAt_34 : decode cX3_hasHoursAt 34 = .ok (.goto 4, 3) := by decide +kernel
theorem dX3_hasHoursAt_37 : decode cX3_hasHoursAt 37 = .ok (.iconst 0, 1) := by decide +kernel
theorem dX3_hasHoursAt_38 : decode cX3_hasHoursAt 38 = .ok (.ireturn, 1) := by decide +kernel
theorem dX3_hasHoursAt_39 : decode cX3_hasHoursAt 39 = .ok (.iload_n 2, 1) := by decide +kernel
theorem dX3_hasHoursAt_40 : decode cX3_hasHoursAt 40 = .ok (.aload_n 0, 1) := by decide +kernel
theorem dX3_hasHoursAt_41 : decode cX3_hasHoursAt 41 = .ok (.getfield 25, 3) := by decide +kernel
theorem dX3_hasHoursAt_44 : decode cX3_hasHoursAt 44 = .ok (.if_icmp .lt 15, 3) := by decide +kernel
theorem dX3_hasHoursAt_47 : decode cX3_hasHoursAt 47 = .ok (.iload_n 2, 1) := by decide +kernel
theorem dX3_hasHoursAt_48 : decode cX3_hasHoursAt 48 = .ok (.aload_n 0, 1) := by decide +kernel
theorem dX3_hasHoursAt_49 : decode cX3_hasHoursAt 49 = .ok (.getfield 28, 3) := by decide +kernel
theorem dX3_hasHoursAt_52 : decode cX3_hasHoursAt 52 = .ok (.if_icmp .ge 7, 3) := by decide +kernel
theorem dX3_hasHoursAt_55 : decode cX3_hasHoursAt 55 = .ok (.iconst 1, 1) := by decide +kernel
theorem dX3_hasHoursAt_56 : decode cX3_hasHoursAt 56 = .ok (.goto 4, 3) := by decide +kernel
theorem dX3_hasHoursAt_59 : decode cX3_hasHoursAt 59 = .ok (.iconst 0, 1) := by decide +kernel
theorem dX3_hasHoursAt_60 : decode cX3_hasHoursAt 60 = .ok (.ireturn, 1) := by decide +kernel
theorem dX4_init_0 : decode cX4_init 0 = .ok (.aload_n 0, 1) := by decide +kernel
theorem dX4_init_1 : decode cX4_init 1 = .ok (.invokespecial 3, 3) := by decide +kernel
theorem dX4_init_4 : decode cX4_init 4 = .ok (.aload_n 0, 1) := by decide +kernel
theorem dX4_init_5 : decode cX4_init 5 = .ok (.new 9, 3) := by decide +kernel
theorem dX4_init_8 : decode cX4_init 8 = .ok (.dup, 1) := by decide +kernel
theorem dX4_init_9 : decode cX4_init 9 = .ok (.iconst 0, 1) := by decide +kernel
theorem dX4_init_10 : decode cX4_init 10 = .ok (.bipush 11, 2) := by decide +kernel
theorem dX4_init_12 : decode cX4_init 12 = .ok (.iconst 0, 1) := by decide +kernel
theorem dX4_init_13 : decode cX4_init 13 = .ok (.sipush 1440, 3) := by decide +kernel
theorem dX4_init_16 : decode cX4_init 16 = .ok (.invokespecial 11, 3) := by decide +kernel
theorem dX4_init_19 : decode cX4_init 19 = .ok (.putfield 14, 3) := by decide +kernel
theorem dX4_init_22 : decode cX4_init 22 = .ok (.aload_n 0, 1) := by decide +kernel
theorem dX4_init_23 : decode cX4_init 23 = .ok (.new 18, 3) := by decide +kernel
theorem dX4_init_26 : decode cX4_init 26 = .ok (.dup, 1) := by decide +kernel
theorem dX4_init_27 : decode cX4_init 27 = .ok (.invokespecial 20, 3) := by decide +kernel
theorem dX4_init_30 : decode cX4_init 30 = .ok (.putfield 21, 3) := by decide +kernel
theorem dX4_init_33 : decode cX4_init 33 = .ok (.aload_n 0, 1) := by decide +kernel
theorem dX4_init_34 : decode cX4_init 34 = .ok (.new 18, 3) := by decide +kernel
theorem dX4_init_37 : decode cX4_init 37 = .ok (.dup, 1) := by decide +kernel
theorem dX4_init_38 : decode cX4_init 38 = .ok (.invokespecial 20, 3) := by decide +kernel
theorem dX4_init_41 : decode cX4_init 41 = .ok (.putfield 25, 3) := by decide +kernel
theorem dX4_init_44 : decode cX4_init 44 = .ok (.aload_n 0, 1) := by decide +kernel
theorem dX4_init_45 : decode cX4_init 45 = .ok (.new 18, 3) := by decide +kernel
theorem dX4_init_48 : decode cX4_init 48 = .ok (.dup, 1) := by decide +kernel
theorem dX4_init_49 : decode cX4_init 49 = .ok (.invokespecial 20, 3) := by decide +kernel
theorem dX4_init_52 : decode cX4_init 52 = .ok (.putfield 28, 3) := by decide +kernel
theorem dX4_init_55 : decode cX4_init 55 = .ok (.aload_n 0, 1) := by decide +kernel
theorem dX4_init_56 : decode cX4_init 56 = .ok (.iconst 0, 1) := by decide +kernel
theorem dX4_init_57 : decode cX4_init 57 = .ok (.putfield 31, 3) := by decide +kernel
theorem dX4_init_60 : decode cX4_init 60 = .ok (.aload_n 0, 1) := by decide +kernel
theorem dX4_init_61 : decode cX4_init 61 = .ok (.iconst 0, 1) := by decide +kernel
theorem dX4_init_62 : decode cX4_init 62 = .ok (.putfield 35, 3) := by decide +kernel
theorem dX4_init_65 : decode cX4_init 65 = .ok (.aload_n 0, 1) := by decide +kernel
theorem dX4_init_66 : decode cX4_init 66 = .ok (.getfield 21, 3) := by decide +kernel
theorem dX4_init_69 : decode cX4_init 69 = .ok (.aload_n 0, 1) := by decide +kernel
theorem dX4_init_70 : decode cX4_init 70 = .ok (.getfield 14, 3) := by decide +kernel
theorem dX4_init_73 : decode cX4_init 73 = .ok (.invokevirtual 39, 3) := by decide +kernel
theorem dX4_init_76 : decode cX4_init 76 = .ok (.pop, 1) := by decide +kernel
theorem dX4_init_77 : decode cX4_init 77 = .ok (.return_, 1) := by decide +kernel
theorem dX4_addZone_0 : decode cX4_addZone 0 = .ok (.iload_n 1, 1) := by decide +kernel
theorem dX4_addZone_1 : decode cX4_addZone 1 = .ok (.iload_n 2, 1) := by decide +kernel
theorem dX4_addZone_2 : decode cX4_addZone 2 = .ok (.iload_n 3, 1) := by decide +kernel
theorem dX4_addZone_3 : decode cX4_addZone 3 = .ok (.invokestatic 43, 3) := by decide +kernel
theorem dX4_addZone_6 : decode cX4_addZone 6 = .ok (.aload_n 0, 1) := by decide +kernel
theorem dX4_addZone_7 : decode cX4_addZone 7 = .ok (.getfield 21, 3) := by decide +kernel
theorem dX4_addZone_10 : decode cX4_addZone 10 = .ok (.invokevirtual 47, 3) := by decide +kernel
theorem dX4_addZone_13 : decode cX4_addZone 13 = .ok (.istore 4, 2) := by decide +kernel
theorem dX4_addZone_15 : decode cX4_addZone 15 = .ok (.iload 4, 2) := by decide +kernel
theorem dX4_addZone_17 : decode cX4_addZone 17 = .ok (.bipush 8, 2) := by decide +kernel
theorem dX4_addZone_19 : decode cX4_addZone 19 = .ok (.if_icmp .lt 13, 3) := by decide +kernel
theorem dX4_addZone_22 : decode cX4_addZone 22 = .ok (.new 51, 3) := by decide +kernel
theorem dX4_addZone_25 : decode cX4_addZone 25 = .ok (.dup, 1) := by decide +kernel
theorem dX4_addZone_26 : decode cX4_addZone 26 = .ok (.ldc 53, 2) := by decide +kernel
theorem dX4_addZone_28 : decode cX4_addZone 28 = .ok (.invokespecial 55, 3) := by decide +kernel
theorem dX4_addZone_31 : decode cX4_addZone 31 = .ok (.athrow, 1) := by decide +kernel
theorem dX4_addZone_32 : decode cX4_addZone 32 = .ok (.aload_n 0, 1) := by decide +kernel
theorem dX4_addZone_33 : decode cX4_addZone 33 = .ok (.getfield 21, 3) := by decide +kernel
theorem dX4_addZone_36 : decode cX4_addZone 36 = .ok (.new 9, 3) := by decide +kernel
theorem dX4_addZone_39 : decode cX4_addZone 39 = .ok (.dup, 1) := by decide +kernel
theorem dX4_addZone_40 : decode cX4_addZone 40 = .ok (.iload 4, 2) := by decide +kernel
theorem dX4_addZone_42 : decode cX4_addZone 42 = .ok (.iload_n 1, 1) := by decide +kernel
theorem dX4_addZone_43 : decode cX4_addZone 43 = .ok (.iload_n 2, 1) := by decide +kernel
theorem dX4_addZone_44 : decode cX4_addZone 44 = .ok (.iload_n 3, 1) := by decide +kernel
theorem dX4_addZone_45 : decode cX4_addZone 45 = .ok (.invokespecial 11, 3) := by decide +kernel
theorem dX4_addZone_48 : decode cX4_addZone 48 = .ok (.invokevirtual 39, 3) := by decide +kernel
theorem dX4_addZone_51 : decode cX4_addZone 51 = .ok (.pop, 1) := by decide +kernel
theorem dX4_addZone_52 : decode cX4_addZone 52 = .ok (.iload 4, 2) := by decide +kernel
theorem dX4_addZone_54 : decode cX4_addZone 54 = .ok (.ireturn, 1) := by decide +kernel
theorem dX4_setZone_0 : decode cX4_setZone 0 = .ok (.aload_n 0, 1) := by decide +kernel
theorem dX4_setZone_1 : decode cX4_setZone 1 = .ok (.iload_n 1, 1) := by decide +kernel
theorem dX4_setZone_2 : decode cX4_setZone 2 = .ok (.invokevirtual 58, 3) := by decide +kernel
theorem dX4_setZone_5 : decode cX4_setZone 5 = .ok (.astore 5, 2) := by decide +kernel
theorem dX4_setZone_7 : decode cX4_setZone 7 = .ok (.aload 5, 2) := by decide +kernel
theorem dX4_setZone_9 : decode cX4_setZone 9 = .ok (.aload_n 0, 1) := by decide +kernel
theorem dX4_setZone_10 : decode cX4_setZone 10 = .ok (.getfield 14, 3) := by decide +kernel
theorem dX4_setZone_13 : decode cX4_setZone 13 = .ok (.if_acmp .ne 13, 3) := by decide +kernel
theorem dX4_setZone_16 : decode cX4_setZone 16 = .ok (.new 62, 3) := by decide +kernel
theorem dX4_setZone_19 : decode cX4_setZone 19 = .ok (.dup, 1) := by decide +kernel
theorem dX4_setZone_20 : decode cX4_setZone 20 = .ok (.ldc 64, 2) := by decide +kernel
theorem dX4_setZone_22 : decode cX4_setZone 22 = .ok (.invokespecial 66, 3) := by decide +kernel
theorem dX4_setZone_25 : decode cX4_setZone 25 = .ok (.athrow, 1) := by decide +kernel
theorem dX4_setZone_26 : decode cX4_setZone 26 = .ok (.iload_n 2, 1) := by decide +kernel
theorem dX4_setZone_27 : decode cX4_setZone 27 = .ok (.iload_n 3, 1) := by decide +kernel
theorem dX4_setZone_28 : decode cX4_setZone 28 = .ok (.iload 4, 2) := by decide +kernel
theorem dX4_setZone_30 : decode cX4_setZone 30 = .ok (.invokestatic 43, 3) := by decide +kernel
theorem dX4_setZone_33 : decode cX4_setZone 33 = .ok (.aload 5, 2) := by decide +kernel
theorem dX4_setZone_35 : decode cX4_setZone 35 = .ok (.iload_n 2, 1) := by decide +kernel
theorem dX4_setZone_36 : decode cX4_setZone 36 = .ok (.putfield 67, 3) := by decide +kernel
theorem dX4_setZone_39 : decode cX4_setZone 39 = .ok (.aload 5, 2) := by decide +kernel
theorem dX4_setZone_41 : decode cX4_setZone 41 = .ok (.iload_n 3, 1) := by decide +kernel
theorem dX4_setZone_42 : decode cX4_setZone 42 = .ok (.putfield 70, 3) := by decide +kernel
theorem dX4_setZone_45 : decode cX4_setZone 45 = .ok (.aload 5, 2) := by decide +kernel
theorem dX4_setZone_47 : decode cX4_setZone 47 = .ok (.iload 4, 2) := by decide +kernel
theorem dX4_setZone_49 : decode cX4_setZone 49 = .ok (.putfield 73, 3) := by decide +kernel
theorem dX4_setZone_52 : decode cX4_setZone 52 = .ok (.aload_n 0, 1) := by decide +kernel
theorem dX4_setZone_53 : decode cX4_setZone 53 = .ok (.aload 5, 2) := by decide +kernel
theorem dX4_setZone_55 : decode cX4_setZone 55 = .ok (.invokevirtual 76, 3) := by decide +kernel
theorem dX4_setZone_58 : decode cX4_setZone 58 = .ok (.ireturn, 1) := by decide +kernel
theorem dX4_addDoor_0 : decode cX4_addDoor 0 = .ok (.aload_n 0, 1) := by decide +kernel
theorem dX4_addDoor_1 : decode cX4_addDoor 1 = .ok (.iload_n 1, 1) := by decide +kernel
theorem dX4_addDoor_2 : decode cX4_addDoor 2 = .ok (.invokevirtual 58, 3) := by decide +kernel
theorem dX4_addDoor_5 : decode cX4_addDoor 5 = .ok (.astore 5, 2) := by decide +kernel
theorem dX4_addDoor_7 : decode cX4_addDoor 7 = .ok (.aload_n 0, 1) := by decide +kernel
theorem dX4_addDoor_8 : decode cX4_addDoor 8 = .ok (.iload_n 2, 1) := by decide +kernel
theorem dX4_addDoor_9 : decode cX4_addDoor 9 = .ok (.invokevirtual 58, 3) := by decide +kernel
theorem dX4_addDoor_12 : decode cX4_addDoor 12 = .ok (.astore 6, 2) := by decide +kernel
theorem dX4_addDoor_14 : decode cX4_addDoor 14 = .ok (.iload_n 1, 1) := by decide +kernel
theorem dX4_addDoor_15 : decode cX4_addDoor 15 = .ok (.iload_n 2, 1) := by decide +kernel
theorem dX4_addDoor_16 : decode cX4_addDoor 16 = .ok (.if_icmp .eq 23, 3) := by decide +kernel
theorem dX4_addDoor_19 : decode cX4_addDoor 19 = .ok (.iload_n 3, 1) := by decide +kernel
theorem dX4_addDoor_20 : decode cX4_addDoor 20 = .ok (.iconst 0, 1) := by decide +kernel
theorem dX4_addDoor_21 : decode cX4_addDoor 21 = .ok (.bipush 9, 2) := by decide +kernel
theorem dX4_addDoor_23 : decode cX4_addDoor 23 = .ok (.invokestatic 80, 3) := by decide +kernel
theorem dX4_addDoor_26 : decode cX4_addDoor 26 = .ok (.ifCond .eq 13, 3) := by decide +kernel
theorem dX4_addDoor_29 : decode cX4_addDoor 29 = .ok (.iload 4, 2) := by decide +kernel
theorem dX4_addDoor_31 : decode cX4_addDoor 31 = .ok (.iconst 0, 1) := by decide +kernel
theorem dX4_addDoor_32 : decode cX4_addDoor 32 = .ok (.iconst 3, 1) := by decide +kernel
theorem dX4_addDoor_33 : decode cX4_addDoor 33 = .ok (.invokestatic 80, 3) := by decide +kernel
theorem dX4_addDoor_36 : decode cX4_addDoor 36 = .ok (.ifCond .ne 13, 3) := by decide +kernel
theorem dX4_addDoor_39 : decode cX4_addDoor 39 = .ok (.new 84, 3) := by decide +kernel
theorem dX4_addDoor_42 : decode cX4_addDoor 42 = .ok (.dup, 1) := by decide +kernel
theorem dX4_addDoor_43 : decode cX4_addDoor 43 = .ok (.ldc 86, 2) := by decide +kernel
theorem dX4_addDoor_45 : decode cX4_addDoor 45 = .ok (.invokespecial 88, 3) := by decide +kernel
theorem dX4_addDoor_48 : decode cX4_addDoor 48 = .ok (.athrow, 1) := by decide +kernel
theorem dX4_addDoor_49 : decode cX4_addDoor 49 = .ok (.aload_n 0, 1) := by decide +kernel
theorem dX4_addDoor_50 : decode cX4_addDoor 50 = .ok (.getfield 25, 3) := by decide +kernel
theorem dX4_addDoor_53 : decode cX4_addDoor 53 = .ok (.invokevirtual 47, 3) := by decide +kernel
theorem dX4_addDoor_56 : decode cX4_addDoor 56 = .ok (.istore 7, 2) := by decide +kernel
theorem dX4_addDoor_58 : decode cX4_addDoor 58 = .ok (.iload 7, 2) := by decide +kernel
theorem dX4_addDoor_60 : decode cX4_addDoor 60 = .ok (.bipush 12, 2) := by decide +kernel
theorem dX4_addDoor_62 : decode cX4_addDoor 62 = .ok (.if_icmp .lt 13, 3) := by decide +kernel
theorem dX4_addDoor_65 : decode cX4_addDoor 65 = .ok (.new 51, 3) := by decide +kernel
theorem dX4_addDoor_68 : decode cX4_addDoor 68 = .ok (.dup, 1) := by decide +kernel
theorem dX4_addDoor_69 : decode cX4_addDoor 69 = .ok (.ldc 89, 2) := by decide +kernel
theorem dX4_addDoor_71 : decode cX4_addDoor 71 = .ok (.invokespecial 55, 3) := by decide +kernel
theorem dX4_addDoor_74 : decode cX4_addDoor 74 = .ok (.athrow, 1) := by decide +kernel
theorem dX4_addDoor_75 : decode cX4_addDoor 75 = .ok (.aload_n 0, 1) := by decide +kernel
theorem dX4_addDoor_76 : decode cX4_addDoor 76 = .ok (.getfield 25, 3) := by decide +kernel
theorem dX4_addDoor_79 : decode cX4_addDoor 79 = .ok (.new 91, 3) := by decide +kernel
theorem dX4_addDoor_82 : decode cX4_addDoor 82 = .ok (.dup, 1) := by decide +kernel
theorem dX4_addDoor_83 : decode cX4_addDoor 83 = .ok (.aload 5, 2) := by decide +kernel
theorem dX4_addDoor_85 : decode cX4_addDoor 85 = .ok (.aload 6, 2) := by decide +kernel
theorem dX4_addDoor_87 : decode cX4_addDoor 87 = .ok (.iload_n 3, 1) := by decide +kernel
theorem dX4_addDoor_88 : decode cX4_addDoor 88 = .ok (.iload 4, 2) := by decide +kernel
theorem dX4_addDoor_90 : decode cX4_addDoor 90 = .ok (.invokespecial 93, 3) := by decide +kernel
theorem dX4_addDoor_93 : decode cX4_addDoor 93 = .ok (.invokevirtual 39, 3) := by decide +kernel
theorem dX4_addDoor_96 : decode cX4_addDoor 96 = .ok (.pop, 1) := by decide +kernel
theorem dX4_addDoor_97 : decode cX4_addDoor 97 = .ok (.iload 7, 2) := by decide +kernel
theorem dX4_addDoor_99 : decode cX4_addDoor 99 = .ok (.ireturn, 1) := by decide +kernel
theorem dX4_distance_0 : decode cX4_distance 0 = .ok (.aload_n 0, 1) := by decide +kernel
theorem dX4_distance_1 : decode cX4_distance 1 = .ok (.iload_n 1, 1) := by decide +kernel
theorem dX4_distance_2 : decode cX4_distance 2 = .ok (.invokevirtual 58, 3) := by decide +kernel
theorem dX4_distance_5 : decode cX4_distance 5 = .ok (.astore_n 2, 1) := by decide +kernel
theorem dX4_distance_6 : decode cX4_distance 6 = .ok (.aload_n 0, 1) := by decide +kernel
theorem dX4_distance_7 : decode cX4_distance 7 = .ok (.invokevirtual 96, 3) := by decide +kernel
theorem dX4_distance_10 : decode cX4_distance 10 = .ok (.aload_n 2, 1) := by decide +kernel
theorem dX4_distance_11 : decode cX4_distance 11 = .ok (.getfield 99, 3) := by decide +kernel
theorem dX4_distance_14 : decode cX4_distance 14 = .ok (.ireturn, 1) := by decide +kernel
theorem dX4_isOpen_0 : decode cX4_isOpen 0 = .ok (.aload_n 0, 1) := by decide +kernel
theorem dX4_isOpen_1 : decode cX4_isOpen 1 = .ok (.iload_n 1, 1) := by decide +kernel
theorem dX4_isOpen_2 : decode cX4_isOpen 2 = .ok (.invokevirtual 58, 3) := by decide +kernel
theorem dX4_isOpen_5 : decode cX4_isOpen 5 = .ok (.aload_n 0, 1) := by decide +kernel
theorem dX4_isOpen_6 : decode cX4_isOpen 6 = .ok (.getfield 31, 3) := by decide +kernel
theorem dX4_isOpen_9 : decode cX4_isOpen 9 = .ok (.invokevirtual 102, 3) := by decide +kernel
theorem dX4_isOpen_12 : decode cX4_isOpen 12 = .ok (.ireturn, 1) := by decide +kernel
theorem dX4_openFor_0 : decode cX4_openFor 0 = .ok (.aload_n 0, 1) := by decide +kernel
theorem dX4_openFor_1 : decode cX4_openFor 1 = .ok (.iload_n 1, 1) := by decide +kernel
theorem dX4_openFor_2 : decode cX4_openFor 2 = .ok (.invokevirtual 106, 3) := by decide +kernel
theorem dX4_openFor_5 : decode cX4_openFor 5 = .ok (.aload_n 0, 1) := by decide +kernel
theorem dX4_openFor_6 : decode cX4_openFor 6 = .ok (.getfield 31, 3) := by decide +kernel
theorem dX4_openFor_9 : decode cX4_openFor 9 = .ok (.invokevirtual 110, 3) := by decide +kernel
theorem dX4_openFor_12 : decode cX4_openFor 12 = .ok (.ireturn, 1) := by decide +kernel
theorem dX4_addBadge_0 : decode cX4_addBadge 0 = .ok (.iload_n 1, 1) := by decide +kernel
theorem dX4_addBadge_1 : decode cX4_addBadge 1 = .ok (.invokestatic 114, 3) := by decide +kernel
theorem dX4_addBadge_4 : decode cX4_addBadge 4 = .ok (.aload_n 0, 1) := by decide +kernel
theorem dX4_addBadge_5 : decode cX4_addBadge 5 = .ok (.aconst_null, 1) := by decide +kernel
theorem dX4_addBadge_6 : decode cX4_addBadge 6 = .ok (.iload_n 1, 1) := by decide +kernel
theorem dX4_addBadge_7 : decode cX4_addBadge 7 = .ok (.invokevirtual 118, 3) := by decide +kernel
theorem dX4_addBadge_10 : decode cX4_addBadge 10 = .ok (.ireturn, 1) := by decide +kernel
theorem dX4_addVisitor_0 : decode cX4_addVisitor 0 = .ok (.aload_n 0, 1) := by decide +kernel
theorem dX4_addVisitor_1 : decode cX4_addVisitor 1 = .ok (.iload_n 1, 1) := by decide +kernel
theorem dX4_addVisitor_2 : decode cX4_addVisitor 2 = .ok (.invokevirtual 122, 3) := by decide +kernel
theorem dX4_addVisitor_5 : decode cX4_addVisitor 5 = .ok (.astore_n 2, 1) := by decide +kernel
theorem dX4_addVisitor_6 : decode cX4_addVisitor 6 = .ok (.aload_n 2, 1) := by decide +kernel
theorem dX4_addVisitor_7 : decode cX4_addVisitor 7 = .ok (.getfield 126, 3) := by decide +kernel
theorem dX4_addVisitor_10 : decode cX4_addVisitor 10 = .ok (.ifnull 13, 3) := by decide +kernel
theorem dX4_addVisitor_13 : decode cX4_addVisitor 13 = .ok (.new 84, 3) := by decide +kernel
theorem dX4_addVisitor_16 : decode cX4_addVisitor 16 = .ok (.dup, 1) := by decide +kernel
theorem dX4_addVisitor_17 : decode cX4_addVisitor 17 = .ok (.ldc 132, 2) := by decide +kernel
theorem dX4_addVisitor_19 : decode cX4_addVisitor 19 = .ok (.invokespecial 88, 3) := by decide +kernel
theorem dX4_addVisitor_22 : decode cX4_addVisitor 22 = .ok (.athrow, 1) := by decide +kernel
theorem dX4_addVisitor_23 : decode cX4_addVisitor 23 = .ok (.aload_n 0, 1) := by decide +kernel
theorem dX4_addVisitor_24 : decode cX4_addVisitor 24 = .ok (.aload_n 2, 1) := by decide +kernel
theorem dX4_addVisitor_25 : decode cX4_addVisitor 25 = .ok (.iconst 0, 1) := by decide +kernel
theorem dX4_addVisitor_26 : decode cX4_addVisitor 26 = .ok (.invokevirtual 118, 3) := by decide +kernel
theorem dX4_addVisitor_29 : decode cX4_addVisitor 29 = .ok (.ireturn, 1) := by decide +kernel
theorem dX4_setRights_0 : decode cX4_setRights 0 = .ok (.aload_n 0, 1) := by decide +kernel
theorem dX4_setRights_1 : decode cX4_setRights 1 = .ok (.iload_n 1, 1) := by decide +kernel
theorem dX4_setRights_2 : decode cX4_setRights 2 = .ok (.invokevirtual 122, 3) := by decide +kernel
theorem dX4_setRights_5 : decode cX4_setRights 5 = .ok (.astore_n 3, 1) := by decide +kernel
theorem dX4_setRights_6 : decode cX4_setRights 6 = .ok (.iload_n 2, 1) := by decide +kernel
theorem dX4_setRights_7 : decode cX4_setRights 7 = .ok (.invokestatic 114, 3) := by decide +kernel
theorem dX4_setRights_10 : decode cX4_setRights 10 = .ok (.aload_n 3, 1) := by decide +kernel
theorem dX4_setRights_11 : decode cX4_setRights 11 = .ok (.getfield 126, 3) := by decide +kernel
theorem dX4_setRights_14 : decode cX4_setRights 14 = .ok (.ifnull 13, 3) := by decide +kernel
theorem dX4_setRights_17 : decode cX4_setRights 17 = .ok (.new 51, 3) := by decide +kernel
theorem dX4_setRights_20 : decode cX4_setRights 20 = .ok (.dup, 1) := by decide +kernel
theorem dX4_setRights_21 : decode cX4_setRights 21 = .ok (.ldc 134, 2) := by decide +kernel
theorem dX4_setRights_23 : decode cX4_setRights 23 = .ok (.invokespecial 55, 3) := by decide +kernel
theorem dX4_setRights_26 : decode cX4_setRights 26 = .ok (.athrow, 1) := by decide +kernel
theorem dX4_setRights_27 : decode cX4_setRights 27 = .ok (.aload_n 3, 1) := by decide +kernel
theorem dX4_setRights_28 : decode cX4_setRights 28 = .ok (.getfield 136, 3) := by decide +kernel
theorem dX4_setRights_31 : decode cX4_setRights 31 = .ok (.istore 4, 2) := by decide +kernel
theorem dX4_setRights_33 : decode cX4_setRights 33 = .ok (.aload_n 3, 1) := by decide +kernel
theorem dX4_setRights_34 : decode cX4_setRights 34 = .ok (.iload_n 2, 1) := by decide +kernel
theorem dX4_setRights_35 : decode cX4_setRights 35 = .ok (.putfield 136, 3) := by decide +kernel
theorem dX4_setRights_38 : decode cX4_setRights 38 = .ok (.iload 4, 2) := by decide +kernel
theorem dX4_setRights_40 : decode cX4_setRights 40 = .ok (.ireturn, 1) := by decide +kernel
theorem dX4_block_0 : decode cX4_block 0 = .ok (.aload_n 0, 1) := by decide +kernel
theorem dX4_block_1 : decode cX4_block 1 = .ok (.iload_n 1, 1) := by decide +kernel
theorem dX4_block_2 : decode cX4_block 2 = .ok (.invokevirtual 122, 3) := by decide +kernel
theorem dX4_block_5 : decode cX4_block 5 = .ok (.astore_n 3, 1) := by decide +kernel
theorem dX4_block_6 : decode cX4_block 6 = .ok (.aload_n 3, 1) := by decide +kernel
theorem dX4_block_7 : decode cX4_block 7 = .ok (.getfield 139, 3) := by decide +kernel
theorem dX4_block_10 : decode cX4_block 10 = .ok (.istore 4, 2) := by decide +kernel
theorem dX4_block_12 : decode cX4_block 12 = .ok (.aload_n 3, 1) := by decide +kernel
theorem dX4_block_13 : decode cX4_block 13 = .ok (.iload_n 2, 1) := by decide +kernel
theorem dX4_block_14 : decode cX4_block 14 = .ok (.putfield 139, 3) := by decide +kernel
theorem dX4_block_17 : decode cX4_block 17 = .ok (.aload_n 3, 1) := by decide +kernel
theorem dX4_block_18 : decode cX4_block 18 = .ok (.iconst 0, 1) := by decide +kernel
theorem dX4_block_19 : decode cX4_block 19 = .ok (.putfield 142, 3) := by decide +kernel
theorem dX4_block_22 : decode cX4_block 22 = .ok (.iload 4, 2) := by decide +kernel
theorem dX4_block_24 : decode cX4_block 24 = .ok (.ireturn, 1) := by decide +kernel
theorem dX4_badge_0 : decode cX4_badge 0 = .ok (.aload_n 0, 1) := by decide +kernel
theorem dX4_badge_1 : decode cX4_badge 1 = .ok (.iload_n 1, 1) := by decide +kernel
theorem dX4_badge_2 : decode cX4_badge 2 = .ok (.invokevirtual 122, 3) := by decide +kernel
theorem dX4_badge_5 : decode cX4_badge 5 = .ok (.astore_n 3, 1) := by decide +kernel
theorem dX4_badge_6 : decode cX4_badge 6 = .ok (.iload_n 2, 1) := by decide +kernel
theorem dX4_badge_7 : decode cX4_badge 7 = .ok (.iconst 0, 1) := by decide +kernel
theorem dX4_badge_8 : decode cX4_badge 8 = .ok (.iconst 4, 1) := by decide +kernel
theorem dX4_badge_9 : decode cX4_badge 9 = .ok (.invokestatic 80, 3) := by decide +kernel
theorem dX4_badge_12 : decode cX4_badge 12 = .ok (.ifCond .ne 13, 3) := by decide +kernel
theorem dX4_badge_15 : decode cX4_badge 15 = .ok (.new 62, 3) := by decide +kernel
theorem dX4_badge_18 : decode cX4_badge 18 = .ok (.dup, 1) := by decide +kernel
theorem dX4_badge_19 : decode cX4_badge 19 = .ok (.ldc 145, 2) := by decide +kernel
theorem dX4_badge_21 : decode cX4_badge 21 = .ok (.invokespecial 66, 3) := by decide +kernel
theorem dX4_badge_24 : decode cX4_badge 24 = .ok (.athrow, 1) := by decide +kernel
theorem dX4_badge_25 : decode cX4_badge 25 = .ok (.aload_n 3, 1) := by decide +kernel
theorem dX4_badge_26 : decode cX4_badge 26 = .ok (.iload_n 2, 1) := by decide +kernel
theorem dX4_badge_27 : decode cX4_badge 27 = .ok (.invokevirtual 147, 3) := by decide +kernel
theorem dX4_badge_30 : decode cX4_badge 30 = .ok (.ireturn, 1) := by decide +kernel
theorem dX4_tick_0 : decode cX4_tick 0 = .ok (.iload_n 1, 1) := by decide +kernel
theorem dX4_tick_1 : decode cX4_tick 1 = .ok (.iconst 1, 1) := by decide +kernel
theorem dX4_tick_2 : decode cX4_tick 2 = .ok (.sipush 2000, 3) := by decide +kernel
theorem dX4_tick_5 : decode cX4_tick 5 = .ok (.invokestatic 80, 3) := by decide +kernel
theorem dX4_tick_8 : decode cX4_tick 8 = .ok (.ifCond .ne 13, 3) := by decide +kernel
theorem dX4_tick_11 : decode cX4_tick 11 = .ok (.new 84, 3) := by decide +kernel
theorem dX4_tick_14 : decode cX4_tick 14 = .ok (.dup, 1) := by decide +kernel
theorem dX4_tick_15 : decode cX4_tick 15 = .ok (.ldc 150, 2) := by decide +kernel
theorem dX4_tick_17 : decode cX4_tick 17 = .ok (.invokespecial 88, 3) := by decide +kernel
theorem dX4_tick_20 : decode cX4_tick 20 = .ok (.athrow, 1) := by decide +kernel
theorem dX4_tick_21 : decode cX4_tick 21 = .ok (.iload_n 1, 1) := by decide +kernel
theorem dX4_tick_22 : decode cX4_tick 22 = .ok (.ldc 152, 2) := by decide +kernel
theorem dX4_tick_24 : decode cX4_tick 24 = .ok (.aload_n 0, 1) := by decide +kernel
theorem dX4_tick_25 : decode cX4_tick 25 = .ok (.getfield 31, 3) := by decide +kernel
theorem dX4_tick_28 : decode cX4_tick 28 = .ok (.isub, 1) := by decide +kernel
theorem dX4_tick_29 : decode cX4_tick 29 = .ok (.if_icmp .le 13, 3) := by decide +kernel
theorem dX4_tick_32 : decode cX4_tick 32 = .ok (.new 51, 3) := by decide +kernel
theorem dX4_tick_35 : decode cX4_tick 35 = .ok (.dup, 1) := by decide +kernel
theorem dX4_tick_36 : decode cX4_tick 36 = .ok (.ldc 153, 2) := by decide +kernel
theorem dX4_tick_38 : decode cX4_tick 38 = .ok (.invokespecial 55, 3) := by decide +kernel
theorem dX4_tick_41 : decode cX4_tick 41 = .ok (.athrow, 1) := by decide +kernel
theorem dX4_tick_42 : decode cX4_tick 42 = .ok (.aload_n 0, 1) := by decide +kernel
theorem dX4_tick_43 : decode cX4_tick 43 = .ok (.dup, 1) := by decide +kernel
theorem dX4_tick_44 : decode cX4_tick 44 = .ok (.getfield 31, 3) := by decide +kernel
theorem dX4_tick_47 : decode cX4_tick 47 = .ok (.iload_n 1, 1) := by decide +kernel
theorem dX4_tick_48 : decode cX4_tick 48 = .ok (.iadd, 1) := by decide +kernel
theorem dX4_tick_49 : decode cX4_tick 49 = .ok (.putfield 31, 3) := by decide +kernel
theorem dX4_tick_52 : decode cX4_tick 52 = .ok (.aload_n 0, 1) := by decide +kernel
theorem dX4_tick_53 : decode cX4_tick 53 = .ok (.getfield 31, 3) := by decide +kernel
theorem dX4_tick_56 : decode cX4_tick 56 = .ok (.ireturn, 1) := by decide +kernel
theorem dX4_alarm_0 : decode cX4_alarm 0 = .ok (.aload_n 0, 1) := by decide +kernel
theorem dX4_alarm_1 : decode cX4_alarm 1 = .ok (.getfield 35, 3) := by decide +kernel
theorem dX4_alarm_4 : decode cX4_alarm 4 = .ok (.istore_n 2, 1) := by decide +kernel
theorem dX4_alarm_5 : decode cX4_alarm 5 = .ok (.aload_n 0, 1) := by decide +kernel
theorem dX4_alarm_6 : decode cX4_alarm 6 = .ok (.iload_n 1, 1) := by decide +kernel
theorem dX4_alarm_7 : decode cX4_alarm 7 = .ok (.putfield 35, 3) := by decide +kernel
theorem dX4_alarm_10 : decode cX4_alarm 10 = .ok (.iload_n 2, 1) := by decide +kernel
theorem dX4_alarm_11 : decode cX4_alarm 11 = .ok (.ireturn, 1) := by decide +kernel
theorem dX4_request_0 : decode cX4_request 0 = .ok (.aload_n 0, 1) := by decide +kernel
theorem dX4_request_1 : decode cX4_request 1 = .ok (.iload_n 1, 1) := by decide +kernel
theorem dX4_request_2 : decode cX4_request 2 = .ok (.invokevirtual 122, 3) := by decide +kernel
theorem dX4_request_5 : decode cX4_request 5 = .ok (.astore_n 3, 1) := by decide +kernel
theorem dX4_request_6 : decode cX4_request 6 = .ok (.aload_n 0, 1) := by decide +kernel
theorem dX4_request_7 : decode cX4_request 7 = .ok (.iload_n 2, 1) := by decide +kernel
theorem dX4_request_8 : decode cX4_request 8 = .ok (.invokevirtual 106, 3) := by decide +kernel
theorem dX4_request_11 : decode cX4_request 11 = .ok (.astore 4, 2) := by decide +kernel
theorem dX4_request_13 : decode cX4_request 13 = .ok (.aload_n 0, 1) := by decide +kernel
theorem dX4_request_14 : decode cX4_request 14 = .ok (.aload_n 3, 1) := by decide +kernel
theorem dX4_request_15 : decode cX4_request 15 = .ok (.aload 4, 2) := by decide +kernel
theorem dX4_request_17 : decode cX4_request 17 = .ok (.invokevirtual 155, 3) := by decide +kernel
theorem dX4_request_20 : decode cX4_request 20 = .ok (.istore 5, 2) := by decide +kernel
theorem dX4_request_22 : decode cX4_request 22 = .ok (.iload 5, 2) := by decide +kernel
theorem dX4_request_24 : decode cX4_request 24 = .ok (.ifCond .ne 13, 3) := by decide +kernel
theorem dX4_request_27 : decode cX4_request 27 = .ok (.aload_n 0, 1) := by decide +kernel
theorem dX4_request_28 : decode cX4_request 28 = .ok (.aload_n 3, 1) := by decide +kernel
theorem dX4_request_29 : decode cX4_request 29 = .ok (.aload 4, 2) := by decide +kernel
theorem dX4_request_31 : decode cX4_request 31 = .ok (.invokevirtual 159, 3) := by decide +kernel
theorem dX4_request_34 : decode cX4_request 34 = .ok (.goto 14, 3) := by decide +kernel
theorem dX4_request_37 : decode cX4_request 37 = .ok (.iload 5, 2) := by decide +kernel
theorem dX4_request_39 : decode cX4_request 39 = .ok (.bipush 8, 2) := by decide +kernel
theorem dX4_request_41 : decode cX4_request 41 = .ok (.if_icmp .eq 7, 3) := by decide +kernel
theorem dX4_request_44 : decode cX4_request 44 = .ok (.aload_n 3, 1) := by decide +kernel
theorem dX4_request_45 : decode cX4_request 45 = .ok (.invokevirtual 163, 3) := by decide +kernel
theorem dX4_request_48 : decode cX4_request 48 = .ok (.iload 5, 2) := by decide +kernel
theorem dX4_request_50 : decode cX4_request 50 = .ok (.ireturn, 1) := by decide +kernel
theorem dX4_wouldBe_0 : decode cX4_wouldBe 0 = .ok (.aload_n 0, 1) := by decide +kernel
theorem dX4_wouldBe_1 : decode cX4_wouldBe 1 = .ok (.iload_n 1, 1) := by decide +kernel
theorem dX4_wouldBe_2 : decode cX4_wouldBe 2 = .ok (.invokevirtual 122, 3) := by decide +kernel
theorem dX4_wouldBe_5 : decode cX4_wouldBe 5 = .ok (.astore_n 3, 1) := by decide +kernel
theorem dX4_wouldBe_6 : decode cX4_wouldBe 6 = .ok (.aload_n 0, 1) := by decide +kernel
theorem dX4_wouldBe_7 : decode cX4_wouldBe 7 = .ok (.aload_n 3, 1) := by decide +kernel
theorem dX4_wouldBe_8 : decode cX4_wouldBe 8 = .ok (.aload_n 0, 1) := by decide +kernel
theorem dX4_wouldBe_9 : decode cX4_wouldBe 9 = .ok (.iload_n 2, 1) := by decide +kernel
theorem dX4_wouldBe_10 : decode cX4_wouldBe 10 = .ok (.invokevirtual 106, 3) := by decide +kernel
theorem dX4_wouldBe_13 : decode cX4_wouldBe 13 = .ok (.invokevirtual 155, 3) := by decide +kernel
theorem dX4_wouldBe_16 : decode cX4_wouldBe 16 = .ok (.ireturn, 1) := by decide +kernel
theorem dX4_now_0 : decode cX4_now 0 = .ok (.aload_n 0, 1) := by decide +kernel
theorem dX4_now_1 : decode cX4_now 1 = .ok (.getfield 31, 3) := by decide +kernel
theorem dX4_now_4 : decode cX4_now 4 = .ok (.ireturn, 1) := by decide +kernel
theorem dX4_inside_0 : decode cX4_inside 0 = .ok (.aload_n 0, 1) := by decide +kernel
theorem dX4_inside_1 : decode cX4_inside 1 = .ok (.aload_n 0, 1) := by decide +kernel
theorem dX4_inside_2 : decode cX4_inside 2 = .ok (.iload_n 1, 1) := by decide +kernel
theorem dX4_inside_3 : decode cX4_inside 3 = .ok (.invokevirtual 58, 3) := by decide +kernel
theorem dX4_inside_6 : decode cX4_inside 6 = .ok (.invokevirtual 166, 3) := by decide +kernel
theorem dX4_inside_9 : decode cX4_inside 9 = .ok (.ireturn, 1) := by decide +kernel
theorem dX4_alone_0 : decode cX4_alone 0 = .ok (.iconst 0, 1) := by decide +kernel
theorem dX4_alone_1 : decode cX4_alone 1 = .ok (.istore_n 1, 1) := by decide +kernel
theorem dX4_alone_2 : decode cX4_alone 2 = .ok (.iconst 0, 1) := by decide +kernel
theorem dX4_alone_3 : decode cX4_alone 3 = .ok (.istore_n 2, 1) := by decide +kernel
theorem dX4_alone_4 : decode cX4_alone 4 = .ok (.iload_n 2, 1) := by decide +kernel
theorem dX4_alone_5 : decode cX4_alone 5 = .ok (.aload_n 0, 1) := by decide +kernel
theorem dX4_alone_6 : decode cX4_alone 6 = .ok (.getfield 28, 3) := by decide +kernel
theorem dX4_alone_9 : decode cX4_alone 9 = .ok (.invokevirtual 47, 3) := by decide +kernel
theorem dX4_alone_12 : decode cX4_alone 12 = .ok (.if_icmp .ge 36, 3) := by decide +kernel
theorem dX4_alone_15 : decode cX4_alone 15 = .ok (.aload_n 0, 1) := by decide +kernel
theorem dX4_alone_16 : decode cX4_alone 16 = .ok (.getfield 28, 3) := by decide +kernel
theorem dX4_alone_19 : decode cX4_alone 19 = .ok (.iload_n 2, 1) := by decide +kernel
theorem dX4_alone_20 : decode cX4_alone 20 = .ok (.invokevirtual 169, 3) := by decide +kernel
theorem dX4_alone_23 : decode cX4_alone 23 = .ok (.checkcast 127, 3) := by decide +kernel
theorem dX4_alone_26 : decode cX4_alone 26 = .ok (.aload_n 0, 1) := by decide +kernel
theorem dX4_alone_27 : decode cX4_alone 27 = .ok (.getfield 14, 3) := by decide +kernel
theorem dX4_alone_30 : decode cX4_alone 30 = .ok (.invokevirtual 173, 3) := by decide +kernel
theorem dX4_alone_33 : decode cX4_alone 33 = .ok (.ifCond .eq 9, 3) := by decide +kernel
theorem dX4_alone_36 : decode cX4_alone 36 = .ok (.iload_n 1, 1) := by decide +kernel
theorem dX4_alone_37 : decode cX4_alone 37 = .ok (.iconst 1, 1) := by decide +kernel
theorem dX4_alone_38 : decode cX4_alone 38 = .ok (.iload_n 2, 1) := by decide +kernel
theorem dX4_alone_39 : decode cX4_alone 39 = .ok (.ishl, 1) := by decide +kernel
theorem dX4_alone_40 : decode cX4_alone 40 = .ok (.ior, 1) := by decide +kernel
theorem dX4_alone_41 : decode cX4_alone 41 = .ok (.istore_n 1, 1) := by decide +kernel
theorem dX4_alone_42 : decode cX4_alone 42 = .ok (.iinc 2 1, 3) := by decide +kernel
theorem dX4_alone_45 : decode cX4_alone 45 = .ok (.goto (-41), 3) := by decide +kernel
theorem dX4_alone_48 : decode cX4_alone 48 = .ok (.iload_n 1, 1) := by decide +kernel
theorem dX4_alone_49 : decode cX4_alone 49 = .ok (.ireturn, 1) := by decide +kernel
theorem dX4_wasIn_0 : decode cX4_wasIn 0 = .ok (.aload_n 0, 1) := by decide +kernel
theorem dX4_wasIn_1 : decode cX4_wasIn 1 = .ok (.iload_n 1, 1) := by decide +kernel
theorem dX4_wasIn_2 : decode cX4_wasIn 2 = .ok (.invokevirtual 122, 3) := by decide +kernel
theorem dX4_wasIn_5 : decode cX4_wasIn 5 = .ok (.astore_n 3, 1) := by decide +kernel
theorem dX4_wasIn_6 : decode cX4_wasIn 6 = .ok (.iload_n 2, 1) := by decide +kernel
theorem dX4_wasIn_7 : decode cX4_wasIn 7 = .ok (.iconst 0, 1) := by decide +kernel
theorem dX4_wasIn_8 : decode cX4_wasIn 8 = .ok (.aload_n 0, 1) := by decide +kernel
theorem dX4_wasIn_9 : decode cX4_wasIn 9 = .ok (.getfield 31, 3) := by decide +kernel
theorem dX4_wasIn_12 : decode cX4_wasIn 12 = .ok (.invokestatic 80, 3) := by decide +kernel
theorem dX4_wasIn_15 : decode cX4_wasIn 15 = .ok (.ifCond .ne 13, 3) := by decide +kernel
theorem dX4_wasIn_18 : decode cX4_wasIn 18 = .ok (.new 84, 3) := by decide +kernel
theorem dX4_wasIn_21 : decode cX4_wasIn 21 = .ok (.dup, 1) := by decide +kernel
theorem dX4_wasIn_22 : decode cX4_wasIn 22 = .ok (.ldc 177, 2) := by decide +kernel
theorem dX4_wasIn_24 : decode cX4_wasIn 24 = .ok (.invokespecial 88, 3) := by decide +kernel
theorem dX4_wasIn_27 : decode cX4_wasIn 27 = .ok (.athrow, 1) := by decide +kernel
theorem dX4_wasIn_28 : decode cX4_wasIn 28 = .ok (.aload_n 3, 1) := by decide +kernel
theorem dX4_wasIn_29 : decode cX4_wasIn 29 = .ok (.iload_n 2, 1) := by decide +kernel
theorem dX4_wasIn_30 : decode cX4_wasIn 30 = .ok (.invokevirtual 179, 3) := by decide +kernel
theorem dX4_wasIn_33 : decode cX4_wasIn 33 = .ok (.getfield 182, 3) := by decide +kernel
theorem dX4_wasIn_36 : decode cX4_wasIn 36 = .ok (.ireturn, 1) := by decide +kernel
theorem dX4_minutesIn_0 : decode cX4_minutesIn 0 = .ok (.aload_n 0, 1) := by decide +kernel
theorem dX4_minutesIn_1 : decode cX4_minutesIn 1 = .ok (.iload_n 1, 1) := by decide +kernel
theorem dX4_minutesIn_2 : decode cX4_minutesIn 2 = .ok (.invokevirtual 122, 3) := by decide +kernel
theorem dX4_minutesIn_5 : decode cX4_minutesIn 5 = .ok (.astore_n 3, 1) := by decide +kernel
theorem dX4_minutesIn_6 : decode cX4_minutesIn 6 = .ok (.aload_n 3, 1) := by decide +kernel
theorem dX4_minutesIn_7 : decode cX4_minutesIn 7 = .ok (.aload_n 0, 1) := by decide +kernel
theorem dX4_minutesIn_8 : decode cX4_minutesIn 8 = .ok (.iload_n 2, 1) := by decide +kernel
theorem dX4_minutesIn_9 : decode cX4_minutesIn 9 = .ok (.invokevirtual 58, 3) := by decide +kernel
theorem dX4_minutesIn_12 : decode cX4_minutesIn 12 = .ok (.aload_n 0, 1) := by decide +kernel
theorem dX4_minutesIn_13 : decode cX4_minutesIn 13 = .ok (.getfield 31, 3) := by decide +kernel
theorem dX4_minutesIn_16 : decode cX4_minutesIn 16 = .ok (.invokevirtual 185, 3) := by decide +kernel
theorem dX4_minutesIn_19 : decode cX4_minutesIn 19 = .ok (.ireturn, 1) := by decide +kernel
theorem dX4_presence_0 : decode cX4_presence 0 = .ok (.aload_n 0, 1) := by decide +kernel
theorem dX4_presence_1 : decode cX4_presence 1 = .ok (.getfield 28, 3) := by decide +kernel
theorem dX4_presence_4 : decode cX4_presence 4 = .ok (.invokevirtual 47, 3) := by decide +kernel
theorem dX4_presence_7 : decode cX4_presence 7 = .ok (.istore_n 1, 1) := by decide +kernel
theorem dX4_presence_8 : decode cX4_presence 8 = .ok (.iload_n 1, 1) := by decide +kernel
theorem dX4_presence_9 : decode cX4_presence 9 = .ok (.ifCond .ne 5, 3) := by decide +kernel
theorem dX4_presence_12 : decode cX4_presence 12 = .ok (.dconst 0, 1) := by decide +kernel
theorem dX4_presence_13 : decode cX4_presence 13 = .ok (.dreturn, 1) := by decide +kernel
theorem dX4_presence_14 : decode cX4_presence 14 = .ok (.iload_n 1, 1) := by decide +kernel
theorem dX4_presence_15 : decode cX4_presence 15 = .ok (.aload_n 0, 1) := by decide +kernel
theorem dX4_presence_16 : decode cX4_presence 16 = .ok (.aload_n 0, 1) := by decide +kernel
theorem dX4_presence_17 : decode cX4_presence 17 = .ok (.getfield 14, 3) := by decide +kernel
theorem dX4_presence_20 : decode cX4_presence 20 = .ok (.invokevirtual 76, 3) := by decide +kernel
theorem dX4_presence_23 : decode cX4_presence 23 = .ok (.isub, 1) := by decide +kernel
theorem dX4_presence_24 : decode cX4_presence 24 = .ok (.i2d, 1) := by decide +kernel
theorem dX4_presence_25 : decode cX4_presence 25 = .ok (.iload_n 1, 1) := by decide +kernel
theorem dX4_presence_26 : decode cX4_presence 26 = .ok (.i2d, 1) := by decide +kernel
theorem dX4_presence_27 : decode cX4_presence 27 = .ok (.ddiv, 1) := by decide +kernel
theorem dX4_presence_28 : decode cX4_presence 28 = .ok (.dreturn, 1) := by decide +kernel
theorem dX4_way_0 : decode cX4_way 0 = .ok (.aload_n 0, 1) := by decide +kernel
theorem dX4_way_1 : decode cX4_way 1 = .ok (.iload_n 1, 1) := by decide +kernel
theorem dX4_way_2 : decode cX4_way 2 = .ok (.invokevirtual 122, 3) := by decide +kernel
theorem dX4_way_5 : decode cX4_way 5 = .ok (.astore_n 3, 1) := by decide +kernel
theorem dX4_way_6 : decode cX4_way 6 = .ok (.aload_n 0, 1) := by decide +kernel
theorem dX4_way_7 : decode cX4_way 7 = .ok (.aload_n 3, 1) := by decide +kernel
theorem dX4_way_8 : decode cX4_way 8 = .ok (.aload_n 0, 1) := by decide +kernel
theorem dX4_way_9 : decode cX4_way 9 = .ok (.iload_n 2, 1) := by decide +kernel
theorem dX4_way_10 : decode cX4_way 10 = .ok (.invokevirtual 58, 3) := by decide +kernel
theorem dX4_way_13 : decode cX4_way 13 = .ok (.invokevirtual 189, 3) := by decide +kernel
theorem dX4_way_16 : decode cX4_way 16 = .ok (.aload_n 3, 1) := by decide +kernel
theorem dX4_way_17 : decode cX4_way 17 = .ok (.getfield 193, 3) := by decide +kernel
theorem dX4_way_20 : decode cX4_way 20 = .ok (.getfield 197, 3) := by decide +kernel
theorem dX4_way_23 : decode cX4_way 23 = .ok (.getfield 99, 3) := by decide +kernel
theorem dX4_way_26 : decode cX4_way 26 = .ok (.ireturn, 1) := by decide +kernel
theorem dX4_next_0 : decode cX4_next 0 = .ok (.aload_n 0, 1) := by decide +kernel
theorem dX4_next_1 : decode cX4_next 1 = .ok (.iload_n 1, 1) := by decide +kernel
theorem dX4_next_2 : decode cX4_next 2 = .ok (.invokevirtual 122, 3) := by decide +kernel
theorem dX4_next_5 : decode cX4_next 5 = .ok (.astore_n 3, 1) := by decide +kernel
theorem dX4_next_6 : decode cX4_next 6 = .ok (.aload_n 0, 1) := by decide +kernel
theorem dX4_next_7 : decode cX4_next 7 = .ok (.aload_n 3, 1) := by decide +kernel
theorem dX4_next_8 : decode cX4_next 8 = .ok (.aload_n 0, 1) := by decide +kernel
theorem dX4_next_9 : decode cX4_next 9 = .ok (.iload_n 2, 1) := by decide +kernel
theorem dX4_next_10 : decode cX4_next 10 = .ok (.invokevirtual 58, 3) := by decide +kernel
theorem dX4_next_13 : decode cX4_next 13 = .ok (.invokevirtual 189, 3) := by decide +kernel
theorem dX4_next_16 : decode cX4_next 16 = .ok (.aload_n 0, 1) := by decide +kernel
theorem dX4_next_17 : decode cX4_next 17 = .ok (.aload_n 3, 1) := by decide +kernel
theorem dX4_next_18 : decode cX4_next 18 = .ok (.getfield 193, 3) := by decide +kernel
theorem dX4_next_21 : decode cX4_next 21 = .ok (.getfield 197, 3) := by decide +kernel
theorem dX4_next_24 : decode cX4_next 24 = .ok (.invokevirtual 202, 3) := by decide +kernel
theorem dX4_next_27 : decode cX4_next 27 = .ok (.ireturn, 1) := by decide +kernel
theorem dX4_canCome_0 : decode cX4_canCome 0 = .ok (.aload_n 0, 1) := by decide +kernel
theorem dX4_canCome_1 : decode cX4_canCome 1 = .ok (.iload_n 1, 1) := by decide +kernel
theorem dX4_canCome_2 : decode cX4_canCome 2 = .ok (.invokevirtual 58, 3) := by decide +kernel
theorem dX4_canCome_5 : decode cX4_canCome 5 = .ok (.astore_n 2, 1) := by decide +kernel
theorem dX4_canCome_6 : decode cX4_canCome 6 = .ok (.iconst 0, 1) := by decide +kernel
theorem dX4_canCome_7 : decode cX4_canCome 7 = .ok (.istore_n 3, 1) := by decide +kernel
theorem dX4_canCome_8 : decode cX4_canCome 8 = .ok (.iconst 0, 1) := by decide +kernel
theorem dX4_canCome_9 : decode cX4_canCome 9 = .ok (.istore 4, 2) := by decide +kernel
theorem dX4_canCome_11 : decode cX4_canCome 11 = .ok (.iload 4, 2) := by decide +kernel
theorem dX4_canCome_13 : decode cX4_canCome 13 = .ok (.aload_n 0, 1) := by decide +kernel
theorem dX4_canCome_14 : decode cX4_canCome 14 = .ok (.getfield 28, 3) := by decide +kernel
theorem dX4_canCome_17 : decode cX4_canCome 17 = .ok (.invokevirtual 47, 3) := by decide +kernel
theorem dX4_canCome_20 : decode cX4_canCome 20 = .ok (.if_icmp .ge 52, 3) := by decide +kernel
theorem dX4_canCome_23 : decode cX4_canCome 23 = .ok (.aload_n 0, 1) := by decide +kernel
theorem dX4_canCome_24 : decode cX4_canCome 24 = .ok (.getfield 28, 3) := by decide +kernel
theorem dX4_canCome_27 : decode cX4_canCome 27 = .ok (.iload 4, 2) := by decide +kernel
theorem dX4_canCome_29 : decode cX4_canCome 29 = .ok (.invokevirtual 169, 3) := by decide +kernel
theorem dX4_canCome_32 : decode cX4_canCome 32 = .ok (.checkcast 127, 3) := by decide +kernel
theorem dX4_canCome_35 : decode cX4_canCome 35 = .ok (.astore 5, 2) := by decide +kernel
theorem dX4_canCome_37 : decode cX4_canCome 37 = .ok (.aload_n 0, 1) := by decide +kernel
theorem dX4_canCome_38 : decode cX4_canCome 38 = .ok (.aload 5, 2) := by decide +kernel
theorem dX4_canCome_40 : decode cX4_canCome 40 = .ok (.aload_n 2, 1) := by decide +kernel
theorem dX4_canCome_41 : decode cX4_canCome 41 = .ok (.invokevirtual 189, 3) := by decide +kernel
theorem dX4_canCome_44 : decode cX4_canCome 44 = .ok (.aload 5, 2) := by decide +kernel
theorem dX4_canCome_46 : decode cX4_canCome 46 = .ok (.getfield 193, 3) := by decide +kernel
theorem dX4_canCome_49 : decode cX4_canCome 49 = .ok (.getfield 197, 3) := by decide +kernel
theorem dX4_canCome_52 : decode cX4_canCome 52 = .ok (.getfield 99, 3) := by decide +kernel
theorem dX4_canCome_55 : decode cX4_canCome 55 = .ok (.iconst (-1), 1) := by decide +kernel
theorem dX4_canCome_56 : decode cX4_canCome 56 = .ok (.if_icmp .eq 10, 3) := by decide +kernel
theorem dX4_canCome_59 : decode cX4_canCome 59 = .ok (.iload_n 3, 1) := by decide +kernel
theorem dX4_canCome_60 : decode cX4_canCome 60 = .ok (.iconst 1, 1) := by decide +kernel
theorem dX4_canCome_61 : decode cX4_canCome 61 = .ok (.iload 4, 2) := by decide +kernel
theorem dX4_canCome_63 : decode cX4_canCome 63 = .ok (.ishl, 1) := by decide +kernel
theorem dX4_canCome_64 : decode cX4_canCome 64 = .ok (.ior, 1) := by decide +kernel
theorem dX4_canCome_65 : decode cX4_canCome 65 = .ok (.istore_n 3, 1) := by decide +kernel
theorem dX4_canCome_66 : decode cX4_canCome 66 = .ok (.iinc 4 1, 3) := by decide +kernel
theorem dX4_canCome_69 : decode cX4_canCome 69 = .ok (.goto (-58), 3) := by decide +kernel
theorem dX4_canCome_72 : decode cX4_canCome 72 = .ok (.iload_n 3, 1) := by decide +kernel
theorem dX4_canCome_73 : decode cX4_canCome 73 = .ok (.ireturn, 1) := by decide +kernel
theorem dX4_digest_0 : decode cX4_digest 0 = .ok (.ldc2_w 205, 3) := by decide +kernel
theorem dX4_digest_3 : decode cX4_digest 3 = .ok (.aload_n 0, 1) := by decide +kernel
theorem dX4_digest_4 : decode cX4_digest 4 = .ok (.getfield 31, 3) := by decide +kernel
theorem dX4_digest_7 : decode cX4_digest 7 = .ok (.invokestatic 207, 3) := by decide +kernel
theorem dX4_digest_10 : decode cX4_digest 10 = .ok (.lstore_n 1, 1) := by decide +kernel
theorem dX4_digest_11 : decode cX4_digest 11 = .ok (.lload_n 1, 1) := by decide +kernel
theorem dX4_digest_12 : decode cX4_digest 12 = .ok (.aload_n 0, 1) := by decide +kernel
theorem dX4_digest_13 : decode cX4_digest 13 = .ok (.getfield 35, 3) := by decide +kernel
theorem dX4_digest_16 : decode cX4_digest 16 = .ok (.ifCond .eq 7, 3) := by decide +kernel
theorem dX4_digest_19 : decode cX4_digest 19 = .ok (.iconst 1, 1) := by decide +kernel
theorem dX4_digest_20 : decode cX4_digest 20 = .ok (.goto 4, 3) := by decide +kernel
theorem dX4_digest_23 : decode cX4_digest 23 = .ok (.iconst 0, 1) := by decide +kernel
theorem dX4_digest_24 : decode cX4_digest 24 = .ok (.invokestatic 207, 3) := by decide +kernel
theorem dX4_digest_27 : decode cX4_digest 27 = .ok (.lstore_n 1, 1) := by decide +kernel
theorem dX4_digest_28 : decode cX4_digest 28 = .ok (.lload_n 1, 1) := by decide +kernel
theorem dX4_digest_29 : decode cX4_digest 29 = .ok (.aload_n 0, 1) := by decide +kernel
theorem dX4_digest_30 : decode cX4_digest 30 = .ok (.getfield 21, 3) := by decide +kernel
theorem dX4_digest_33 : decode cX4_digest 33 = .ok (.invokevirtual 47, 3) := by decide +kernel
theorem dX4_digest_36 : decode cX4_digest 36 = .ok (.invokestatic 207, 3) := by decide +kernel
theorem dX4_digest_39 : decode cX4_digest 39 = .ok (.lstore_n 1, 1) := by decide +kernel
theorem dX4_digest_40 : decode cX4_digest 40 = .ok (.iconst 0, 1) := by decide +kernel
theorem dX4_digest_41 : decode cX4_digest 41 = .ok (.istore_n 3, 1) := by decide +kernel
theorem dX4_digest_42 : decode cX4_digest 42 = .ok (.iload_n 3, 1) := by decide +kernel
theorem dX4_digest_43 : decode cX4_digest 43 = .ok (.aload_n 0, 1) := by decide +kernel
theorem dX4_digest_44 : decode cX4_digest 44 = .ok (.getfield 21, 3) := by decide +kernel
theorem dX4_digest_47 : decode cX4_digest 47 = .ok (.invokevirtual 47, 3) := by decide +kernel
theorem dX4_digest_50 : decode cX4_digest 50 = .ok (.if_icmp .ge 55, 3) := by decide +kernel
theorem dX4_digest_53 : decode cX4_digest 53 = .ok (.aload_n 0, 1) := by decide +kernel
theorem dX4_digest_54 : decode cX4_digest 54 = .ok (.getfield 21, 3) := by decide +kernel
theorem dX4_digest_57 : decode cX4_digest 57 = .ok (.iload_n 3, 1) := by decide +kernel
theorem dX4_digest_58 : decode cX4_digest 58 = .ok (.invokevirtual 169, 3) := by decide +kernel
theorem dX4_digest_61 : decode cX4_digest 61 = .ok (.checkcast 9, 3) := by decide +kernel
theorem dX4_digest_64 : decode cX4_digest 64 = .ok (.astore 4, 2) := by decide +kernel
theorem dX4_digest_66 : decode cX4_digest 66 = .ok (.lload_n 1, 1) := by decide +kernel
theorem dX4_digest_67 : decode cX4_digest 67 = .ok (.aload 4, 2) := by decide +kernel
theorem dX4_digest_69 : decode cX4_digest 69 = .ok (.aload_n 0, 1) := by decide +kernel
theorem dX4_digest_70 : decode cX4_digest 70 = .ok (.getfield 31, 3) := by decide +kernel
theorem dX4_digest_73 : decode cX4_digest 73 = .ok (.invokevirtual 102, 3) := by decide +kernel
theorem dX4_digest_76 : decode cX4_digest 76 = .ok (.ifCond .eq 7, 3) := by decide +kernel
theorem dX4_digest_79 : decode cX4_digest 79 = .ok (.iconst 1, 1) := by decide +kernel
theorem dX4_digest_80 : decode cX4_digest 80 = .ok (.goto 4, 3) := by decide +kernel
theorem dX4_digest_83 : decode cX4_digest 83 = .ok (.iconst 0, 1) := by decide +kernel
theorem dX4_digest_84 : decode cX4_digest 84 = .ok (.invokestatic 207, 3) := by decide +kernel
theorem dX4_digest_87 : decode cX4_digest 87 = .ok (.lstore_n 1, 1) := by decide +kernel
theorem dX4_digest_88 : decode cX4_digest 88 = .ok (.lload_n 1, 1) := by decide +kernel
theorem dX4_digest_89 : decode cX4_digest 89 = .ok (.aload_n 0, 1) := by decide +kernel
theorem dX4_digest_90 : decode cX4_digest 90 = .ok (.aload 4, 2) := by decide +kernel
theorem dX4_digest_92 : decode cX4_digest 92 = .ok (.invokevirtual 166, 3) := by decide +kernel
theorem dX4_digest_95 : decode cX4_digest 95 = .ok (.invokestatic 207, 3) := by decide +kernel
theorem dX4_digest_98 : decode cX4_digest 98 = .ok (.lstore_n 1, 1) := by decide +kernel
theorem dX4_digest_99 : decode cX4_digest 99 = .ok (.iinc 3 1, 3) := by decide +kernel
theorem dX4_digest_102 : decode cX4_digest 102 = .ok (.goto (-60), 3) := by decide +kernel
theorem dX4_digest_105 : decode cX4_digest 105 = .ok (.lload_n 1, 1) := by decide +kernel
theorem dX4_digest_106 : decode cX4_digest 106 = .ok (.aload_n 0, 1) := by decide +kernel
theorem dX4_digest_107 : decode cX4_digest 107 = .ok (.getfield 25, 3) := by decide +kernel
theorem dX4_digest_110 : decode cX4_digest 110 = .ok (.invokevirtual 47, 3) := by decide +kernel
theorem dX4_digest_113 : decode cX4_digest 113 = .ok (.invokestatic 207, 3) := by decide +kernel
theorem dX4_digest_116 : decode cX4_digest 116 = .ok (.lstore_n 1, 1) := by decide +kernel
theorem dX4_digest_117 : decode cX4_digest 117 = .ok (.iconst 0, 1) := by decide +kernel
theorem dX4_digest_118 : decode cX4_digest 118 = .ok (.istore_n 3, 1) := by decide +kernel
theorem dX4_digest_119 : decode cX4_digest 119 = .ok (.iload_n 3, 1) := by decide +kernel
theorem dX4_digest_120 : decode cX4_digest 120 = .ok (.aload_n 0, 1) := by decide +kernel
theorem dX4_digest_121 : decode cX4_digest 121 = .ok (.getfield 25, 3) := by decide +kernel
theorem dX4_digest_124 : decode cX4_digest 124 = .ok (.invokevirtual 47, 3) := by decide +kernel
theorem dX4_digest_127 : decode cX4_digest 127 = .ok (.if_icmp .ge 32, 3) := by decide +kernel
theorem dX4_digest_130 : decode cX4_digest 130 = .ok (.lload_n 1, 1) := by decide +kernel
theorem dX4_digest_131 : decode cX4_digest 131 = .ok (.aload_n 0, 1) := by decide +kernel
theorem dX4_digest_132 : decode cX4_digest 132 = .ok (.getfield 25, 3) := by decide +kernel
theorem dX4_digest_135 : decode cX4_digest 135 = .ok (.iload_n 3, 1) := by decide +kernel
theorem dX4_digest_136 : decode cX4_digest 136 = .ok (.invokevirtual 169, 3) := by decide +kernel
theorem dX4_digest_139 : decode cX4_digest 139 = .ok (.checkcast 91, 3) := by decide +kernel
theorem dX4_digest_142 : decode cX4_digest 142 = .ok (.aload_n 0, 1) := by decide +kernel
theorem dX4_digest_143 : decode cX4_digest 143 = .ok (.getfield 31, 3) := by decide +kernel
theorem dX4_digest_146 : decode cX4_digest 146 = .ok (.invokevirtual 110, 3) := by decide +kernel
theorem dX4_digest_149 : decode cX4_digest 149 = .ok (.invokestatic 207, 3) := by decide +kernel
theorem dX4_digest_152 : decode cX4_digest 152 = .ok (.lstore_n 1, 1) := by decide +kernel
theorem dX4_digest_153 : decode cX4_digest 153 = .ok (.iinc 3 1, 3) := by decide +kernel
theorem dX4_digest_156 : decode cX4_digest 156 = .ok (.goto (-37), 3) := by decide +kernel
theorem dX4_digest_159 : decode cX4_digest 159 = .ok (.lload_n 1, 1) := by decide +kernel
theorem dX4_digest_160 : decode cX4_digest 160 = .ok (.aload_n 0, 1) := by decide +kernel
theorem dX4_digest_161 : decode cX4_digest 161 = .ok (.getfield 28, 3) := by decide +kernel
theorem dX4_digest_164 : decode cX4_digest 164 = .ok (.invokevirtual 47, 3) := by decide +kernel
theorem dX4_digest_167 : decode cX4_digest 167 = .ok (.invokestatic 207, 3) := by decide +kernel
theorem dX4_digest_170 : decode cX4_digest 170 = .ok (.lstore_n 1, 1) := by decide +kernel
theorem dX4_digest_171 : decode cX4_digest 171 = .ok (.iconst 0, 1) := by decide +kernel
theorem dX4_digest_172 : decode cX4_digest 172 = .ok (.istore_n 3, 1) := by decide +kernel
theorem dX4_digest_173 : decode cX4_digest 173 = .ok (.iload_n 3, 1) := by decide +kernel
theorem dX4_digest_174 : decode cX4_digest 174 = .ok (.aload_n 0, 1) := by decide +kernel
theorem dX4_digest_175 : decode cX4_digest 175 = .ok (.getfield 28, 3) := by decide +kernel
theorem dX4_digest_178 : decode cX4_digest 178 = .ok (.invokevirtual 47, 3) := by decide +kernel
theorem dX4_digest_181 : decode cX4_digest 181 = .ok (.if_icmp .ge 49, 3) := by decide +kernel
theorem dX4_digest_184 : decode cX4_digest 184 = .ok (.aload_n 0, 1) := by decide +kernel
theorem dX4_digest_185 : decode cX4_digest 185 = .ok (.getfield 28, 3) := by decide +kernel
theorem dX4_digest_188 : decode cX4_digest 188 = .ok (.iload_n 3, 1) := by decide +kernel
theorem dX4_digest_189 : decode cX4_digest 189 = .ok (.invokevirtual 169, 3) := by decide +kernel
theorem dX4_digest_192 : decode cX4_digest 192 = .ok (.checkcast 127, 3) := by decide +kernel
theorem dX4_digest_195 : decode cX4_digest 195 = .ok (.astore 4, 2) := by decide +kernel
theorem dX4_digest_197 : decode cX4_digest 197 = .ok (.iconst 0, 1) := by decide +kernel
theorem dX4_digest_198 : decode cX4_digest 198 = .ok (.istore 5, 2) := by decide +kernel
theorem dX4_digest_200 : decode cX4_digest 200 = .ok (.iload 5, 2) := by decide +kernel
theorem dX4_digest_202 : decode cX4_digest 202 = .ok (.iconst 4, 1) := by decide +kernel
theorem dX4_digest_203 : decode cX4_digest 203 = .ok (.if_icmp .gt 21, 3) := by decide +kernel
theorem dX4_digest_206 : decode cX4_digest 206 = .ok (.lload_n 1, 1) := by decide +kernel
theorem dX4_digest_207 : decode cX4_digest 207 = .ok (.aload 4, 2) := by decide +kernel
theorem dX4_digest_209 : decode cX4_digest 209 = .ok (.iload 5, 2) := by decide +kernel
theorem dX4_digest_211 : decode cX4_digest 211 = .ok (.invokevirtual 147, 3) := by decide +kernel
theorem dX4_digest_214 : decode cX4_digest 214 = .ok (.invokestatic 207, 3) := by decide +kernel
theorem dX4_digest_217 : decode cX4_digest 217 = .ok (.lstore_n 1, 1) := by decide +kernel
theorem dX4_digest_218 : decode cX4_digest 218 = .ok (.iinc 5 1, 3) := by decide +kernel
theorem dX4_digest_221 : decode cX4_digest 221 = .ok (.goto (-21), 3) := by decide +kernel
theorem dX4_digest_224 : decode cX4_digest 224 = .ok (.iinc 3 1, 3) := by decide +kernel
theorem dX4_digest_227 : decode cX4_digest 227 = .ok (.goto (-54), 3) := by decide +kernel
theorem dX4_digest_230 : decode cX4_digest 230 = .ok (.lload_n 1, 1) := by decide +kernel
theorem dX4_digest_231 : decode cX4_digest 231 = .ok (.lreturn, 1) := by decide +kernel
theorem dX4_isWithin_0 : decode cX4_isWithin 0 = .ok (.iload_n 0, 1) := by decide +kernel
theorem dX4_isWithin_1 : decode cX4_isWithin 1 = .ok (.iload_n 1, 1) := by decide +kernel
theorem dX4_isWithin_2 : decode cX4_isWithin 2 = .ok (.if_icmp .lt 12, 3) := by decide +kernel
theorem dX4_isWithin_5 : decode cX4_isWithin 5 = .ok (.iload_n 0, 1) := by decide +kernel
theorem dX4_isWithin_6 : decode cX4_isWithin 6 = .ok (.iload_n 2, 1) := by decide +kernel
theorem dX4_isWithin_7 : decode cX4_isWithin 7 = .ok (.if_icmp .gt 7, 3) := by decide +kernel
theorem dX4_isWithin_10 : decode cX4_isWithin 10 = .ok (.iconst 1, 1) := by decide +kernel
theorem dX4_isWithin_11 : decode cX4_isWithin 11 = .ok (.goto 4, 3) := by decide +kernel
theorem dX4_isWithin_14 : decode cX4_isWithin 14 = .ok (.iconst 0, 1) := by decide +kernel
theorem dX4_isWithin_15 : decode cX4_isWithin 15 = .ok (.ireturn, 1) := by decide +kernel
theorem dX4_zoneAt_0 : decode cX4_zoneAt 0 = .ok (.iload_n 1, 1) := by decide +kernel
theorem dX4_zoneAt_1 : decode cX4_zoneAt 1 = .ok (.ifCond .lt 14, 3) := by decide +kernel
theorem dX4_zoneAt_4 : decode cX4_zoneAt 4 = .ok (.iload_n 1, 1) := by decide +kernel
theorem dX4_zoneAt_5 : decode cX4_zoneAt 5 = .ok (.aload_n 0, 1) := by decide +kernel
theorem dX4_zoneAt_6 : decode cX4_zoneAt 6 = .ok (.getfield 21, 3) := by decide +kernel
theorem dX4_zoneAt_9 : decode cX4_zoneAt 9 = .ok (.invokevirtual 47, 3) := by decide +kernel
theorem dX4_zoneAt_12 : decode cX4_zoneAt 12 = .ok (.if_icmp .lt 13, 3) := by decide +kernel
theorem dX4_zoneAt_15 : decode cX4_zoneAt 15 = .ok (.new 62, 3) := by decide +kernel
theorem dX4_zoneAt_18 : decode cX4_zoneAt 18 = .ok (.dup, 1) := by decide +kernel
theorem dX4_zoneAt_19 : decode cX4_zoneAt 19 = .ok (.ldc 211, 2) := by decide +kernel
theorem dX4_zoneAt_21 : decode cX4_zoneAt 21 = .ok (.invokespecial 66, 3) := by decide +kernel
theorem dX4_zoneAt_24 : decode cX4_zoneAt 24 = .ok (.athrow, 1) := by decide +kernel
theorem dX4_zoneAt_25 : decode cX4_zoneAt 25 = .ok (.aload_n 0, 1) := by decide +kernel
theorem dX4_zoneAt_26 : decode cX4_zoneAt 26 = .ok (.getfield 21, 3) := by decide +kernel
theorem dX4_zoneAt_29 : decode cX4_zoneAt 29 = .ok (.iload_n 1, 1) := by decide +kernel
theorem dX4_zoneAt_30 : decode cX4_zoneAt 30 = .ok (.invokevirtual 169, 3) := by decide +kernel
theorem dX4_zoneAt_33 : decode cX4_zoneAt 33 = .ok (.checkcast 9, 3) := by decide +kernel
theorem dX4_zoneAt_36 : decode cX4_zoneAt 36 = .ok (.areturn, 1) := by decide +kernel
theorem dX4_doorAt_0 : decode cX4_doorAt 0 = .ok (.iload_n 1, 1) := by decide +kernel
theorem dX4_doorAt_1 : decode cX4_doorAt 1 = .ok (.ifCond .lt 14, 3) := by decide +kernel
theorem dX4_doorAt_4 : decode cX4_doorAt 4 = .ok (.iload_n 1, 1) := by decide +kernel
theorem dX4_doorAt_5 : decode cX4_doorAt 5 = .ok (.aload_n 0, 1) := by decide +kernel
theorem dX4_doorAt_6 : decode cX4_doorAt 6 = .ok (.getfield 25, 3) := by decide +kernel
theorem dX4_doorAt_9 : decode cX4_doorAt 9 = .ok (.invokevirtual 47, 3) := by decide +kernel
theorem dX4_doorAt_12 : decode cX4_doorAt 12 = .ok (.if_icmp .lt 13, 3) := by decide +kernel
theorem dX4_doorAt_15 : decode cX4_doorAt 15 = .ok (.new 62, 3) := by decide +kernel
theorem dX4_doorAt_18 : decode cX4_doorAt 18 = .ok (.dup, 1) := by decide +kernel
theorem dX4_doorAt_19 : decode cX4_doorAt 19 = .ok (.ldc 213, 2) := by decide +kernel
theorem dX4_doorAt_21 : decode cX4_doorAt 21 = .ok (.invokespecial 66, 3) := by decide +kernel
theorem dX4_doorAt_24 : decode cX4_doorAt 24 = .ok (.athrow, 1) := by decide +kernel
theorem dX4_doorAt_25 : decode cX4_doorAt 25 = .ok (.aload_n 0, 1) := by decide +kernel
theorem dX4_doorAt_26 : decode cX4_doorAt 26 = .ok (.getfield 25, 3) := by decide +kernel
theorem dX4_doorAt_29 : decode cX4_doorAt 29 = .ok (.iload_n 1, 1) := by decide +kernel
theorem dX4_doorAt_30 : decode cX4_doorAt 30 = .ok (.invokevirtual 169, 3) := by decide +kernel
theorem dX4_doorAt_33 : decode cX4_doorAt 33 = .ok (.checkcast 91, 3) := by decide +kernel
theorem dX4_doorAt_36 : decode cX4_doorAt 36 = .ok (.areturn, 1) := by decide +kernel
theorem dX4_badgeAt_0 : decode cX4_badgeAt 0 = .ok (.iload_n 1, 1) := by decide +kernel
theorem dX4_badgeAt_1 : decode cX4_badgeAt 1 = .ok (.ifCond .lt 14, 3) := by decide +kernel
theorem dX4_badgeAt_4 : decode cX4_badgeAt 4 = .ok (.iload_n 1, 1) := by decide +kernel
theorem dX4_badgeAt_5 : decode cX4_badgeAt 5 = .ok (.aload_n 0, 1) := by decide +kernel
theorem dX4_badgeAt_6 : decode cX4_badgeAt 6 = .ok (.getfield 28, 3) := by decide +kernel
theorem dX4_badgeAt_9 : decode cX4_badgeAt 9 = .ok (.invokevirtual 47, 3) := by decide +kernel
theorem dX4_badgeAt_12 : decode cX4_badgeAt 12 = .ok (.if_icmp .lt 13, 3) := by decide +kernel
theorem dX4_badgeAt_15 : decode cX4_badgeAt 15 = .ok (.new 62, 3) := by decide +kernel
theorem dX4_badgeAt_18 : decode cX4_badgeAt 18 = .ok (.dup, 1) := by decide +kernel
theorem dX4_badgeAt_19 : decode cX4_badgeAt 19 = .ok (.ldc 215, 2) := by decide +kernel
theorem dX4_badgeAt_21 : decode cX4_badgeAt 21 = .ok (.invokespecial 66, 3) := by decide +kernel
theorem dX4_badgeAt_24 : decode cX4_badgeAt 24 = .ok (.athrow, 1) := by decide +kernel
theorem dX4_badgeAt_25 : decode cX4_badgeAt 25 = .ok (.aload_n 0, 1) := by decide +kernel
theorem dX4_badgeAt_26 : decode cX4_badgeAt 26 = .ok (.getfield 28, 3) := by decide +kernel
theorem dX4_badgeAt_29 : decode cX4_badgeAt 29 = .ok (.iload_n 1, 1) := by decide +kernel
theorem dX4_badgeAt_30 : decode cX4_badgeAt 30 = .ok (.invokevirtual 169, 3) := by decide +kernel
theorem dX4_badgeAt_33 : decode cX4_badgeAt 33 = .ok (.checkcast 127, 3) := by decide +kernel
theorem dX4_badgeAt_36 : decode cX4_badgeAt 36 = .ok (.areturn, 1) := by decide +kernel
theorem dX4_checkZone_0 : decode cX4_checkZone 0 = .ok (.iload_n 0, 1) := by decide +kernel
theorem dX4_checkZone_1 : decode cX4_checkZone 1 = .ok (.iconst 1, 1) := by decide +kernel
theorem dX4_checkZone_2 : decode cX4_checkZone 2 = .ok (.bipush 20, 2) := by decide +kernel
theorem dX4_checkZone_4 : decode cX4_checkZone 4 = .ok (.invokestatic 80, 3) := by decide +kernel
theorem dX4_checkZone_7 : decode cX4_checkZone 7 = .ok (.ifCond .ne 13, 3) := by decide +kernel
theorem dX4_checkZone_10 : decode cX4_checkZone 10 = .ok (.new 84, 3) := by decide +kernel
theorem dX4_checkZone_13 : decode cX4_checkZone 13 = .ok (.dup, 1) := by decide +kernel
theorem dX4_checkZone_14 : decode cX4_checkZone 14 = .ok (.ldc 217, 2) := by decide +kernel
theorem dX4_checkZone_16 : decode cX4_checkZone 16 = .ok (.invokespecial 88, 3) := by decide +kernel
theorem dX4_checkZone_19 : decode cX4_checkZone 19 = .ok (.athrow, 1) := by decide +kernel
theorem dX4_checkZone_20 : decode cX4_checkZone 20 = .ok (.iload_n 1, 1) := by decide +kernel
theorem dX4_checkZone_21 : decode cX4_checkZone 21 = .ok (.iconst 0, 1) := by decide +kernel
theorem dX4_checkZone_22 : decode cX4_checkZone 22 = .ok (.sipush 1439, 3) := by decide +kernel
theorem dX4_checkZone_25 : decode cX4_checkZone 25 = .ok (.invokestatic 80, 3) := by decide +kernel
theorem dX4_checkZone_28 : decode cX4_checkZone 28 = .ok (.ifCond .eq 19, 3) := by decide +kernel
theorem dX4_checkZone_31 : decode cX4_checkZone 31 = .ok (.iload_n 2, 1) := by decide +kernel
theorem dX4_checkZone_32 : decode cX4_checkZone 32 = .ok (.iconst 0, 1) := by decide +kernel
theorem dX4_checkZone_33 : decode cX4_checkZone 33 = .ok (.sipush 1440, 3) := by decide +kernel
theorem dX4_checkZone_36 : decode cX4_checkZone 36 = .ok (.invokestatic 80, 3) := by decide +kernel
theorem dX4_checkZone_39 : decode cX4_checkZone 39 = .ok (.ifCond .eq 8, 3) := by decide +kernel
theorem dX4_checkZone_42 : decode cX4_checkZone 42 = .ok (.iload_n 1, 1) := by decide +kernel
theorem dX4_checkZone_43 : decode cX4_checkZone 43 = .ok (.iload_n 2, 1) := by decide +kernel
theorem dX4_checkZone_44 : decode cX4_checkZone 44 = .ok (.if_icmp .ne 13, 3) := by decide +kernel
theorem dX4_checkZone_47 : decode cX4_checkZone 47 = .ok (.new 84, 3) := by decide +kernel
theorem dX4_checkZone_50 : decode cX4_checkZone 50 = .ok (.dup, 1) := by decide +kernel
theorem dX4_checkZone_51 : decode cX4_checkZone 51 = .ok (.ldc 219, 2) := by decide +kernel
theorem dX4_checkZone_53 : decode cX4_checkZone 53 = .ok (.invokespecial 88, 3) := by decide +kernel
theorem dX4_checkZone_56 : decode cX4_checkZone 56 = .ok (.athrow, 1) := by decide +kernel
theorem dX4_checkZone_57 : decode cX4_checkZone 57 = .ok (.return_, 1) := by decide +kernel
theorem dX4_checkRights_0 : decode cX4_checkRights 0 = .ok (.iload_n 0, 1) := by decide +kernel
theorem dX4_checkRights_1 : decode cX4_checkRights 1 = .ok (.iconst 0, 1) := by decide +kernel
theorem dX4_checkRights_2 : decode cX4_checkRights 2 = .ok (.sipush 255, 3) := by decide +kernel
theorem dX4_checkRights_5 : decode cX4_checkRights 5 = .ok (.invokestatic 80, 3) := by decide +kernel
theorem dX4_checkRights_8 : decode cX4_checkRights 8 = .ok (.ifCond .ne 13, 3) := by decide +kernel
theorem dX4_checkRights_11 : decode cX4_checkRights 11 = .ok (.new 84, 3) := by decide +kernel
theorem dX4_checkRights_14 : decode cX4_checkRights 14 = .ok (.dup, 1) := by decide +kernel
theorem dX4_checkRights_15 : decode cX4_checkRights 15 = .ok (.ldc 221, 2) := by decide +kernel
theorem dX4_checkRights_17 : decode cX4_checkRights 17 = .ok (.invokespecial 88, 3) := by decide +kernel
theorem dX4_checkRights_20 : decode cX4_checkRights 20 = .ok (.athrow, 1) := by decide +kernel
theorem dX4_checkRights_21 : decode cX4_checkRights 21 = .ok (.return_, 1) := by decide +kernel
theorem dX4_keepBadge_0 : decode cX4_keepBadge 0 = .ok (.aload_n 0, 1) := by decide +kernel
theorem dX4_keepBadge_1 : decode cX4_keepBadge 1 = .ok (.getfield 28, 3) := by decide +kernel
theorem dX4_keepBadge_4 : decode cX4_keepBadge 4 = .ok (.invokevirtual 47, 3) := by decide +kernel
theorem dX4_keepBadge_7 : decode cX4_keepBadge 7 = .ok (.istore_n 3, 1) := by decide +kernel
theorem dX4_keepBadge_8 : decode cX4_keepBadge 8 = .ok (.iload_n 3, 1) := by decide +kernel
theorem dX4_keepBadge_9 : decode cX4_keepBadge 9 = .ok (.bipush 10, 2) := by decide +kernel
theorem dX4_keepBadge_11 : decode cX4_keepBadge 11 = .ok (.if_icmp .lt 13, 3) := by decide +kernel
theorem dX4_keepBadge_14 : decode cX4_keepBadge 14 = .ok (.new 51, 3) := by decide +kernel
theorem dX4_keepBadge_17 : decode cX4_keepBadge 17 = .ok (.dup, 1) := by decide +kernel
theorem dX4_keepBadge_18 : decode cX4_keepBadge 18 = .ok (.ldc 223, 2) := by decide +kernel
theorem dX4_keepBadge_20 : decode cX4_keepBadge 20 = .ok (.invokespecial 55, 3) := by decide +kernel
theorem dX4_keepBadge_23 : decode cX4_keepBadge 23 = .ok (.athrow, 1) := by decide +kernel
theorem dX4_keepBadge_24 : decode cX4_keepBadge 24 = .ok (.aload_n 0, 1) := by decide +kernel
theorem dX4_keepBadge_25 : decode cX4_keepBadge 25 = .ok (.getfield 28, 3) := by decide +kernel
theorem dX4_keepBadge_28 : decode cX4_keepBadge 28 = .ok (.new 127, 3) := by decide +kernel
theorem dX4_keepBadge_31 : decode cX4_keepBadge 31 = .ok (.dup, 1) := by decide +kernel
theorem dX4_keepBadge_32 : decode cX4_keepBadge 32 = .ok (.iload_n 3, 1) := by decide +kernel
theorem dX4_keepBadge_33 : decode cX4_keepBadge 33 = .ok (.aload_n 1, 1) := by decide +kernel
theorem dX4_keepBadge_34 : decode cX4_keepBadge 34 = .ok (.iload_n 2, 1) := by decide +kernel
theorem dX4_keepBadge_35 : decode cX4_keepBadge 35 = .ok (.aload_n 0, 1) := by decide +kernel
theorem dX4_keepBadge_36 : decode cX4_keepBadge 36 = .ok (.getfield 14, 3) := by decide +kernel
theorem dX4_keepBadge_39 : decode cX4_keepBadge 39 = .ok (.invokespecial 225, 3) := by decide +kernel
theorem dX4_keepBadge_42 : decode cX4_keepBadge 42 = .ok (.invokevirtual 39, 3) := by decide +kernel
theorem dX4_keepBadge_45 : decode cX4_keepBadge 45 = .ok (.pop, 1) := by decide +kernel
theorem dX4_keepBadge_46 : decode cX4_keepBadge 46 = .ok (.iload_n 3, 1) := by decide +kernel
theorem dX4_keepBadge_47 : decode cX4_keepBadge 47 = .ok (.ireturn, 1) := by decide +kernel
theorem dX4_addTo_0 : decode cX4_addTo 0 = .ok (.lload_n 0, 1) := by decide +kernel
theorem dX4_addTo_1 : decode cX4_addTo 1 = .ok (.ldc2_w 228, 3) := by decide +kernel
theorem dX4_addTo_4 : decode cX4_addTo 4 = .ok (.lmul, 1) := by decide +kernel
theorem dX4_addTo_5 : decode cX4_addTo 5 = .ok (.iload_n 2, 1) := by decide +kernel
theorem dX4_addTo_6 : decode cX4_addTo 6 = .ok (.i2l, 1) := by decide +kernel
theorem dX4_addTo_7 : decode cX4_addTo 7 = .ok (.ladd, 1) := by decide +kernel
theorem dX4_addTo_8 : decode cX4_addTo 8 = .ok (.lreturn, 1) := by decide +kernel
theorem dX4_badgesIn_0 : decode cX4_badgesIn 0 = .ok (.iconst 0, 1) := by decide +kernel
theorem dX4_badgesIn_1 : decode cX4_badgesIn 1 = .ok (.istore_n 2, 1) := by decide +kernel
theorem dX4_badgesIn_2 : decode cX4_badgesIn 2 = .ok (.iconst 0, 1) := by decide +kernel
theorem dX4_badgesIn_3 : decode cX4_badgesIn 3 = .ok (.istore_n 3, 1) := by decide +kernel
theorem dX4_badgesIn_4 : decode cX4_badgesIn 4 = .ok (.iload_n 3, 1) := by decide +kernel
theorem dX4_badgesIn_5 : decode cX4_badgesIn 5 = .ok (.aload_n 0, 1) := by decide +kernel
theorem dX4_badgesIn_6 : decode cX4_badgesIn 6 = .ok (.getfield 28, 3) := by decide +kernel
theorem dX4_badgesIn_9 : decode cX4_badgesIn 9 = .ok (.invokevirtual 47, 3) := by decide +kernel
theorem dX4_badgesIn_12 : decode cX4_badgesIn 12 = .ok (.if_icmp .ge 36, 3) := by decide +kernel
theorem dX4_badgesIn_15 : decode cX4_badgesIn 15 = .ok (.aload_n 0, 1) := by decide +kernel
theorem dX4_badgesIn_16 : decode cX4_badgesIn 16 = .ok (.getfield 28, 3) := by decide +kernel
theorem dX4_badgesIn_19 : decode cX4_badgesIn 19 = .ok (.iload_n 3, 1) := by decide +kernel
theorem dX4_badgesIn_20 : decode cX4_badgesIn 20 = .ok (.invokevirtual 169, 3) := by decide +kernel
theorem dX4_badgesIn_23 : decode cX4_badgesIn 23 = .ok (.checkcast 127, 3) := by decide +kernel
theorem dX4_badgesIn_26 : decode cX4_badgesIn 26 = .ok (.getfield 193, 3) := by decide +kernel
theorem dX4_badgesIn_29 : decode cX4_badgesIn 29 = .ok (.getfield 197, 3) := by decide +kernel
theorem dX4_badgesIn_32 : decode cX4_badgesIn 32 = .ok (.aload_n 1, 1) := by decide +kernel
theorem dX4_badgesIn_33 : decode cX4_badgesIn 33 = .ok (.if_acmp .ne 9, 3) := by decide +kernel
theorem dX4_badgesIn_36 : decode cX4_badgesIn 36 = .ok (.iload_n 2, 1) := by decide +kernel
theorem dX4_badgesIn_37 : decode cX4_badgesIn 37 = .ok (.iconst 1, 1) := by decide +kernel
theorem dX4_badgesIn_38 : decode cX4_badgesIn 38 = .ok (.iload_n 3, 1) := by decide +kernel
theorem dX4_badgesIn_39 : decode cX4_badgesIn 39 = .ok (.ishl, 1) := by decide +kernel
theorem dX4_badgesIn_40 : decode cX4_badgesIn 40 = .ok (.ior, 1) := by decide +kernel
theorem dX4_badgesIn_41 : decode cX4_badgesIn 41 = .ok (.istore_n 2, 1) := by decide +kernel
theorem dX4_badgesIn_42 : decode cX4_badgesIn 42 = .ok (.iinc 3 1, 3) := by decide +kernel
theorem dX4_badgesIn_45 : decode cX4_badgesIn 45 = .ok (.goto (-41), 3) := by decide +kernel
theorem dX4_badgesIn_48 : decode cX4_badgesIn 48 = .ok (.iload_n 2, 1) := by decide +kernel
theorem dX4_badgesIn_49 : decode cX4_badgesIn 49 = .ok (.ireturn, 1) := by decide +kernel
theorem dX4_countIn_0 : decode cX4_countIn 0 = .ok (.aload_n 0, 1) := by decide +kernel
theorem dX4_countIn_1 : decode cX4_countIn 1 = .ok (.aload_n 1, 1) := by decide +kernel
theorem dX4_countIn_2 : decode cX4_countIn 2 = .ok (.invokevirtual 166, 3) := by decide +kernel
theorem dX4_countIn_5 : decode cX4_countIn 5 = .ok (.invokestatic 230, 3) := by decide +kernel
theorem dX4_countIn_8 : decode cX4_countIn 8 = .ok (.ireturn, 1) := by decide +kernel
theorem dX4_answerTo_0 : decode cX4_answerTo 0 = .ok (.aload_n 1, 1) := by decide +kernel
theorem dX4_answerTo_1 : decode cX4_answerTo 1 = .ok (.getfield 139, 3) := by decide +kernel
theorem dX4_answerTo_4 : decode cX4_answerTo 4 = .ok (.ifCond .eq 6, 3) := by decide +kernel
theorem dX4_answerTo_7 : decode cX4_answerTo 7 = .ok (.bipush 8, 2) := by decide +kernel
theorem dX4_answerTo_9 : decode cX4_answerTo 9 = .ok (.ireturn, 1) := by decide +kernel
theorem dX4_answerTo_10 : decode cX4_answerTo 10 = .ok (.aload_n 2, 1) := by decide +kernel
theorem dX4_answerTo_11 : decode cX4_answerTo 11 = .ok (.aload_n 1, 1) := by decide +kernel
theorem dX4_answerTo_12 : decode cX4_answerTo 12 = .ok (.getfield 193, 3) := by decide +kernel
theorem dX4_answerTo_15 : decode cX4_answerTo 15 = .ok (.getfield 197, 3) := by decide +kernel
theorem dX4_answerTo_18 : decode cX4_answerTo 18 = .ok (.invokevirtual 235, 3) := by decide +kernel
theorem dX4_answerTo_21 : decode cX4_answerTo 21 = .ok (.astore_n 3, 1) := by decide +kernel
theorem dX4_answerTo_22 : decode cX4_answerTo 22 = .ok (.aload_n 3, 1) := by decide +kernel
theorem dX4_answerTo_23 : decode cX4_answerTo 23 = .ok (.ifnonnull 5, 3) := by decide +kernel
theorem dX4_answerTo_26 : decode cX4_answerTo 26 = .ok (.iconst 1, 1) := by decide +kernel
theorem dX4_answerTo_27 : decode cX4_answerTo 27 = .ok (.ireturn, 1) := by decide +kernel
theorem dX4_answerTo_28 : decode cX4_answerTo 28 = .ok (.aload_n 0, 1) := by decide +kernel
theorem dX4_answerTo_29 : decode cX4_answerTo 29 = .ok (.getfield 35, 3) := by decide +kernel
theorem dX4_answerTo_32 : decode cX4_answerTo 32 = .ok (.ifCond .eq 12, 3) := by decide +kernel
theorem dX4_answerTo_35 : decode cX4_answerTo 35 = .ok (.aload_n 0, 1) := by decide +kernel
theorem dX4_answerTo_36 : decode cX4_answerTo 36 = .ok (.aload_n 1, 1) := by decide +kernel
theorem dX4_answerTo_37 : decode cX4_answerTo 37 = .ok (.aload_n 3, 1) := by decide +kernel
theorem dX4_answerTo_38 : decode cX4_answerTo 38 = .ok (.invokevirtual 239, 3) := by decide +kernel
theorem dX4_answerTo_41 : decode cX4_answerTo 41 = .ok (.goto 10, 3) := by decide +kernel
theorem dX4_answerTo_44 : decode cX4_answerTo 44 = .ok (.aload_n 0, 1) := by decide +kernel
theorem dX4_answerTo_45 : decode cX4_answerTo 45 = .ok (.aload_n 1, 1) := by decide +kernel
theorem dX4_answerTo_46 : decode cX4_answerTo 46 = .ok (.aload_n 2, 1) := by decide +kernel
theorem dX4_answerTo_47 : decode cX4_answerTo 47 = .ok (.aload_n 3, 1) := by decide +kernel
theorem dX4_answerTo_48 : decode cX4_answerTo 48 = .ok (.invokevirtual 243, 3) := by decide +kernel
theorem dX4_answerTo_51 : decode cX4_answerTo 51 = .ok (.ireturn, 1) := by decide +kernel
