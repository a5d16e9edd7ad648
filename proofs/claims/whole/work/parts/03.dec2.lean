theorem dX5_isWithoutHost_30 : decode cX5_isWithoutHost 30 = .ok (.iaload, 1) := by decide +kernel
theorem dX5_isWithoutHost_31 : decode cX5_isWithoutHost 31 = .ok (.if_icmp .eq 22, 3) := by decide +kernel
theorem dX5_isWithoutHost_34 : decode cX5_isWithoutHost 34 = .ok (.aload_n 0, 1) := by decide +kernel
theorem dX5_isWithoutHost_35 : decode cX5_isWithoutHost 35 = .ok (.getfield 35, 3) := by decide +kernel
theorem dX5_isWithoutHost_38 : decode cX5_isWithoutHost 38 = .ok (.aload_n 0, 1) := by decide +kernel
theorem dX5_isWithoutHost_39 : decode cX5_isWithoutHost 39 = .ok (.getfield 41, 3) := by decide +kernel
theorem dX5_isWithoutHost_42 : decode cX5_isWithoutHost 42 = .ok (.iload_n 1, 1) := by decide +kernel
theorem dX5_isWithoutHost_43 : decode cX5_isWithoutHost 43 = .ok (.iaload, 1) := by decide +kernel
theorem dX5_isWithoutHost_44 : decode cX5_isWithoutHost 44 = .ok (.iaload, 1) := by decide +kernel
theorem dX5_isWithoutHost_45 : decode cX5_isWithoutHost 45 = .ok (.iload_n 2, 1) := by decide +kernel
theorem dX5_isWithoutHost_46 : decode cX5_isWithoutHost 46 = .ok (.if_icmp .eq 7, 3) := by decide +kernel
theorem dX5_isWithoutHost_49 : decode cX5_isWithoutHost 49 = .ok (.iconst 1, 1) := by decide +kernel
theorem dX5_isWithoutHost_50 : decode cX5_isWithoutHost 50 = .ok (.goto 4, 3) := by decide +kernel
theorem dX5_isWithoutHost_53 : decode cX5_isWithoutHost 53 = .ok (.iconst 0, 1) := by decide +kernel
theorem dX5_isWithoutHost_54 : decode cX5_isWithoutHost 54 = .ok (.ireturn, 1) := by decide +kernel
theorem dX5_leavesGuests_0 : decode cX5_leavesGuests 0 = .ok (.iconst 0, 1) := by decide +kernel
theorem dX5_leavesGuests_1 : decode cX5_leavesGuests 1 = .ok (.istore_n 2, 1) := by decide +kernel
theorem dX5_leavesGuests_2 : decode cX5_leavesGuests 2 = .ok (.iconst 0, 1) := by decide +kernel
theorem dX5_leavesGuests_3 : decode cX5_leavesGuests 3 = .ok (.istore_n 3, 1) := by decide +kernel
theorem dX5_leavesGuests_4 : decode cX5_leavesGuests 4 = .ok (.iload_n 3, 1) := by decide +kernel
theorem dX5_leavesGuests_5 : decode cX5_leavesGuests 5 = .ok (.aload_n 0, 1) := by decide +kernel
theorem dX5_leavesGuests_6 : decode cX5_leavesGuests 6 = .ok (.getfield 60, 3) := by decide +kernel
theorem dX5_leavesGuests_9 : decode cX5_leavesGuests 9 = .ok (.if_icmp .ge 53, 3) := by decide +kernel
theorem dX5_leavesGuests_12 : decode cX5_leavesGuests 12 = .ok (.iload_n 2, 1) := by decide +kernel
theorem dX5_leavesGuests_13 : decode cX5_leavesGuests 13 = .ok (.ifCond .ne 37, 3) := by decide +kernel
theorem dX5_leavesGuests_16 : decode cX5_leavesGuests 16 = .ok (.aload_n 0, 1) := by decide +kernel
theorem dX5_leavesGuests_17 : decode cX5_leavesGuests 17 = .ok (.getfield 41, 3) := by decide +kernel
theorem dX5_leavesGuests_20 : decode cX5_leavesGuests 20 = .ok (.iload_n 3, 1) := by decide +kernel
theorem dX5_leavesGuests_21 : decode cX5_leavesGuests 21 = .ok (.iaload, 1) := by decide +kernel
theorem dX5_leavesGuests_22 : decode cX5_leavesGuests 22 = .ok (.iload_n 1, 1) := by decide +kernel
theorem dX5_leavesGuests_23 : decode cX5_leavesGuests 23 = .ok (.if_icmp .ne 31, 3) := by decide +kernel
theorem dX5_leavesGuests_26 : decode cX5_leavesGuests 26 = .ok (.aload_n 0, 1) := by decide +kernel
theorem dX5_leavesGuests_27 : decode cX5_leavesGuests 27 = .ok (.getfield 35, 3) := by decide +kernel
theorem dX5_leavesGuests_30 : decode cX5_leavesGuests 30 = .ok (.iload_n 3, 1) := by decide +kernel
theorem dX5_leavesGuests_31 : decode cX5_leavesGuests 31 = .ok (.iaload, 1) := by decide +kernel
theorem dX5_leavesGuests_32 : decode cX5_leavesGuests 32 = .ok (.aload_n 0, 1) := by decide +kernel
theorem dX5_leavesGuests_33 : decode cX5_leavesGuests 33 = .ok (.getfield 35, 3) := by decide +kernel
theorem dX5_leavesGuests_36 : decode cX5_leavesGuests 36 = .ok (.iload_n 1, 1) := by decide +kernel
theorem dX5_leavesGuests_37 : decode cX5_leavesGuests 37 = .ok (.iaload, 1) := by decide +kernel
theorem dX5_leavesGuests_38 : decode cX5_leavesGuests 38 = .ok (.if_icmp .ne 16, 3) := by decide +kernel
theorem dX5_leavesGuests_41 : decode cX5_leavesGuests 41 = .ok (.aload_n 0, 1) := by decide +kernel
theorem dX5_leavesGuests_42 : decode cX5_leavesGuests 42 = .ok (.getfield 35, 3) := by decide +kernel
theorem dX5_leavesGuests_45 : decode cX5_leavesGuests 45 = .ok (.iload_n 1, 1) := by decide +kernel
theorem dX5_leavesGuests_46 : decode cX5_leavesGuests 46 = .ok (.iaload, 1) := by decide +kernel
theorem dX5_leavesGuests_47 : decode cX5_leavesGuests 47 = .ok (.ifCond .eq 7, 3) := by decide +kernel
theorem dX5_leavesGuests_50 : decode cX5_leavesGuests 50 = .ok (.iconst 1, 1) := by decide +kernel
theorem dX5_leavesGuests_51 : decode cX5_leavesGuests 51 = .ok (.goto 4, 3) := by decide +kernel
theorem dX5_leavesGuests_54 : decode cX5_leavesGuests 54 = .ok (.iconst 0, 1) := by decide +kernel
theorem dX5_leavesGuests_55 : decode cX5_leavesGuests 55 = .ok (.istore_n 2, 1) := by decide +kernel
theorem dX5_leavesGuests_56 : decode cX5_leavesGuests 56 = .ok (.iinc 3 1, 3) := by decide +kernel
theorem dX5_leavesGuests_59 : decode cX5_leavesGuests 59 = .ok (.goto (-55), 3) := by decide +kernel
theorem dX5_leavesGuests_62 : decode cX5_leavesGuests 62 = .ok (.iload_n 2, 1) := by decide +kernel
theorem dX5_leavesGuests_63 : decode cX5_leavesGuests 63 = .ok (.ireturn, 1) := by decide +kernel
theorem dX5_isNearer_0 : decode cX5_isNearer 0 = .ok (.aload_n 0, 1) := by decide +kernel
theorem dX5_isNearer_1 : decode cX5_isNearer 1 = .ok (.iload_n 1, 1) := by decide +kernel
theorem dX5_isNearer_2 : decode cX5_isNearer 2 = .ok (.iconst 0, 1) := by decide +kernel
theorem dX5_isNearer_3 : decode cX5_isNearer 3 = .ok (.sipush 255, 3) := by decide +kernel
theorem dX5_isNearer_6 : decode cX5_isNearer 6 = .ok (.invokevirtual 87, 3) := by decide +kernel
theorem dX5_isNearer_9 : decode cX5_isNearer 9 = .ok (.istore_n 3, 1) := by decide +kernel
theorem dX5_isNearer_10 : decode cX5_isNearer 10 = .ok (.aload_n 0, 1) := by decide +kernel
theorem dX5_isNearer_11 : decode cX5_isNearer 11 = .ok (.iload_n 2, 1) := by decide +kernel
theorem dX5_isNearer_12 : decode cX5_isNearer 12 = .ok (.iconst 0, 1) := by decide +kernel
theorem dX5_isNearer_13 : decode cX5_isNearer 13 = .ok (.sipush 255, 3) := by decide +kernel
theorem dX5_isNearer_16 : decode cX5_isNearer 16 = .ok (.invokevirtual 87, 3) := by decide +kernel
theorem dX5_isNearer_19 : decode cX5_isNearer 19 = .ok (.istore 4, 2) := by decide +kernel
theorem dX5_isNearer_21 : decode cX5_isNearer 21 = .ok (.iload_n 3, 1) := by decide +kernel
theorem dX5_isNearer_22 : decode cX5_isNearer 22 = .ok (.iconst (-1), 1) := by decide +kernel
theorem dX5_isNearer_23 : decode cX5_isNearer 23 = .ok (.if_icmp .eq 19, 3) := by decide +kernel
theorem dX5_isNearer_26 : decode cX5_isNearer 26 = .ok (.iload 4, 2) := by decide +kernel
theorem dX5_isNearer_28 : decode cX5_isNearer 28 = .ok (.iconst (-1), 1) := by decide +kernel
theorem dX5_isNearer_29 : decode cX5_isNearer 29 = .ok (.if_icmp .eq 9, 3) := by decide +kernel
theorem dX5_isNearer_32 : decode cX5_isNearer 32 = .ok (.iload_n 3, 1) := by decide +kernel
theorem dX5_isNearer_33 : decode cX5_isNearer 33 = .ok (.iload 4, 2) := by decide +kernel
theorem dX5_isNearer_35 : decode cX5_isNearer 35 = .ok (.if_icmp .ge 7, 3) := by decide +kernel
theorem dX5_isNearer_38 : decode cX5_isNearer 38 = .ok (.iconst 1, 1) := by decide +kernel
theorem dX5_isNearer_39 : decode cX5_isNearer 39 = .ok (.goto 4, 3) := by decide +kernel
theorem dX5_isNearer_42 : decode cX5_isNearer 42 = .ok (.iconst 0, 1) := by decide +kernel
theorem dX5_isNearer_43 : decode cX5_isNearer 43 = .ok (.ireturn, 1) := by decide +kernel
theorem dX5_answer_0 : decode cX5_answer 0 = .ok (.aload_n 0, 1) := by decide +kernel
theorem dX5_answer_1 : decode cX5_answer 1 = .ok (.iload_n 2, 1) := by decide +kernel
theorem dX5_answer_2 : decode cX5_answer 2 = .ok (.aload_n 0, 1) := by decide +kernel
theorem dX5_answer_3 : decode cX5_answer 3 = .ok (.getfield 35, 3) := by decide +kernel
theorem dX5_answer_6 : decode cX5_answer 6 = .ok (.iload_n 1, 1) := by decide +kernel
theorem dX5_answer_7 : decode cX5_answer 7 = .ok (.iaload, 1) := by decide +kernel
theorem dX5_answer_8 : decode cX5_answer 8 = .ok (.invokevirtual 126, 3) := by decide +kernel
theorem dX5_answer_11 : decode cX5_answer 11 = .ok (.istore_n 3, 1) := by decide +kernel
theorem dX5_answer_12 : decode cX5_answer 12 = .ok (.aload_n 0, 1) := by decide +kernel
theorem dX5_answer_13 : decode cX5_answer 13 = .ok (.getfield 44, 3) := by decide +kernel
theorem dX5_answer_16 : decode cX5_answer 16 = .ok (.iload_n 1, 1) := by decide +kernel
theorem dX5_answer_17 : decode cX5_answer 17 = .ok (.baload, 1) := by decide +kernel
theorem dX5_answer_18 : decode cX5_answer 18 = .ok (.ifCond .eq 6, 3) := by decide +kernel
theorem dX5_answer_21 : decode cX5_answer 21 = .ok (.bipush 8, 2) := by decide +kernel
theorem dX5_answer_23 : decode cX5_answer 23 = .ok (.ireturn, 1) := by decide +kernel
theorem dX5_answer_24 : decode cX5_answer 24 = .ok (.iload_n 3, 1) := by decide +kernel
theorem dX5_answer_25 : decode cX5_answer 25 = .ok (.iconst (-1), 1) := by decide +kernel
theorem dX5_answer_26 : decode cX5_answer 26 = .ok (.if_icmp .ne 5, 3) := by decide +kernel
theorem dX5_answer_29 : decode cX5_answer 29 = .ok (.iconst 1, 1) := by decide +kernel
theorem dX5_answer_30 : decode cX5_answer 30 = .ok (.ireturn, 1) := by decide +kernel
theorem dX5_answer_31 : decode cX5_answer 31 = .ok (.aload_n 0, 1) := by decide +kernel
theorem dX5_answer_32 : decode cX5_answer 32 = .ok (.getfield 122, 3) := by decide +kernel
theorem dX5_answer_35 : decode cX5_answer 35 = .ok (.ifCond .eq 38, 3) := by decide +kernel
theorem dX5_answer_38 : decode cX5_answer 38 = .ok (.aload_n 0, 1) := by decide +kernel
theorem dX5_answer_39 : decode cX5_answer 39 = .ok (.iload_n 3, 1) := by decide +kernel
theorem dX5_answer_40 : decode cX5_answer 40 = .ok (.aload_n 0, 1) := by decide +kernel
theorem dX5_answer_41 : decode cX5_answer 41 = .ok (.getfield 35, 3) := by decide +kernel
theorem dX5_answer_44 : decode cX5_answer 44 = .ok (.iload_n 1, 1) := by decide +kernel
theorem dX5_answer_45 : decode cX5_answer 45 = .ok (.iaload, 1) := by decide +kernel
theorem dX5_answer_46 : decode cX5_answer 46 = .ok (.invokevirtual 129, 3) := by decide +kernel
theorem dX5_answer_49 : decode cX5_answer 49 = .ok (.ifCond .ne 8, 3) := by decide +kernel
theorem dX5_answer_52 : decode cX5_answer 52 = .ok (.bipush 9, 2) := by decide +kernel
theorem dX5_answer_54 : decode cX5_answer 54 = .ok (.goto 18, 3) := by decide +kernel
theorem dX5_answer_57 : decode cX5_answer 57 = .ok (.aload_n 0, 1) := by decide +kernel
theorem dX5_answer_58 : decode cX5_answer 58 = .ok (.iload_n 1, 1) := by decide +kernel
theorem dX5_answer_59 : decode cX5_answer 59 = .ok (.iload_n 3, 1) := by decide +kernel
theorem dX5_answer_60 : decode cX5_answer 60 = .ok (.invokevirtual 132, 3) := by decide +kernel
theorem dX5_answer_63 : decode cX5_answer 63 = .ok (.ifCond .eq 8, 3) := by decide +kernel
theorem dX5_answer_66 : decode cX5_answer 66 = .ok (.bipush 6, 2) := by decide +kernel
theorem dX5_answer_68 : decode cX5_answer 68 = .ok (.goto 4, 3) := by decide +kernel
theorem dX5_answer_71 : decode cX5_answer 71 = .ok (.iconst 0, 1) := by decide +kernel
theorem dX5_answer_72 : decode cX5_answer 72 = .ok (.ireturn, 1) := by decide +kernel
theorem dX5_answer_73 : decode cX5_answer 73 = .ok (.iload_n 3, 1) := by decide +kernel
theorem dX5_answer_74 : decode cX5_answer 74 = .ok (.ifCond .eq 17, 3) := by decide +kernel
theorem dX5_answer_77 : decode cX5_answer 77 = .ok (.aload_n 0, 1) := by decide +kernel
theorem dX5_answer_78 : decode cX5_answer 78 = .ok (.iload_n 1, 1) := by decide +kernel
theorem dX5_answer_79 : decode cX5_answer 79 = .ok (.invokevirtual 115, 3) := by decide +kernel
theorem dX5_answer_82 : decode cX5_answer 82 = .ok (.iload_n 3, 1) := by decide +kernel
theorem dX5_answer_83 : decode cX5_answer 83 = .ok (.invokestatic 83, 3) := by decide +kernel
theorem dX5_answer_86 : decode cX5_answer 86 = .ok (.ifCond .ne 5, 3) := by decide +kernel
theorem dX5_answer_89 : decode cX5_answer 89 = .ok (.iconst 2, 1) := by decide +kernel
theorem dX5_answer_90 : decode cX5_answer 90 = .ok (.ireturn, 1) := by decide +kernel
theorem dX5_answer_91 : decode cX5_answer 91 = .ok (.aload_n 0, 1) := by decide +kernel
theorem dX5_answer_92 : decode cX5_answer 92 = .ok (.iload_n 3, 1) := by decide +kernel
theorem dX5_answer_93 : decode cX5_answer 93 = .ok (.invokevirtual 94, 3) := by decide +kernel
theorem dX5_answer_96 : decode cX5_answer 96 = .ok (.ifCond .ne 5, 3) := by decide +kernel
theorem dX5_answer_99 : decode cX5_answer 99 = .ok (.iconst 3, 1) := by decide +kernel
theorem dX5_answer_100 : decode cX5_answer 100 = .ok (.ireturn, 1) := by decide +kernel
theorem dX5_answer_101 : decode cX5_answer 101 = .ok (.iload_n 3, 1) := by decide +kernel
theorem dX5_answer_102 : decode cX5_answer 102 = .ok (.ifCond .eq 22, 3) := by decide +kernel
theorem dX5_answer_105 : decode cX5_answer 105 = .ok (.aload_n 0, 1) := by decide +kernel
theorem dX5_answer_106 : decode cX5_answer 106 = .ok (.iload_n 3, 1) := by decide +kernel
theorem dX5_answer_107 : decode cX5_answer 107 = .ok (.invokevirtual 75, 3) := by decide +kernel
theorem dX5_answer_110 : decode cX5_answer 110 = .ok (.invokestatic 78, 3) := by decide +kernel
theorem dX5_answer_113 : decode cX5_answer 113 = .ok (.aload_n 0, 1) := by decide +kernel
theorem dX5_answer_114 : decode cX5_answer 114 = .ok (.getfield 13, 3) := by decide +kernel
theorem dX5_answer_117 : decode cX5_answer 117 = .ok (.iload_n 3, 1) := by decide +kernel
theorem dX5_answer_118 : decode cX5_answer 118 = .ok (.iaload, 1) := by decide +kernel
theorem dX5_answer_119 : decode cX5_answer 119 = .ok (.if_icmp .lt 5, 3) := by decide +kernel
theorem dX5_answer_122 : decode cX5_answer 122 = .ok (.iconst 4, 1) := by decide +kernel
theorem dX5_answer_123 : decode cX5_answer 123 = .ok (.ireturn, 1) := by decide +kernel
theorem dX5_answer_124 : decode cX5_answer 124 = .ok (.aload_n 0, 1) := by decide +kernel
theorem dX5_answer_125 : decode cX5_answer 125 = .ok (.iload_n 2, 1) := by decide +kernel
theorem dX5_answer_126 : decode cX5_answer 126 = .ok (.invokevirtual 135, 3) := by decide +kernel
theorem dX5_answer_129 : decode cX5_answer 129 = .ok (.ifCond .eq 5, 3) := by decide +kernel
theorem dX5_answer_132 : decode cX5_answer 132 = .ok (.iconst 5, 1) := by decide +kernel
theorem dX5_answer_133 : decode cX5_answer 133 = .ok (.ireturn, 1) := by decide +kernel
theorem dX5_answer_134 : decode cX5_answer 134 = .ok (.aload_n 0, 1) := by decide +kernel
theorem dX5_answer_135 : decode cX5_answer 135 = .ok (.iload_n 1, 1) := by decide +kernel
theorem dX5_answer_136 : decode cX5_answer 136 = .ok (.iload_n 3, 1) := by decide +kernel
theorem dX5_answer_137 : decode cX5_answer 137 = .ok (.invokevirtual 132, 3) := by decide +kernel
theorem dX5_answer_140 : decode cX5_answer 140 = .ok (.ifCond .eq 6, 3) := by decide +kernel
theorem dX5_answer_143 : decode cX5_answer 143 = .ok (.bipush 6, 2) := by decide +kernel
theorem dX5_answer_145 : decode cX5_answer 145 = .ok (.ireturn, 1) := by decide +kernel
theorem dX5_answer_146 : decode cX5_answer 146 = .ok (.aload_n 0, 1) := by decide +kernel
theorem dX5_answer_147 : decode cX5_answer 147 = .ok (.iload_n 1, 1) := by decide +kernel
theorem dX5_answer_148 : decode cX5_answer 148 = .ok (.invokevirtual 138, 3) := by decide +kernel
theorem dX5_answer_151 : decode cX5_answer 151 = .ok (.ifCond .eq 8, 3) := by decide +kernel
theorem dX5_answer_154 : decode cX5_answer 154 = .ok (.bipush 7, 2) := by decide +kernel
theorem dX5_answer_156 : decode cX5_answer 156 = .ok (.goto 4, 3) := by decide +kernel
theorem dX5_answer_159 : decode cX5_answer 159 = .ok (.iconst 0, 1) := by decide +kernel
theorem dX5_answer_160 : decode cX5_answer 160 = .ok (.ireturn, 1) := by decide +kernel
theorem dX5_note_0 : decode cX5_note 0 = .ok (.iconst 3, 1) := by decide +kernel
theorem dX5_note_1 : decode cX5_note 1 = .ok (.aload_n 0, 1) := by decide +kernel
theorem dX5_note_2 : decode cX5_note 2 = .ok (.getfield 141, 3) := by decide +kernel
theorem dX5_note_5 : decode cX5_note 5 = .ok (.imul, 1) := by decide +kernel
theorem dX5_note_6 : decode cX5_note 6 = .ok (.aload_n 0, 1) := by decide +kernel
theorem dX5_note_7 : decode cX5_note 7 = .ok (.getfield 51, 3) := by decide +kernel
theorem dX5_note_10 : decode cX5_note 10 = .ok (.arraylength, 1) := by decide +kernel
theorem dX5_note_11 : decode cX5_note 11 = .ok (.if_icmp .ne 33, 3) := by decide +kernel
theorem dX5_note_14 : decode cX5_note 14 = .ok (.iconst 2, 1) := by decide +kernel
theorem dX5_note_15 : decode cX5_note 15 = .ok (.aload_n 0, 1) := by decide +kernel
theorem dX5_note_16 : decode cX5_note 16 = .ok (.getfield 51, 3) := by decide +kernel
theorem dX5_note_19 : decode cX5_note 19 = .ok (.arraylength, 1) := by decide +kernel
theorem dX5_note_20 : decode cX5_note 20 = .ok (.imul, 1) := by decide +kernel
theorem dX5_note_21 : decode cX5_note 21 = .ok (.newarray .int, 2) := by decide +kernel
theorem dX5_note_23 : decode cX5_note 23 = .ok (.astore_n 3, 1) := by decide +kernel
theorem dX5_note_24 : decode cX5_note 24 = .ok (.aload_n 0, 1) := by decide +kernel
theorem dX5_note_25 : decode cX5_note 25 = .ok (.getfield 51, 3) := by decide +kernel
theorem dX5_note_28 : decode cX5_note 28 = .ok (.iconst 0, 1) := by decide +kernel
theorem dX5_note_29 : decode cX5_note 29 = .ok (.aload_n 3, 1) := by decide +kernel
theorem dX5_note_30 : decode cX5_note 30 = .ok (.iconst 0, 1) := by decide +kernel
theorem dX5_note_31 : decode cX5_note 31 = .ok (.aload_n 0, 1) := by decide +kernel
theorem dX5_note_32 : decode cX5_note 32 = .ok (.getfield 51, 3) := by decide +kernel
theorem dX5_note_35 : decode cX5_note 35 = .ok (.arraylength, 1) := by decide +kernel
theorem dX5_note_36 : decode cX5_note 36 = .ok (.invokestatic 144, 3) := by decide +kernel
theorem dX5_note_39 : decode cX5_note 39 = .ok (.aload_n 0, 1) := by decide +kernel
theorem dX5_note_40 : decode cX5_note 40 = .ok (.aload_n 3, 1) := by decide +kernel
theorem dX5_note_41 : decode cX5_note 41 = .ok (.putfield 51, 3) := by decide +kernel
theorem dX5_note_44 : decode cX5_note 44 = .ok (.aload_n 0, 1) := by decide +kernel
theorem dX5_note_45 : decode cX5_note 45 = .ok (.getfield 51, 3) := by decide +kernel
theorem dX5_note_48 : decode cX5_note 48 = .ok (.iconst 3, 1) := by decide +kernel
theorem dX5_note_49 : decode cX5_note 49 = .ok (.aload_n 0, 1) := by decide +kernel
theorem dX5_note_50 : decode cX5_note 50 = .ok (.getfield 141, 3) := by decide +kernel
theorem dX5_note_53 : decode cX5_note 53 = .ok (.imul, 1) := by decide +kernel
theorem dX5_note_54 : decode cX5_note 54 = .ok (.iload_n 1, 1) := by decide +kernel
theorem dX5_note_55 : decode cX5_note 55 = .ok (.iastore, 1) := by decide +kernel
theorem dX5_note_56 : decode cX5_note 56 = .ok (.aload_n 0, 1) := by decide +kernel
theorem dX5_note_57 : decode cX5_note 57 = .ok (.getfield 51, 3) := by decide +kernel
theorem dX5_note_60 : decode cX5_note 60 = .ok (.iconst 3, 1) := by decide +kernel
theorem dX5_note_61 : decode cX5_note 61 = .ok (.aload_n 0, 1) := by decide +kernel
theorem dX5_note_62 : decode cX5_note 62 = .ok (.getfield 141, 3) := by decide +kernel
theorem dX5_note_65 : decode cX5_note 65 = .ok (.imul, 1) := by decide +kernel
theorem dX5_note_66 : decode cX5_note 66 = .ok (.iconst 1, 1) := by decide +kernel
theorem dX5_note_67 : decode cX5_note 67 = .ok (.iadd, 1) := by decide +kernel
theorem dX5_note_68 : decode cX5_note 68 = .ok (.aload_n 0, 1) := by decide +kernel
theorem dX5_note_69 : decode cX5_note 69 = .ok (.getfield 91, 3) := by decide +kernel
theorem dX5_note_72 : decode cX5_note 72 = .ok (.iastore, 1) := by decide +kernel
theorem dX5_note_73 : decode cX5_note 73 = .ok (.aload_n 0, 1) := by decide +kernel
theorem dX5_note_74 : decode cX5_note 74 = .ok (.getfield 51, 3) := by decide +kernel
theorem dX5_note_77 : decode cX5_note 77 = .ok (.iconst 3, 1) := by decide +kernel
theorem dX5_note_78 : decode cX5_note 78 = .ok (.aload_n 0, 1) := by decide +kernel
theorem dX5_note_79 : decode cX5_note 79 = .ok (.getfield 141, 3) := by decide +kernel
theorem dX5_note_82 : decode cX5_note 82 = .ok (.imul, 1) := by decide +kernel
theorem dX5_note_83 : decode cX5_note 83 = .ok (.iconst 2, 1) := by decide +kernel
theorem dX5_note_84 : decode cX5_note 84 = .ok (.iadd, 1) := by decide +kernel
theorem dX5_note_85 : decode cX5_note 85 = .ok (.iload_n 2, 1) := by decide +kernel
theorem dX5_note_86 : decode cX5_note 86 = .ok (.iastore, 1) := by decide +kernel
theorem dX5_note_87 : decode cX5_note 87 = .ok (.aload_n 0, 1) := by decide +kernel
theorem dX5_note_88 : decode cX5_note 88 = .ok (.dup, 1) := by decide +kernel
theorem dX5_note_89 : decode cX5_note 89 = .ok (.getfield 141, 3) := by decide +kernel
theorem dX5_note_92 : decode cX5_note 92 = .ok (.iconst 1, 1) := by decide +kernel
theorem dX5_note_93 : decode cX5_note 93 = .ok (.iadd, 1) := by decide +kernel
theorem dX5_note_94 : decode cX5_note 94 = .ok (.putfield 141, 3) := by decide +kernel
theorem dX5_note_97 : decode cX5_note 97 = .ok (.return_, 1) := by decide +kernel
theorem dX5_request_0 : decode cX5_request 0 = .ok (.aload_n 0, 1) := by decide +kernel
theorem dX5_request_1 : decode cX5_request 1 = .ok (.iconst 0, 1) := by decide +kernel
theorem dX5_request_2 : decode cX5_request 2 = .ok (.putfield 54, 3) := by decide +kernel
theorem dX5_request_5 : decode cX5_request 5 = .ok (.aload_n 0, 1) := by decide +kernel
theorem dX5_request_6 : decode cX5_request 6 = .ok (.iload_n 1, 1) := by decide +kernel
theorem dX5_request_7 : decode cX5_request 7 = .ok (.invokevirtual 112, 3) := by decide +kernel
theorem dX5_request_10 : decode cX5_request 10 = .ok (.ifCond .eq 11, 3) := by decide +kernel
theorem dX5_request_13 : decode cX5_request 13 = .ok (.aload_n 0, 1) := by decide +kernel
theorem dX5_request_14 : decode cX5_request 14 = .ok (.iload_n 2, 1) := by decide +kernel
theorem dX5_request_15 : decode cX5_request 15 = .ok (.invokevirtual 103, 3) := by decide +kernel
theorem dX5_request_18 : decode cX5_request 18 = .ok (.ifCond .ne 9, 3) := by decide +kernel
theorem dX5_request_21 : decode cX5_request 21 = .ok (.aload_n 0, 1) := by decide +kernel
theorem dX5_request_22 : decode cX5_request 22 = .ok (.iconst 1, 1) := by decide +kernel
theorem dX5_request_23 : decode cX5_request 23 = .ok (.invokevirtual 67, 3) := by decide +kernel
theorem dX5_request_26 : decode cX5_request 26 = .ok (.ireturn, 1) := by decide +kernel
theorem dX5_request_27 : decode cX5_request 27 = .ok (.aload_n 0, 1) := by decide +kernel
theorem dX5_request_28 : decode cX5_request 28 = .ok (.iload_n 1, 1) := by decide +kernel
theorem dX5_request_29 : decode cX5_request 29 = .ok (.iload_n 2, 1) := by decide +kernel
theorem dX5_request_30 : decode cX5_request 30 = .ok (.invokevirtual 150, 3) := by decide +kernel
theorem dX5_request_33 : decode cX5_request 33 = .ok (.istore_n 3, 1) := by decide +kernel
theorem dX5_request_34 : decode cX5_request 34 = .ok (.iload_n 3, 1) := by decide +kernel
theorem dX5_request_35 : decode cX5_request 35 = .ok (.ifCond .ne 58, 3) := by decide +kernel
theorem dX5_request_38 : decode cX5_request 38 = .ok (.aload_n 0, 1) := by decide +kernel
theorem dX5_request_39 : decode cX5_request 39 = .ok (.getfield 35, 3) := by decide +kernel
theorem dX5_request_42 : decode cX5_request 42 = .ok (.iload_n 1, 1) := by decide +kernel
theorem dX5_request_43 : decode cX5_request 43 = .ok (.aload_n 0, 1) := by decide +kernel
theorem dX5_request_44 : decode cX5_request 44 = .ok (.iload_n 2, 1) := by decide +kernel
theorem dX5_request_45 : decode cX5_request 45 = .ok (.aload_n 0, 1) := by decide +kernel
theorem dX5_request_46 : decode cX5_request 46 = .ok (.getfield 35, 3) := by decide +kernel
theorem dX5_request_49 : decode cX5_request 49 = .ok (.iload_n 1, 1) := by decide +kernel
theorem dX5_request_50 : decode cX5_request 50 = .ok (.iaload, 1) := by decide +kernel
theorem dX5_request_51 : decode cX5_request 51 = .ok (.invokevirtual 126, 3) := by decide +kernel
theorem dX5_request_54 : decode cX5_request 54 = .ok (.iastore, 1) := by decide +kernel
theorem dX5_request_55 : decode cX5_request 55 = .ok (.aload_n 0, 1) := by decide +kernel
theorem dX5_request_56 : decode cX5_request 56 = .ok (.iload_n 1, 1) := by decide +kernel
theorem dX5_request_57 : decode cX5_request 57 = .ok (.aload_n 0, 1) := by decide +kernel
theorem dX5_request_58 : decode cX5_request 58 = .ok (.getfield 35, 3) := by decide +kernel
theorem dX5_request_61 : decode cX5_request 61 = .ok (.iload_n 1, 1) := by decide +kernel
theorem dX5_request_62 : decode cX5_request 62 = .ok (.iaload, 1) := by decide +kernel
theorem dX5_request_63 : decode cX5_request 63 = .ok (.invokevirtual 153, 3) := by decide +kernel
theorem dX5_request_66 : decode cX5_request 66 = .ok (.aload_n 0, 1) := by decide +kernel
theorem dX5_request_67 : decode cX5_request 67 = .ok (.getfield 32, 3) := by decide +kernel
theorem dX5_request_70 : decode cX5_request 70 = .ok (.iload_n 2, 1) := by decide +kernel
theorem dX5_request_71 : decode cX5_request 71 = .ok (.aload_n 0, 1) := by decide +kernel
theorem dX5_request_72 : decode cX5_request 72 = .ok (.getfield 91, 3) := by decide +kernel
theorem dX5_request_75 : decode cX5_request 75 = .ok (.aload_n 0, 1) := by decide +kernel
theorem dX5_request_76 : decode cX5_request 76 = .ok (.getfield 26, 3) := by decide +kernel
theorem dX5_request_79 : decode cX5_request 79 = .ok (.iload_n 2, 1) := by decide +kernel
theorem dX5_request_80 : decode cX5_request 80 = .ok (.iaload, 1) := by decide +kernel
theorem dX5_request_81 : decode cX5_request 81 = .ok (.iadd, 1) := by decide +kernel
theorem dX5_request_82 : decode cX5_request 82 = .ok (.iastore, 1) := by decide +kernel
theorem dX5_request_83 : decode cX5_request 83 = .ok (.aload_n 0, 1) := by decide +kernel
theorem dX5_request_84 : decode cX5_request 84 = .ok (.getfield 48, 3) := by decide +kernel
theorem dX5_request_87 : decode cX5_request 87 = .ok (.iload_n 1, 1) := by decide +kernel
theorem dX5_request_88 : decode cX5_request 88 = .ok (.iconst 0, 1) := by decide +kernel
theorem dX5_request_89 : decode cX5_request 89 = .ok (.iastore, 1) := by decide +kernel
theorem dX5_request_90 : decode cX5_request 90 = .ok (.goto 40, 3) := by decide +kernel
theorem dX5_request_93 : decode cX5_request 93 = .ok (.iload_n 3, 1) := by decide +kernel
theorem dX5_request_94 : decode cX5_request 94 = .ok (.bipush 8, 2) := by decide +kernel
theorem dX5_request_96 : decode cX5_request 96 = .ok (.if_icmp .eq 34, 3) := by decide +kernel
theorem dX5_request_99 : decode cX5_request 99 = .ok (.aload_n 0, 1) := by decide +kernel
theorem dX5_request_100 : decode cX5_request 100 = .ok (.getfield 48, 3) := by decide +kernel
theorem dX5_request_103 : decode cX5_request 103 = .ok (.iload_n 1, 1) := by decide +kernel
theorem dX5_request_104 : decode cX5_request 104 = .ok (.dup2, 1) := by decide +kernel
theorem dX5_request_105 : decode cX5_request 105 = .ok (.iaload, 1) := by decide +kernel
theorem dX5_request_106 : decode cX5_request 106 = .ok (.iconst 1, 1) := by decide +kernel
theorem dX5_request_107 : decode cX5_request 107 = .ok (.iadd, 1) := by decide +kernel
theorem dX5_request_108 : decode cX5_request 108 = .ok (.iastore, 1) := by decide +kernel
theorem dX5_request_109 : decode cX5_request 109 = .ok (.aload_n 0, 1) := by decide +kernel
theorem dX5_request_110 : decode cX5_request 110 = .ok (.getfield 44, 3) := by decide +kernel
theorem dX5_request_113 : decode cX5_request 113 = .ok (.iload_n 1, 1) := by decide +kernel
theorem dX5_request_114 : decode cX5_request 114 = .ok (.aload_n 0, 1) := by decide +kernel
theorem dX5_request_115 : decode cX5_request 115 = .ok (.getfield 48, 3) := by decide +kernel
theorem dX5_request_118 : decode cX5_request 118 = .ok (.iload_n 1, 1) := by decide +kernel
theorem dX5_request_119 : decode cX5_request 119 = .ok (.iaload, 1) := by decide +kernel
theorem dX5_request_120 : decode cX5_request 120 = .ok (.iconst 3, 1) := by decide +kernel
theorem dX5_request_121 : decode cX5_request 121 = .ok (.if_icmp .lt 7, 3) := by decide +kernel
theorem dX5_request_124 : decode cX5_request 124 = .ok (.iconst 1, 1) := by decide +kernel
theorem dX5_request_125 : decode cX5_request 125 = .ok (.goto 4, 3) := by decide +kernel
theorem dX5_request_128 : decode cX5_request 128 = .ok (.iconst 0, 1) := by decide +kernel
theorem dX5_request_129 : decode cX5_request 129 = .ok (.bastore, 1) := by decide +kernel
theorem dX5_request_130 : decode cX5_request 130 = .ok (.iload_n 3, 1) := by decide +kernel
theorem dX5_request_131 : decode cX5_request 131 = .ok (.ireturn, 1) := by decide +kernel
theorem dX5_wouldBe_0 : decode cX5_wouldBe 0 = .ok (.aload_n 0, 1) := by decide +kernel
theorem dX5_wouldBe_1 : decode cX5_wouldBe 1 = .ok (.iconst 0, 1) := by decide +kernel
theorem dX5_wouldBe_2 : decode cX5_wouldBe 2 = .ok (.putfield 54, 3) := by decide +kernel
theorem dX5_wouldBe_5 : decode cX5_wouldBe 5 = .ok (.aload_n 0, 1) := by decide +kernel
theorem dX5_wouldBe_6 : decode cX5_wouldBe 6 = .ok (.iload_n 1, 1) := by decide +kernel
theorem dX5_wouldBe_7 : decode cX5_wouldBe 7 = .ok (.invokevirtual 112, 3) := by decide +kernel
theorem dX5_wouldBe_10 : decode cX5_wouldBe 10 = .ok (.ifCond .eq 20, 3) := by decide +kernel
theorem dX5_wouldBe_13 : decode cX5_wouldBe 13 = .ok (.aload_n 0, 1) := by decide +kernel
theorem dX5_wouldBe_14 : decode cX5_wouldBe 14 = .ok (.iload_n 2, 1) := by decide +kernel
theorem dX5_wouldBe_15 : decode cX5_wouldBe 15 = .ok (.invokevirtual 103, 3) := by decide +kernel
theorem dX5_wouldBe_18 : decode cX5_wouldBe 18 = .ok (.ifCond .eq 12, 3) := by decide +kernel
theorem dX5_wouldBe_21 : decode cX5_wouldBe 21 = .ok (.aload_n 0, 1) := by decide +kernel
theorem dX5_wouldBe_22 : decode cX5_wouldBe 22 = .ok (.iload_n 1, 1) := by decide +kernel
theorem dX5_wouldBe_23 : decode cX5_wouldBe 23 = .ok (.iload_n 2, 1) := by decide +kernel
theorem dX5_wouldBe_24 : decode cX5_wouldBe 24 = .ok (.invokevirtual 150, 3) := by decide +kernel
theorem dX5_wouldBe_27 : decode cX5_wouldBe 27 = .ok (.goto 8, 3) := by decide +kernel
theorem dX5_wouldBe_30 : decode cX5_wouldBe 30 = .ok (.aload_n 0, 1) := by decide +kernel
theorem dX5_wouldBe_31 : decode cX5_wouldBe 31 = .ok (.iconst 1, 1) := by decide +kernel
theorem dX5_wouldBe_32 : decode cX5_wouldBe 32 = .ok (.invokevirtual 67, 3) := by decide +kernel
theorem dX5_wouldBe_35 : decode cX5_wouldBe 35 = .ok (.ireturn, 1) := by decide +kernel
theorem dX5_now_0 : decode cX5_now 0 = .ok (.aload_n 0, 1) := by decide +kernel
theorem dX5_now_1 : decode cX5_now 1 = .ok (.iconst 0, 1) := by decide +kernel
theorem dX5_now_2 : decode cX5_now 2 = .ok (.putfield 54, 3) := by decide +kernel
theorem dX5_now_5 : decode cX5_now 5 = .ok (.aload_n 0, 1) := by decide +kernel
theorem dX5_now_6 : decode cX5_now 6 = .ok (.getfield 91, 3) := by decide +kernel
theorem dX5_now_9 : decode cX5_now 9 = .ok (.ireturn, 1) := by decide +kernel
theorem dX5_inside_0 : decode cX5_inside 0 = .ok (.aload_n 0, 1) := by decide +kernel
theorem dX5_inside_1 : decode cX5_inside 1 = .ok (.iconst 0, 1) := by decide +kernel
theorem dX5_inside_2 : decode cX5_inside 2 = .ok (.putfield 54, 3) := by decide +kernel
theorem dX5_inside_5 : decode cX5_inside 5 = .ok (.aload_n 0, 1) := by decide +kernel
theorem dX5_inside_6 : decode cX5_inside 6 = .ok (.iload_n 1, 1) := by decide +kernel
theorem dX5_inside_7 : decode cX5_inside 7 = .ok (.invokevirtual 71, 3) := by decide +kernel
theorem dX5_inside_10 : decode cX5_inside 10 = .ok (.ifCond .eq 11, 3) := by decide +kernel
theorem dX5_inside_13 : decode cX5_inside 13 = .ok (.aload_n 0, 1) := by decide +kernel
theorem dX5_inside_14 : decode cX5_inside 14 = .ok (.iload_n 1, 1) := by decide +kernel
theorem dX5_inside_15 : decode cX5_inside 15 = .ok (.invokevirtual 75, 3) := by decide +kernel
theorem dX5_inside_18 : decode cX5_inside 18 = .ok (.goto 8, 3) := by decide +kernel
theorem dX5_inside_21 : decode cX5_inside 21 = .ok (.aload_n 0, 1) := by decide +kernel
theorem dX5_inside_22 : decode cX5_inside 22 = .ok (.iconst 1, 1) := by decide +kernel
theorem dX5_inside_23 : decode cX5_inside 23 = .ok (.invokevirtual 67, 3) := by decide +kernel
theorem dX5_inside_26 : decode cX5_inside 26 = .ok (.ireturn, 1) := by decide +kernel
theorem dX5_alone_0 : decode cX5_alone 0 = .ok (.aload_n 0, 1) := by decide +kernel
theorem dX5_alone_1 : decode cX5_alone 1 = .ok (.iconst 0, 1) := by decide +kernel
theorem dX5_alone_2 : decode cX5_alone 2 = .ok (.putfield 54, 3) := by decide +kernel
theorem dX5_alone_5 : decode cX5_alone 5 = .ok (.iconst 0, 1) := by decide +kernel
theorem dX5_alone_6 : decode cX5_alone 6 = .ok (.istore_n 1, 1) := by decide +kernel
theorem dX5_alone_7 : decode cX5_alone 7 = .ok (.iconst 0, 1) := by decide +kernel
theorem dX5_alone_8 : decode cX5_alone 8 = .ok (.istore_n 2, 1) := by decide +kernel
theorem dX5_alone_9 : decode cX5_alone 9 = .ok (.iload_n 2, 1) := by decide +kernel
theorem dX5_alone_10 : decode cX5_alone 10 = .ok (.aload_n 0, 1) := by decide +kernel
theorem dX5_alone_11 : decode cX5_alone 11 = .ok (.getfield 60, 3) := by decide +kernel
theorem dX5_alone_14 : decode cX5_alone 14 = .ok (.if_icmp .ge 54, 3) := by decide +kernel
theorem dX5_alone_17 : decode cX5_alone 17 = .ok (.aload_n 0, 1) := by decide +kernel
theorem dX5_alone_18 : decode cX5_alone 18 = .ok (.getfield 41, 3) := by decide +kernel
theorem dX5_alone_21 : decode cX5_alone 21 = .ok (.iload_n 2, 1) := by decide +kernel
theorem dX5_alone_22 : decode cX5_alone 22 = .ok (.iaload, 1) := by decide +kernel
theorem dX5_alone_23 : decode cX5_alone 23 = .ok (.iconst (-1), 1) := by decide +kernel
theorem dX5_alone_24 : decode cX5_alone 24 = .ok (.if_icmp .eq 38, 3) := by decide +kernel
theorem dX5_alone_27 : decode cX5_alone 27 = .ok (.aload_n 0, 1) := by decide +kernel
theorem dX5_alone_28 : decode cX5_alone 28 = .ok (.getfield 35, 3) := by decide +kernel
theorem dX5_alone_31 : decode cX5_alone 31 = .ok (.iload_n 2, 1) := by decide +kernel
theorem dX5_alone_32 : decode cX5_alone 32 = .ok (.iaload, 1) := by decide +kernel
theorem dX5_alone_33 : decode cX5_alone 33 = .ok (.ifCond .eq 29, 3) := by decide +kernel
theorem dX5_alone_36 : decode cX5_alone 36 = .ok (.aload_n 0, 1) := by decide +kernel
theorem dX5_alone_37 : decode cX5_alone 37 = .ok (.getfield 35, 3) := by decide +kernel
theorem dX5_alone_40 : decode cX5_alone 40 = .ok (.iload_n 2, 1) := by decide +kernel
theorem dX5_alone_41 : decode cX5_alone 41 = .ok (.iaload, 1) := by decide +kernel
theorem dX5_alone_42 : decode cX5_alone 42 = .ok (.aload_n 0, 1) := by decide +kernel
theorem dX5_alone_43 : decode cX5_alone 43 = .ok (.getfield 35, 3) := by decide +kernel
theorem dX5_alone_46 : decode cX5_alone 46 = .ok (.aload_n 0, 1) := by decide +kernel
theorem dX5_alone_47 : decode cX5_alone 47 = .ok (.getfield 41, 3) := by decide +kernel
theorem dX5_alone_50 : decode cX5_alone 50 = .ok (.iload_n 2, 1) := by decide +kernel
theorem dX5_alone_51 : decode cX5_alone 51 = .ok (.iaload, 1) := by decide +kernel
theorem dX5_alone_52 : decode cX5_alone 52 = .ok (.iaload, 1) := by decide +kernel
theorem dX5_alone_53 : decode cX5_alone 53 = .ok (.if_icmp .eq 9, 3) := by decide +kernel
theorem dX5_alone_56 : decode cX5_alone 56 = .ok (.iload_n 1, 1) := by decide +kernel
theorem dX5_alone_57 : decode cX5_alone 57 = .ok (.iconst 1, 1) := by decide +kernel
theorem dX5_alone_58 : decode cX5_alone 58 = .ok (.iload_n 2, 1) := by decide +kernel
theorem dX5_alone_59 : decode cX5_alone 59 = .ok (.ishl, 1) := by decide +kernel
theorem dX5_alone_60 : decode cX5_alone 60 = .ok (.ior, 1) := by decide +kernel
theorem dX5_alone_61 : decode cX5_alone 61 = .ok (.istore_n 1, 1) := by decide +kernel
theorem dX5_alone_62 : decode cX5_alone 62 = .ok (.iinc 2 1, 3) := by decide +kernel
theorem dX5_alone_65 : decode cX5_alone 65 = .ok (.goto (-56), 3) := by decide +kernel
theorem dX5_alone_68 : decode cX5_alone 68 = .ok (.iload_n 1, 1) := by decide +kernel
theorem dX5_alone_69 : decode cX5_alone 69 = .ok (.ireturn, 1) := by decide +kernel
theorem dX5_wasIn_0 : decode cX5_wasIn 0 = .ok (.aload_n 0, 1) := by decide +kernel
theorem dX5_wasIn_1 : decode cX5_wasIn 1 = .ok (.iconst 0, 1) := by decide +kernel
theorem dX5_wasIn_2 : decode cX5_wasIn 2 = .ok (.putfield 54, 3) := by decide +kernel
theorem dX5_wasIn_5 : decode cX5_wasIn 5 = .ok (.aload_n 0, 1) := by decide +kernel
theorem dX5_wasIn_6 : decode cX5_wasIn 6 = .ok (.iload_n 1, 1) := by decide +kernel
theorem dX5_wasIn_7 : decode cX5_wasIn 7 = .ok (.invokevirtual 112, 3) := by decide +kernel
theorem dX5_wasIn_10 : decode cX5_wasIn 10 = .ok (.ifCond .ne 9, 3) := by decide +kernel
theorem dX5_wasIn_13 : decode cX5_wasIn 13 = .ok (.aload_n 0, 1) := by decide +kernel
theorem dX5_wasIn_14 : decode cX5_wasIn 14 = .ok (.iconst 1, 1) := by decide +kernel
theorem dX5_wasIn_15 : decode cX5_wasIn 15 = .ok (.invokevirtual 67, 3) := by decide +kernel
theorem dX5_wasIn_18 : decode cX5_wasIn 18 = .ok (.ireturn, 1) := by decide +kernel
theorem dX5_wasIn_19 : decode cX5_wasIn 19 = .ok (.iload_n 2, 1) := by decide +kernel
theorem dX5_wasIn_20 : decode cX5_wasIn 20 = .ok (.ifCond .lt 11, 3) := by decide +kernel
theorem dX5_wasIn_23 : decode cX5_wasIn 23 = .ok (.iload_n 2, 1) := by decide +kernel
theorem dX5_wasIn_24 : decode cX5_wasIn 24 = .ok (.aload_n 0, 1) := by decide +kernel
theorem dX5_wasIn_25 : decode cX5_wasIn 25 = .ok (.getfield 91, 3) := by decide +kernel
theorem dX5_wasIn_28 : decode cX5_wasIn 28 = .ok (.if_icmp .le 9, 3) := by decide +kernel
theorem dX5_wasIn_31 : decode cX5_wasIn 31 = .ok (.aload_n 0, 1) := by decide +kernel
theorem dX5_wasIn_32 : decode cX5_wasIn 32 = .ok (.iconst 2, 1) := by decide +kernel
theorem dX5_wasIn_33 : decode cX5_wasIn 33 = .ok (.invokevirtual 67, 3) := by decide +kernel
theorem dX5_wasIn_36 : decode cX5_wasIn 36 = .ok (.ireturn, 1) := by decide +kernel
theorem dX5_wasIn_37 : decode cX5_wasIn 37 = .ok (.iconst 0, 1) := by decide +kernel
theorem dX5_wasIn_38 : decode cX5_wasIn 38 = .ok (.istore_n 3, 1) := by decide +kernel
theorem dX5_wasIn_39 : decode cX5_wasIn 39 = .ok (.iconst 0, 1) := by decide +kernel
theorem dX5_wasIn_40 : decode cX5_wasIn 40 = .ok (.istore 4, 2) := by decide +kernel
theorem dX5_wasIn_42 : decode cX5_wasIn 42 = .ok (.iload 4, 2) := by decide +kernel
theorem dX5_wasIn_44 : decode cX5_wasIn 44 = .ok (.aload_n 0, 1) := by decide +kernel
theorem dX5_wasIn_45 : decode cX5_wasIn 45 = .ok (.getfield 141, 3) := by decide +kernel
theorem dX5_wasIn_48 : decode cX5_wasIn 48 = .ok (.if_icmp .ge 49, 3) := by decide +kernel
theorem dX5_wasIn_51 : decode cX5_wasIn 51 = .ok (.aload_n 0, 1) := by decide +kernel
theorem dX5_wasIn_52 : decode cX5_wasIn 52 = .ok (.getfield 51, 3) := by decide +kernel
theorem dX5_wasIn_55 : decode cX5_wasIn 55 = .ok (.iconst 3, 1) := by decide +kernel
theorem dX5_wasIn_56 : decode cX5_wasIn 56 = .ok (.iload 4, 2) := by decide +kernel
theorem dX5_wasIn_58 : decode cX5_wasIn 58 = .ok (.imul, 1) := by decide +kernel
theorem dX5_wasIn_59 : decode cX5_wasIn 59 = .ok (.iaload, 1) := by decide +kernel
theorem dX5_wasIn_60 : decode cX5_wasIn 60 = .ok (.iload_n 1, 1) := by decide +kernel
theorem dX5_wasIn_61 : decode cX5_wasIn 61 = .ok (.if_icmp .ne 30, 3) := by decide +kernel
theorem dX5_wasIn_64 : decode cX5_wasIn 64 = .ok (.aload_n 0, 1) := by decide +kernel
theorem dX5_wasIn_65 : decode cX5_wasIn 65 = .ok (.getfield 51, 3) := by decide +kernel
theorem dX5_wasIn_68 : decode cX5_wasIn 68 = .ok (.iconst 3, 1) := by decide +kernel
theorem dX5_wasIn_69 : decode cX5_wasIn 69 = .ok (.iload 4, 2) := by decide +kernel
theorem dX5_wasIn_71 : decode cX5_wasIn 71 = .ok (.imul, 1) := by decide +kernel
theorem dX5_wasIn_72 : decode cX5_wasIn 72 = .ok (.iconst 1, 1) := by decide +kernel
theorem dX5_wasIn_73 : decode cX5_wasIn 73 = .ok (.iadd, 1) := by decide +kernel
theorem dX5_wasIn_74 : decode cX5_wasIn 74 = .ok (.iaload, 1) := by decide +kernel
theorem dX5_wasIn_75 : decode cX5_wasIn 75 = .ok (.iload_n 2, 1) := by decide +kernel
theorem dX5_wasIn_76 : decode cX5_wasIn 76 = .ok (.if_icmp .gt 15, 3) := by decide +kernel
theorem dX5_wasIn_79 : decode cX5_wasIn 79 = .ok (.aload_n 0, 1) := by decide +kernel
theorem dX5_wasIn_80 : decode cX5_wasIn 80 = .ok (.getfield 51, 3) := by decide +kernel
theorem dX5_wasIn_83 : decode cX5_wasIn 83 = .ok (.iconst 3, 1) := by decide +kernel
theorem dX5_wasIn_84 : decode cX5_wasIn 84 = .ok (.iload 4, 2) := by decide +kernel
theorem dX5_wasIn_86 : decode cX5_wasIn 86 = .ok (.imul, 1) := by decide +kernel
theorem dX5_wasIn_87 : decode cX5_wasIn 87 = .ok (.iconst 2, 1) := by decide +kernel
theorem dX5_wasIn_88 : decode cX5_wasIn 88 = .ok (.iadd, 1) := by decide +kernel
theorem dX5_wasIn_89 : decode cX5_wasIn 89 = .ok (.iaload, 1) := by decide +kernel
theorem dX5_wasIn_90 : decode cX5_wasIn 90 = .ok (.istore_n 3, 1) := by decide +kernel
theorem dX5_wasIn_91 : decode cX5_wasIn 91 = .ok (.iinc 4 1, 3) := by decide +kernel
theorem dX5_wasIn_94 : decode cX5_wasIn 94 = .ok (.goto (-52), 3) := by decide +kernel
theorem dX5_wasIn_97 : decode cX5_wasIn 97 = .ok (.iload_n 3, 1) := by decide +kernel
theorem dX5_wasIn_98 : decode cX5_wasIn 98 = .ok (.ireturn, 1) := by decide +kernel
theorem dX5_minutesIn_0 : decode cX5_minutesIn 0 = .ok (.aload_n 0, 1) := by decide +kernel
theorem dX5_minutesIn_1 : decode cX5_minutesIn 1 = .ok (.iconst 0, 1) := by decide +kernel
theorem dX5_minutesIn_2 : decode cX5_minutesIn 2 = .ok (.putfield 54, 3) := by decide +kernel
theorem dX5_minutesIn_5 : decode cX5_minutesIn 5 = .ok (.aload_n 0, 1) := by decide +kernel
theorem dX5_minutesIn_6 : decode cX5_minutesIn 6 = .ok (.iload_n 1, 1) := by decide +kernel
theorem dX5_minutesIn_7 : decode cX5_minutesIn 7 = .ok (.invokevirtual 112, 3) := by decide +kernel
theorem dX5_minutesIn_10 : decode cX5_minutesIn 10 = .ok (.ifCond .eq 11, 3) := by decide +kernel
theorem dX5_minutesIn_13 : decode cX5_minutesIn 13 = .ok (.aload_n 0, 1) := by decide +kernel
theorem dX5_minutesIn_14 : decode cX5_minutesIn 14 = .ok (.iload_n 2, 1) := by decide +kernel
theorem dX5_minutesIn_15 : decode cX5_minutesIn 15 = .ok (.invokevirtual 71, 3) := by decide +kernel
theorem dX5_minutesIn_18 : decode cX5_minutesIn 18 = .ok (.ifCond .ne 9, 3) := by decide +kernel
theorem dX5_minutesIn_21 : decode cX5_minutesIn 21 = .ok (.aload_n 0, 1) := by decide +kernel
theorem dX5_minutesIn_22 : decode cX5_minutesIn 22 = .ok (.iconst 1, 1) := by decide +kernel
theorem dX5_minutesIn_23 : decode cX5_minutesIn 23 = .ok (.invokevirtual 67, 3) := by decide +kernel
theorem dX5_minutesIn_26 : decode cX5_minutesIn 26 = .ok (.ireturn, 1) := by decide +kernel
theorem dX5_minutesIn_27 : decode cX5_minutesIn 27 = .ok (.iconst 0, 1) := by decide +kernel
theorem dX5_minutesIn_28 : decode cX5_minutesIn 28 = .ok (.istore_n 3, 1) := by decide +kernel
theorem dX5_minutesIn_29 : decode cX5_minutesIn 29 = .ok (.iconst 0, 1) := by decide +kernel
theorem dX5_minutesIn_30 : decode cX5_minutesIn 30 = .ok (.istore 4, 2) := by decide +kernel
theorem dX5_minutesIn_32 : decode cX5_minutesIn 32 = .ok (.iconst 0, 1) := by decide +kernel
theorem dX5_minutesIn_33 : decode cX5_minutesIn 33 = .ok (.istore 5, 2) := by decide +kernel
theorem dX5_minutesIn_35 : decode cX5_minutesIn 35 = .ok (.iconst 0, 1) := by decide +kernel
theorem dX5_minutesIn_36 : decode cX5_minutesIn 36 = .ok (.istore 6, 2) := by decide +kernel
theorem dX5_minutesIn_38 : decode cX5_minutesIn 38 = .ok (.iload 6, 2) := by decide +kernel
theorem dX5_minutesIn_40 : decode cX5_minutesIn 40 = .ok (.aload_n 0, 1) := by decide +kernel
theorem dX5_minutesIn_41 : decode cX5_minutesIn 41 = .ok (.getfield 141, 3) := by decide +kernel
theorem dX5_minutesIn_44 : decode cX5_minutesIn 44 = .ok (.if_icmp .ge 78, 3) := by decide +kernel
theorem dX5_minutesIn_47 : decode cX5_minutesIn 47 = .ok (.aload_n 0, 1) := by decide +kernel
theorem dX5_minutesIn_48 : decode cX5_minutesIn 48 = .ok (.getfield 51, 3) := by decide +kernel
theorem dX5_minutesIn_51 : decode cX5_minutesIn 51 = .ok (.iconst 3, 1) := by decide +kernel
theorem dX5_minutesIn_52 : decode cX5_minutesIn 52 = .ok (.iload 6, 2) := by decide +kernel
theorem dX5_minutesIn_54 : decode cX5_minutesIn 54 = .ok (.imul, 1) := by decide +kernel
theorem dX5_minutesIn_55 : decode cX5_minutesIn 55 = .ok (.iaload, 1) := by decide +kernel
theorem dX5_minutesIn_56 : decode cX5_minutesIn 56 = .ok (.iload_n 1, 1) := by decide +kernel
theorem dX5_minutesIn_57 : decode cX5_minutesIn 57 = .ok (.if_icmp .eq 6, 3) := by decide +kernel
theorem dX5_minutesIn_60 : decode cX5_minutesIn 60 = .ok (.goto 56, 3) := by decide +kernel
theorem dX5_minutesIn_63 : decode cX5_minutesIn 63 = .ok (.iload_n 3, 1) := by decide +kernel
theorem dX5_minutesIn_64 : decode cX5_minutesIn 64 = .ok (.iload 5, 2) := by decide +kernel
theorem dX5_minutesIn_66 : decode cX5_minutesIn 66 = .ok (.iload_n 2, 1) := by decide +kernel
theorem dX5_minutesIn_67 : decode cX5_minutesIn 67 = .ok (.if_icmp .ne 20, 3) := by decide +kernel
theorem dX5_minutesIn_70 : decode cX5_minutesIn 70 = .ok (.aload_n 0, 1) := by decide +kernel
theorem dX5_minutesIn_71 : decode cX5_minutesIn 71 = .ok (.getfield 51, 3) := by decide +kernel
theorem dX5_minutesIn_74 : decode cX5_minutesIn 74 = .ok (.iconst 3, 1) := by decide +kernel
theorem dX5_minutesIn_75 : decode cX5_minutesIn 75 = .ok (.iload 6, 2) := by decide +kernel
theorem dX5_minutesIn_77 : decode cX5_minutesIn 77 = .ok (.imul, 1) := by decide +kernel
theorem dX5_minutesIn_78 : decode cX5_minutesIn 78 = .ok (.iconst 1, 1) := by decide +kernel
theorem dX5_minutesIn_79 : decode cX5_minutesIn 79 = .ok (.iadd, 1) := by decide +kernel
theorem dX5_minutesIn_80 : decode cX5_minutesIn 80 = .ok (.iaload, 1) := by decide +kernel
theorem dX5_minutesIn_81 : decode cX5_minutesIn 81 = .ok (.iload 4, 2) := by decide +kernel
theorem dX5_minutesIn_83 : decode cX5_minutesIn 83 = .ok (.isub, 1) := by decide +kernel
theorem dX5_minutesIn_84 : decode cX5_minutesIn 84 = .ok (.goto 4, 3) := by decide +kernel
theorem dX5_minutesIn_87 : decode cX5_minutesIn 87 = .ok (.iconst 0, 1) := by decide +kernel
theorem dX5_minutesIn_88 : decode cX5_minutesIn 88 = .ok (.iadd, 1) := by decide +kernel
theorem dX5_minutesIn_89 : decode cX5_minutesIn 89 = .ok (.istore_n 3, 1) := by decide +kernel
theorem dX5_minutesIn_90 : decode cX5_minutesIn 90 = .ok (.aload_n 0, 1) := by decide +kernel
theorem dX5_minutesIn_91 : decode cX5_minutesIn 91 = .ok (.getfield 51, 3) := by decide +kernel
theorem dX5_minutesIn_94 : decode cX5_minutesIn 94 = .ok (.iconst 3, 1) := by decide +kernel
theorem dX5_minutesIn_95 : decode cX5_minutesIn 95 = .ok (.iload 6, 2) := by decide +kernel
theorem dX5_minutesIn_97 : decode cX5_minutesIn 97 = .ok (.imul, 1) := by decide +kernel
theorem dX5_minutesIn_98 : decode cX5_minutesIn 98 = .ok (.iconst 1, 1) := by decide +kernel
theorem dX5_minutesIn_99 : decode cX5_minutesIn 99 = .ok (.iadd, 1) := by decide +kernel
theorem dX5_minutesIn_100 : decode cX5_minutesIn 100 = .ok (.iaload, 1) := by decide +kernel
theorem dX5_minutesIn_101 : decode cX5_minutesIn 101 = .ok (.istore 4, 2) := by decide +kernel
theorem dX5_minutesIn_103 : decode cX5_minutesIn 103 = .ok (.aload_n 0, 1) := by decide +kernel
theorem dX5_minutesIn_104 : decode cX5_minutesIn 104 = .ok (.getfield 51, 3) := by decide +kernel
theorem dX5_minutesIn_107 : decode cX5_minutesIn 107 = .ok (.iconst 3, 1) := by decide +kernel
theorem dX5_minutesIn_108 : decode cX5_minutesIn 108 = .ok (.iload 6, 2) := by decide +kernel
theorem dX5_minutesIn_110 : decode cX5_minutesIn 110 = .ok (.imul, 1) := by decide +kernel
theorem dX5_minutesIn_111 : decode cX5_minutesIn 111 = .ok (.iconst 2, 1) := by decide +kernel
theorem dX5_minutesIn_112 : decode cX5_minutesIn 112 = .ok (.iadd, 1) := by decide +kernel
theorem dX5_minutesIn_113 : decode cX5_minutesIn 113 = .ok (.iaload, 1) := by decide +kernel
theorem dX5_minutesIn_114 : decode cX5_minutesIn 114 = .ok (.istore 5, 2) := by decide +kernel
theorem dX5_minutesIn_116 : decode cX5_minutesIn 116 = .ok (.iinc 6 1, 3) := by decide +kernel
theorem dX5_minutesIn_119 : decode cX5_minutesIn 119 = .ok (.goto (-81), 3) := by decide +kernel
theorem dX5_minutesIn_122 : decode cX5_minutesIn 122 = .ok (.iload_n 3, 1) := by decide +kernel
theorem dX5_minutesIn_123 : decode cX5_minutesIn 123 = .ok (.iload 5, 2) := by decide +kernel
theorem dX5_minutesIn_125 : decode cX5_minutesIn 125 = .ok (.iload_n 2, 1) := by decide +kernel
theorem dX5_minutesIn_126 : decode cX5_minutesIn 126 = .ok (.if_icmp .ne 13, 3) := by decide +kernel
theorem dX5_minutesIn_129 : decode cX5_minutesIn 129 = .ok (.aload_n 0, 1) := by decide +kernel
theorem dX5_minutesIn_130 : decode cX5_minutesIn 130 = .ok (.getfield 91, 3) := by decide +kernel
theorem dX5_minutesIn_133 : decode cX5_minutesIn 133 = .ok (.iload 4, 2) := by decide +kernel
theorem dX5_minutesIn_135 : decode cX5_minutesIn 135 = .ok (.isub, 1) := by decide +kernel
theorem dX5_minutesIn_136 : decode cX5_minutesIn 136 = .ok (.goto 4, 3) := by decide +kernel
theorem dX5_minutesIn_139 : decode cX5_minutesIn 139 = .ok (.iconst 0, 1) := by decide +kernel
theorem dX5_minutesIn_140 : decode cX5_minutesIn 140 = .ok (.iadd, 1) := by decide +kernel
theorem dX5_minutesIn_141 : decode cX5_minutesIn 141 = .ok (.ireturn, 1) := by decide +kernel
theorem dX5_presence_0 : decode cX5_presence 0 = .ok (.aload_n 0, 1) := by decide +kernel
theorem dX5_presence_1 : decode cX5_presence 1 = .ok (.iconst 0, 1) := by decide +kernel
theorem dX5_presence_2 : decode cX5_presence 2 = .ok (.putfield 54, 3) := by decide +kernel
theorem dX5_presence_5 : decode cX5_presence 5 = .ok (.aload_n 0, 1) := by decide +kernel
theorem dX5_presence_6 : decode cX5_presence 6 = .ok (.getfield 60, 3) := by decide +kernel
theorem dX5_presence_9 : decode cX5_presence 9 = .ok (.ifCond .ne 7, 3) := by decide +kernel
theorem dX5_presence_12 : decode cX5_presence 12 = .ok (.dconst 0, 1) := by decide +kernel
theorem dX5_presence_13 : decode cX5_presence 13 = .ok (.goto 23, 3) := by decide +kernel
theorem dX5_presence_16 : decode cX5_presence 16 = .ok (.aload_n 0, 1) := by decide +kernel
theorem dX5_presence_17 : decode cX5_presence 17 = .ok (.getfield 60, 3) := by decide +kernel
theorem dX5_presence_20 : decode cX5_presence 20 = .ok (.aload_n 0, 1) := by decide +kernel
theorem dX5_presence_21 : decode cX5_presence 21 = .ok (.iconst 0, 1) := by decide +kernel
theorem dX5_presence_22 : decode cX5_presence 22 = .ok (.invokevirtual 75, 3) := by decide +kernel
theorem dX5_presence_25 : decode cX5_presence 25 = .ok (.invokestatic 78, 3) := by decide +kernel
theorem dX5_presence_28 : decode cX5_presence 28 = .ok (.isub, 1) := by decide +kernel
theorem dX5_presence_29 : decode cX5_presence 29 = .ok (.i2d, 1) := by decide +kernel
theorem dX5_presence_30 : decode cX5_presence 30 = .ok (.aload_n 0, 1) := by decide +kernel
theorem dX5_presence_31 : decode cX5_presence 31 = .ok (.getfield 60, 3) := by decide +kernel
theorem dX5_presence_34 : decode cX5_presence 34 = .ok (.i2d, 1) := by decide +kernel
theorem dX5_presence_35 : decode cX5_presence 35 = .ok (.ddiv, 1) := by decide +kernel
theorem dX5_presence_36 : decode cX5_presence 36 = .ok (.dreturn, 1) := by decide +kernel
theorem dX5_allowed_0 : decode cX5_allowed 0 = .ok (.iconst 1, 1) := by decide +kernel
theorem dX5_allowed_1 : decode cX5_allowed 1 = .ok (.istore_n 2, 1) := by decide +kernel
theorem dX5_allowed_2 : decode cX5_allowed 2 = .ok (.iconst 1, 1) := by decide +kernel
theorem dX5_allowed_3 : decode cX5_allowed 3 = .ok (.istore_n 3, 1) := by decide +kernel
theorem dX5_allowed_4 : decode cX5_allowed 4 = .ok (.iload_n 3, 1) := by decide +kernel
theorem dX5_allowed_5 : decode cX5_allowed 5 = .ok (.aload_n 0, 1) := by decide +kernel
theorem dX5_allowed_6 : decode cX5_allowed 6 = .ok (.getfield 7, 3) := by decide +kernel
theorem dX5_allowed_9 : decode cX5_allowed 9 = .ok (.if_icmp .ge 35, 3) := by decide +kernel
theorem dX5_allowed_12 : decode cX5_allowed 12 = .ok (.aload_n 0, 1) := by decide +kernel
theorem dX5_allowed_13 : decode cX5_allowed 13 = .ok (.iload_n 3, 1) := by decide +kernel
theorem dX5_allowed_14 : decode cX5_allowed 14 = .ok (.invokevirtual 94, 3) := by decide +kernel
theorem dX5_allowed_17 : decode cX5_allowed 17 = .ok (.ifCond .eq 21, 3) := by decide +kernel
theorem dX5_allowed_20 : decode cX5_allowed 20 = .ok (.aload_n 0, 1) := by decide +kernel
theorem dX5_allowed_21 : decode cX5_allowed 21 = .ok (.iload_n 1, 1) := by decide +kernel
theorem dX5_allowed_22 : decode cX5_allowed 22 = .ok (.invokevirtual 115, 3) := by decide +kernel
theorem dX5_allowed_25 : decode cX5_allowed 25 = .ok (.iload_n 3, 1) := by decide +kernel
theorem dX5_allowed_26 : decode cX5_allowed 26 = .ok (.invokestatic 83, 3) := by decide +kernel
theorem dX5_allowed_29 : decode cX5_allowed 29 = .ok (.ifCond .eq 9, 3) := by decide +kernel
theorem dX5_allowed_32 : decode cX5_allowed 32 = .ok (.iload_n 2, 1) := by decide +kernel
theorem dX5_allowed_33 : decode cX5_allowed 33 = .ok (.iconst 1, 1) := by decide +kernel
theorem dX5_allowed_34 : decode cX5_allowed 34 = .ok (.iload_n 3, 1) := by decide +kernel
theorem dX5_allowed_35 : decode cX5_allowed 35 = .ok (.ishl, 1) := by decide +kernel
theorem dX5_allowed_36 : decode cX5_allowed 36 = .ok (.ior, 1) := by decide +kernel
theorem dX5_allowed_37 : decode cX5_allowed 37 = .ok (.istore_n 2, 1) := by decide +kernel
theorem dX5_allowed_38 : decode cX5_allowed 38 = .ok (.iinc 3 1, 3) := by decide +kernel
theorem dX5_allowed_41 : decode cX5_allowed 41 = .ok (.goto (-37), 3) := by decide +kernel
theorem dX5_allowed_44 : decode cX5_allowed 44 = .ok (.iload_n 2, 1) := by decide +kernel
theorem dX5_allowed_45 : decode cX5_allowed 45 = .ok (.ireturn, 1) := by decide +kernel
theorem dX5_wayOf_0 : decode cX5_wayOf 0 = .ok (.aload_n 0, 1) := by decide +kernel
theorem dX5_wayOf_1 : decode cX5_wayOf 1 = .ok (.aload_n 0, 1) := by decide +kernel
theorem dX5_wayOf_2 : decode cX5_wayOf 2 = .ok (.getfield 35, 3) := by decide +kernel
theorem dX5_wayOf_5 : decode cX5_wayOf 5 = .ok (.iload_n 1, 1) := by decide +kernel
theorem dX5_wayOf_6 : decode cX5_wayOf 6 = .ok (.iaload, 1) := by decide +kernel
theorem dX5_wayOf_7 : decode cX5_wayOf 7 = .ok (.iload_n 2, 1) := by decide +kernel
theorem dX5_wayOf_8 : decode cX5_wayOf 8 = .ok (.aload_n 0, 1) := by decide +kernel
theorem dX5_wayOf_9 : decode cX5_wayOf 9 = .ok (.iload_n 1, 1) := by decide +kernel
theorem dX5_wayOf_10 : decode cX5_wayOf 10 = .ok (.invokevirtual 157, 3) := by decide +kernel
theorem dX5_wayOf_13 : decode cX5_wayOf 13 = .ok (.invokevirtual 87, 3) := by decide +kernel
theorem dX5_wayOf_16 : decode cX5_wayOf 16 = .ok (.ireturn, 1) := by decide +kernel
theorem dX5_way_0 : decode cX5_way 0 = .ok (.aload_n 0, 1) := by decide +kernel
theorem dX5_way_1 : decode cX5_way 1 = .ok (.iconst 0, 1) := by decide +kernel
theorem dX5_way_2 : decode cX5_way 2 = .ok (.putfield 54, 3) := by decide +kernel
theorem dX5_way_5 : decode cX5_way 5 = .ok (.aload_n 0, 1) := by decide +kernel
theorem dX5_way_6 : decode cX5_way 6 = .ok (.iload_n 1, 1) := by decide +kernel
theorem dX5_way_7 : decode cX5_way 7 = .ok (.invokevirtual 112, 3) := by decide +kernel
theorem dX5_way_10 : decode cX5_way 10 = .ok (.ifCond .eq 20, 3) := by decide +kernel
theorem dX5_way_13 : decode cX5_way 13 = .ok (.aload_n 0, 1) := by decide +kernel
theorem dX5_way_14 : decode cX5_way 14 = .ok (.iload_n 2, 1) := by decide +kernel
theorem dX5_way_15 : decode cX5_way 15 = .ok (.invokevirtual 71, 3) := by decide +kernel
theorem dX5_way_18 : decode cX5_way 18 = .ok (.ifCond .eq 12, 3) := by decide +kernel
theorem dX5_way_21 : decode cX5_way 21 = .ok (.aload_n 0, 1) := by decide +kernel
theorem dX5_way_22 : decode cX5_way 22 = .ok (.iload_n 1, 1) := by decide +kernel
theorem dX5_way_23 : decode cX5_way 23 = .ok (.iload_n 2, 1) := by decide +kernel
theorem dX5_way_24 : decode cX5_way 24 = .ok (.invokevirtual 160, 3) := by decide +kernel
theorem dX5_way_27 : decode cX5_way 27 = .ok (.goto 8, 3) := by decide +kernel
theorem dX5_way_30 : decode cX5_way 30 = .ok (.aload_n 0, 1) := by decide +kernel
theorem dX5_way_31 : decode cX5_way 31 = .ok (.iconst 1, 1) := by decide +kernel
theorem dX5_way_32 : decode cX5_way 32 = .ok (.invokevirtual 67, 3) := by decide +kernel
theorem dX5_way_35 : decode cX5_way 35 = .ok (.ireturn, 1) := by decide +kernel
theorem dX5_next_0 : decode cX5_next 0 = .ok (.aload_n 0, 1) := by decide +kernel
theorem dX5_next_1 : decode cX5_next 1 = .ok (.iconst 0, 1) := by decide +kernel
theorem dX5_next_2 : decode cX5_next 2 = .ok (.putfield 54, 3) := by decide +kernel
theorem dX5_next_5 : decode cX5_next 5 = .ok (.aload_n 0, 1) := by decide +kernel
theorem dX5_next_6 : decode cX5_next 6 = .ok (.iload_n 1, 1) := by decide +kernel
theorem dX5_next_7 : decode cX5_next 7 = .ok (.invokevirtual 112, 3) := by decide +kernel
theorem dX5_next_10 : decode cX5_next 10 = .ok (.ifCond .eq 11, 3) := by decide +kernel
theorem dX5_next_13 : decode cX5_next 13 = .ok (.aload_n 0, 1) := by decide +kernel
theorem dX5_next_14 : decode cX5_next 14 = .ok (.iload_n 2, 1) := by decide +kernel
theorem dX5_next_15 : decode cX5_next 15 = .ok (.invokevirtual 71, 3) := by decide +kernel
theorem dX5_next_18 : decode cX5_next 18 = .ok (.ifCond .ne 9, 3) := by decide +kernel
theorem dX5_next_21 : decode cX5_next 21 = .ok (.aload_n 0, 1) := by decide +kernel
theorem dX5_next_22 : decode cX5_next 22 = .ok (.iconst 1, 1) := by decide +kernel
theorem dX5_next_23 : decode cX5_next 23 = .ok (.invokevirtual 67, 3) := by decide +kernel
theorem dX5_next_26 : decode cX5_next 26 = .ok (.ireturn, 1) := by decide +kernel
theorem dX5_next_27 : decode cX5_next 27 = .ok (.aload_n 0, 1) := by decide +kernel
theorem dX5_next_28 : decode cX5_next 28 = .ok (.iload_n 1, 1) := by decide +kernel
theorem dX5_next_29 : decode cX5_next 29 = .ok (.iload_n 2, 1) := by decide +kernel
theorem dX5_next_30 : decode cX5_next 30 = .ok (.invokevirtual 160, 3) := by decide +kernel
theorem dX5_next_33 : decode cX5_next 33 = .ok (.istore_n 3, 1) := by decide +kernel
theorem dX5_next_34 : decode cX5_next 34 = .ok (.aload_n 0, 1) := by decide +kernel
theorem dX5_next_35 : decode cX5_next 35 = .ok (.iload_n 1, 1) := by decide +kernel
theorem dX5_next_36 : decode cX5_next 36 = .ok (.invokevirtual 157, 3) := by decide +kernel
theorem dX5_next_39 : decode cX5_next 39 = .ok (.istore 4, 2) := by decide +kernel
theorem dX5_next_41 : decode cX5_next 41 = .ok (.iconst 0, 1) := by decide +kernel
theorem dX5_next_42 : decode cX5_next 42 = .ok (.istore 5, 2) := by decide +kernel
theorem dX5_next_44 : decode cX5_next 44 = .ok (.iload 5, 2) := by decide +kernel
theorem dX5_next_46 : decode cX5_next 46 = .ok (.aload_n 0, 1) := by decide +kernel
theorem dX5_next_47 : decode cX5_next 47 = .ok (.getfield 57, 3) := by decide +kernel
theorem dX5_next_50 : decode cX5_next 50 = .ok (.if_icmp .ge 61, 3) := by decide +kernel
theorem dX5_next_53 : decode cX5_next 53 = .ok (.iload_n 3, 1) := by decide +kernel
theorem dX5_next_54 : decode cX5_next 54 = .ok (.ifCond .le 57, 3) := by decide +kernel
theorem dX5_next_57 : decode cX5_next 57 = .ok (.aload_n 0, 1) := by decide +kernel
theorem dX5_next_58 : decode cX5_next 58 = .ok (.iload 5, 2) := by decide +kernel
theorem dX5_next_60 : decode cX5_next 60 = .ok (.aload_n 0, 1) := by decide +kernel
theorem dX5_next_61 : decode cX5_next 61 = .ok (.getfield 35, 3) := by decide +kernel
theorem dX5_next_64 : decode cX5_next 64 = .ok (.iload_n 1, 1) := by decide +kernel
theorem dX5_next_65 : decode cX5_next 65 = .ok (.iaload, 1) := by decide +kernel
theorem dX5_next_66 : decode cX5_next 66 = .ok (.invokevirtual 126, 3) := by decide +kernel
theorem dX5_next_69 : decode cX5_next 69 = .ok (.istore 6, 2) := by decide +kernel
theorem dX5_next_71 : decode cX5_next 71 = .ok (.iload 6, 2) := by decide +kernel
theorem dX5_next_73 : decode cX5_next 73 = .ok (.iconst (-1), 1) := by decide +kernel
theorem dX5_next_74 : decode cX5_next 74 = .ok (.if_icmp .eq 31, 3) := by decide +kernel
theorem dX5_next_77 : decode cX5_next 77 = .ok (.iload 4, 2) := by decide +kernel
theorem dX5_next_79 : decode cX5_next 79 = .ok (.iload 6, 2) := by decide +kernel
theorem dX5_next_81 : decode cX5_next 81 = .ok (.invokestatic 83, 3) := by decide +kernel
theorem dX5_next_84 : decode cX5_next 84 = .ok (.ifCond .eq 21, 3) := by decide +kernel
theorem dX5_next_87 : decode cX5_next 87 = .ok (.aload_n 0, 1) := by decide +kernel
theorem dX5_next_88 : decode cX5_next 88 = .ok (.iload 6, 2) := by decide +kernel
theorem dX5_next_90 : decode cX5_next 90 = .ok (.iload_n 2, 1) := by decide +kernel
theorem dX5_next_91 : decode cX5_next 91 = .ok (.iload 4, 2) := by decide +kernel
theorem dX5_next_93 : decode cX5_next 93 = .ok (.invokevirtual 87, 3) := by decide +kernel
theorem dX5_next_96 : decode cX5_next 96 = .ok (.iload_n 3, 1) := by decide +kernel
theorem dX5_next_97 : decode cX5_next 97 = .ok (.iconst 1, 1) := by decide +kernel
theorem dX5_next_98 : decode cX5_next 98 = .ok (.isub, 1) := by decide +kernel
theorem dX5_next_99 : decode cX5_next 99 = .ok (.if_icmp .ne 6, 3) := by decide +kernel
theorem dX5_next_102 : decode cX5_next 102 = .ok (.iload 5, 2) := by decide +kernel
theorem dX5_next_104 : decode cX5_next 104 = .ok (.ireturn, 1) := by decide +kernel
theorem dX5_next_105 : decode cX5_next 105 = .ok (.iinc 5 1, 3) := by decide +kernel
theorem dX5_next_108 : decode cX5_next 108 = .ok (.goto (-64), 3) := by decide +kernel
theorem dX5_next_111 : decode cX5_next 111 = .ok (.iconst (-1), 1) := by decide +kernel
theorem dX5_next_112 : decode cX5_next 112 = .ok (.ireturn, 1) := by decide +kernel
theorem dX5_canCome_0 : decode cX5_canCome 0 = .ok (.aload_n 0, 1) := by decide +kernel
theorem dX5_canCome_1 : decode cX5_canCome 1 = .ok (.iconst 0, 1) := by decide +kernel
theorem dX5_canCome_2 : decode cX5_canCome 2 = .ok (.putfield 54, 3) := by decide +kernel
theorem dX5_canCome_5 : decode cX5_canCome 5 = .ok (.aload_n 0, 1) := by decide +kernel
theorem dX5_canCome_6 : decode cX5_canCome 6 = .ok (.iload_n 1, 1) := by decide +kernel
theorem dX5_canCome_7 : decode cX5_canCome 7 = .ok (.invokevirtual 71, 3) := by decide +kernel
theorem dX5_canCome_10 : decode cX5_canCome 10 = .ok (.ifCond .ne 9, 3) := by decide +kernel
theorem dX5_canCome_13 : decode cX5_canCome 13 = .ok (.aload_n 0, 1) := by decide +kernel
theorem dX5_canCome_14 : decode cX5_canCome 14 = .ok (.iconst 1, 1) := by decide +kernel
theorem dX5_canCome_15 : decode cX5_canCome 15 = .ok (.invokevirtual 67, 3) := by decide +kernel
theorem dX5_canCome_18 : decode cX5_canCome 18 = .ok (.ireturn, 1) := by decide +kernel
theorem dX5_canCome_19 : decode cX5_canCome 19 = .ok (.iconst 0, 1) := by decide +kernel
theorem dX5_canCome_20 : decode cX5_canCome 20 = .ok (.istore_n 2, 1) := by decide +kernel
theorem dX5_canCome_21 : decode cX5_canCome 21 = .ok (.iconst 0, 1) := by decide +kernel
theorem dX5_canCome_22 : decode cX5_canCome 22 = .ok (.istore_n 3, 1) := by decide +kernel
theorem dX5_canCome_23 : decode cX5_canCome 23 = .ok (.iload_n 3, 1) := by decide +kernel
theorem dX5_canCome_24 : decode cX5_canCome 24 = .ok (.aload_n 0, 1) := by decide +kernel
theorem dX5_canCome_25 : decode cX5_canCome 25 = .ok (.getfield 60, 3) := by decide +kernel
theorem dX5_canCome_28 : decode cX5_canCome 28 = .ok (.if_icmp .ge 25, 3) := by decide +kernel
theorem dX5_canCome_31 : decode cX5_canCome 31 = .ok (.aload_n 0, 1) := by decide +kernel
theorem dX5_canCome_32 : decode cX5_canCome 32 = .ok (.iload_n 3, 1) := by decide +kernel
theorem dX5_canCome_33 : decode cX5_canCome 33 = .ok (.iload_n 1, 1) := by decide +kernel
theorem dX5_canCome_34 : decode cX5_canCome 34 = .ok (.invokevirtual 160, 3) := by decide +kernel
theorem dX5_canCome_37 : decode cX5_canCome 37 = .ok (.iconst (-1), 1) := by decide +kernel
theorem dX5_canCome_38 : decode cX5_canCome 38 = .ok (.if_icmp .eq 9, 3) := by decide +kernel
theorem dX5_canCome_41 : decode cX5_canCome 41 = .ok (.iload_n 2, 1) := by decide +kernel
theorem dX5_canCome_42 : decode cX5_canCome 42 = .ok (.iconst 1, 1) := by decide +kernel
theorem dX5_canCome_43 : decode cX5_canCome 43 = .ok (.iload_n 3, 1) := by decide +kernel
theorem dX5_canCome_44 : decode cX5_canCome 44 = .ok (.ishl, 1) := by decide +kernel
theorem dX5_canCome_45 : decode cX5_canCome 45 = .ok (.ior, 1) := by decide +kernel
theorem dX5_canCome_46 : decode cX5_canCome 46 = .ok (.istore_n 2, 1) := by decide +kernel
theorem dX5_canCome_47 : decode cX5_canCome 47 = .ok (.iinc 3 1, 3) := by decide +kernel
theorem dX5_canCome_50 : decode cX5_canCome 50 = .ok (.goto (-27), 3) := by decide +kernel
theorem dX5_canCome_53 : decode cX5_canCome 53 = .ok (.iload_n 2, 1) := by decide +kernel
theorem dX5_canCome_54 : decode cX5_canCome 54 = .ok (.ireturn, 1) := by decide +kernel
theorem dX5_digest_0 : decode cX5_digest 0 = .ok (.aload_n 0, 1) := by decide +kernel
theorem dX5_digest_1 : decode cX5_digest 1 = .ok (.iconst 0, 1) := by decide +kernel
theorem dX5_digest_2 : decode cX5_digest 2 = .ok (.putfield 54, 3) := by decide +kernel
theorem dX5_digest_5 : decode cX5_digest 5 = .ok (.ldc2_w 163, 3) := by decide +kernel
theorem dX5_digest_8 : decode cX5_digest 8 = .ok (.aload_n 0, 1) := by decide +kernel
theorem dX5_digest_9 : decode cX5_digest 9 = .ok (.getfield 91, 3) := by decide +kernel
theorem dX5_digest_12 : decode cX5_digest 12 = .ok (.i2l, 1) := by decide +kernel
theorem dX5_digest_13 : decode cX5_digest 13 = .ok (.ladd, 1) := by decide +kernel
theorem dX5_digest_14 : decode cX5_digest 14 = .ok (.ldc2_w 165, 3) := by decide +kernel
theorem dX5_digest_17 : decode cX5_digest 17 = .ok (.lmul, 1) := by decide +kernel
theorem dX5_digest_18 : decode cX5_digest 18 = .ok (.aload_n 0, 1) := by decide +kernel
theorem dX5_digest_19 : decode cX5_digest 19 = .ok (.getfield 122, 3) := by decide +kernel
theorem dX5_digest_22 : decode cX5_digest 22 = .ok (.ifCond .eq 7, 3) := by decide +kernel
theorem dX5_digest_25 : decode cX5_digest 25 = .ok (.lconst 1, 1) := by decide +kernel
theorem dX5_digest_26 : decode cX5_digest 26 = .ok (.goto 4, 3) := by decide +kernel
theorem dX5_digest_29 : decode cX5_digest 29 = .ok (.lconst 0, 1) := by decide +kernel
theorem dX5_digest_30 : decode cX5_digest 30 = .ok (.ladd, 1) := by decide +kernel
theorem dX5_digest_31 : decode cX5_digest 31 = .ok (.ldc2_w 165, 3) := by decide +kernel
theorem dX5_digest_34 : decode cX5_digest 34 = .ok (.lmul, 1) := by decide +kernel
theorem dX5_digest_35 : decode cX5_digest 35 = .ok (.aload_n 0, 1) := by decide +kernel
theorem dX5_digest_36 : decode cX5_digest 36 = .ok (.getfield 7, 3) := by decide +kernel
theorem dX5_digest_39 : decode cX5_digest 39 = .ok (.i2l, 1) := by decide +kernel
theorem dX5_digest_40 : decode cX5_digest 40 = .ok (.ladd, 1) := by decide +kernel
theorem dX5_digest_41 : decode cX5_digest 41 = .ok (.lstore_n 1, 1) := by decide +kernel
theorem dX5_digest_42 : decode cX5_digest 42 = .ok (.iconst 0, 1) := by decide +kernel
theorem dX5_digest_43 : decode cX5_digest 43 = .ok (.istore_n 3, 1) := by decide +kernel
theorem dX5_digest_44 : decode cX5_digest 44 = .ok (.iload_n 3, 1) := by decide +kernel
theorem dX5_digest_45 : decode cX5_digest 45 = .ok (.aload_n 0, 1) := by decide +kernel
theorem dX5_digest_46 : decode cX5_digest 46 = .ok (.getfield 7, 3) := by decide +kernel
theorem dX5_digest_49 : decode cX5_digest 49 = .ok (.if_icmp .ge 40, 3) := by decide +kernel
theorem dX5_digest_52 : decode cX5_digest 52 = .ok (.lload_n 1, 1) := by decide +kernel
theorem dX5_digest_53 : decode cX5_digest 53 = .ok (.ldc2_w 165, 3) := by decide +kernel
theorem dX5_digest_56 : decode cX5_digest 56 = .ok (.lmul, 1) := by decide +kernel
theorem dX5_digest_57 : decode cX5_digest 57 = .ok (.aload_n 0, 1) := by decide +kernel
theorem dX5_digest_58 : decode cX5_digest 58 = .ok (.iload_n 3, 1) := by decide +kernel
theorem dX5_digest_59 : decode cX5_digest 59 = .ok (.invokevirtual 94, 3) := by decide +kernel
theorem dX5_digest_62 : decode cX5_digest 62 = .ok (.ifCond .eq 7, 3) := by decide +kernel
theorem dX5_digest_65 : decode cX5_digest 65 = .ok (.lconst 1, 1) := by decide +kernel
theorem dX5_digest_66 : decode cX5_digest 66 = .ok (.goto 4, 3) := by decide +kernel
theorem dX5_digest_69 : decode cX5_digest 69 = .ok (.lconst 0, 1) := by decide +kernel
theorem dX5_digest_70 : decode cX5_digest 70 = .ok (.ladd, 1) := by decide +kernel
theorem dX5_digest_71 : decode cX5_digest 71 = .ok (.ldc2_w 165, 3) := by decide +kernel
theorem dX5_digest_74 : decode cX5_digest 74 = .ok (.lmul, 1) := by decide +kernel
theorem dX5_digest_75 : decode cX5_digest 75 = .ok (.aload_n 0, 1) := by decide +kernel
theorem dX5_digest_76 : decode cX5_digest 76 = .ok (.iload_n 3, 1) := by decide +kernel
theorem dX5_digest_77 : decode cX5_digest 77 = .ok (.invokevirtual 75, 3) := by decide +kernel
theorem dX5_digest_80 : decode cX5_digest 80 = .ok (.i2l, 1) := by decide +kernel
theorem dX5_digest_81 : decode cX5_digest 81 = .ok (.ladd, 1) := by decide +kernel
theorem dX5_digest_82 : decode cX5_digest 82 = .ok (.lstore_n 1, 1) := by decide +kernel
theorem dX5_digest_83 : decode cX5_digest 83 = .ok (.iinc 3 1, 3) := by decide +kernel
theorem dX5_digest_86 : decode cX5_digest 86 = .ok (.goto (-42), 3) := by decide +kernel
theorem dX5_digest_89 : decode cX5_digest 89 = .ok (.lload_n 1, 1) := by decide +kernel
theorem dX5_digest_90 : decode cX5_digest 90 = .ok (.ldc2_w 165, 3) := by decide +kernel
theorem dX5_digest_93 : decode cX5_digest 93 = .ok (.lmul, 1) := by decide +kernel
theorem dX5_digest_94 : decode cX5_digest 94 = .ok (.aload_n 0, 1) := by decide +kernel
theorem dX5_digest_95 : decode cX5_digest 95 = .ok (.getfield 57, 3) := by decide +kernel
theorem dX5_digest_98 : decode cX5_digest 98 = .ok (.i2l, 1) := by decide +kernel
theorem dX5_digest_99 : decode cX5_digest 99 = .ok (.ladd, 1) := by decide +kernel
theorem dX5_digest_100 : decode cX5_digest 100 = .ok (.lstore_n 1, 1) := by decide +kernel
theorem dX5_digest_101 : decode cX5_digest 101 = .ok (.iconst 0, 1) := by decide +kernel
theorem dX5_digest_102 : decode cX5_digest 102 = .ok (.istore_n 3, 1) := by decide +kernel
theorem dX5_digest_103 : decode cX5_digest 103 = .ok (.iload_n 3, 1) := by decide +kernel
theorem dX5_digest_104 : decode cX5_digest 104 = .ok (.aload_n 0, 1) := by decide +kernel
theorem dX5_digest_105 : decode cX5_digest 105 = .ok (.getfield 57, 3) := by decide +kernel
theorem dX5_digest_108 : decode cX5_digest 108 = .ok (.if_icmp .ge 22, 3) := by decide +kernel
theorem dX5_digest_111 : decode cX5_digest 111 = .ok (.lload_n 1, 1) := by decide +kernel
theorem dX5_digest_112 : decode cX5_digest 112 = .ok (.ldc2_w 165, 3) := by decide +kernel
theorem dX5_digest_115 : decode cX5_digest 115 = .ok (.lmul, 1) := by decide +kernel
theorem dX5_digest_116 : decode cX5_digest 116 = .ok (.aload_n 0, 1) := by decide +kernel
theorem dX5_digest_117 : decode cX5_digest 117 = .ok (.iload_n 3, 1) := by decide +kernel
theorem dX5_digest_118 : decode cX5_digest 118 = .ok (.invokevirtual 106, 3) := by decide +kernel
theorem dX5_digest_121 : decode cX5_digest 121 = .ok (.i2l, 1) := by decide +kernel
theorem dX5_digest_122 : decode cX5_digest 122 = .ok (.ladd, 1) := by decide +kernel
theorem dX5_digest_123 : decode cX5_digest 123 = .ok (.lstore_n 1, 1) := by decide +kernel
theorem dX5_digest_124 : decode cX5_digest 124 = .ok (.iinc 3 1, 3) := by decide +kernel
theorem dX5_digest_127 : decode cX5_digest 127 = .ok (.goto (-24), 3) := by decide +kernel
theorem dX5_digest_130 : decode cX5_digest 130 = .ok (.lload_n 1, 1) := by decide +kernel
theorem dX5_digest_131 : decode cX5_digest 131 = .ok (.ldc2_w 165, 3) := by decide +kernel
theorem dX5_digest_134 : decode cX5_digest 134 = .ok (.lmul, 1) := by decide +kernel
theorem dX5_digest_135 : decode cX5_digest 135 = .ok (.aload_n 0, 1) := by decide +kernel
theorem dX5_digest_136 : decode cX5_digest 136 = .ok (.getfield 60, 3) := by decide +kernel
theorem dX5_digest_139 : decode cX5_digest 139 = .ok (.i2l, 1) := by decide +kernel
theorem dX5_digest_140 : decode cX5_digest 140 = .ok (.ladd, 1) := by decide +kernel
theorem dX5_digest_141 : decode cX5_digest 141 = .ok (.lstore_n 1, 1) := by decide +kernel
theorem dX5_digest_142 : decode cX5_digest 142 = .ok (.iconst 0, 1) := by decide +kernel
theorem dX5_digest_143 : decode cX5_digest 143 = .ok (.istore_n 3, 1) := by decide +kernel
theorem dX5_digest_144 : decode cX5_digest 144 = .ok (.iload_n 3, 1) := by decide +kernel
theorem dX5_digest_145 : decode cX5_digest 145 = .ok (.aload_n 0, 1) := by decide +kernel
theorem dX5_digest_146 : decode cX5_digest 146 = .ok (.getfield 60, 3) := by decide +kernel
theorem dX5_digest_149 : decode cX5_digest 149 = .ok (.if_icmp .ge 39, 3) := by decide +kernel
theorem dX5_digest_152 : decode cX5_digest 152 = .ok (.iconst 0, 1) := by decide +kernel
theorem dX5_digest_153 : decode cX5_digest 153 = .ok (.istore 4, 2) := by decide +kernel
theorem dX5_digest_155 : decode cX5_digest 155 = .ok (.iload 4, 2) := by decide +kernel
theorem dX5_digest_157 : decode cX5_digest 157 = .ok (.iconst 5, 1) := by decide +kernel
theorem dX5_digest_158 : decode cX5_digest 158 = .ok (.if_icmp .ge 24, 3) := by decide +kernel
theorem dX5_digest_161 : decode cX5_digest 161 = .ok (.lload_n 1, 1) := by decide +kernel
theorem dX5_digest_162 : decode cX5_digest 162 = .ok (.ldc2_w 165, 3) := by decide +kernel
theorem dX5_digest_165 : decode cX5_digest 165 = .ok (.lmul, 1) := by decide +kernel
theorem dX5_digest_166 : decode cX5_digest 166 = .ok (.aload_n 0, 1) := by decide +kernel
theorem dX5_digest_167 : decode cX5_digest 167 = .ok (.iload_n 3, 1) := by decide +kernel
theorem dX5_digest_168 : decode cX5_digest 168 = .ok (.iload 4, 2) := by decide +kernel
theorem dX5_digest_170 : decode cX5_digest 170 = .ok (.invokevirtual 118, 3) := by decide +kernel
theorem dX5_digest_173 : decode cX5_digest 173 = .ok (.i2l, 1) := by decide +kernel
theorem dX5_digest_174 : decode cX5_digest 174 = .ok (.ladd, 1) := by decide +kernel
theorem dX5_digest_175 : decode cX5_digest 175 = .ok (.lstore_n 1, 1) := by decide +kernel
theorem dX5_digest_176 : decode cX5_digest 176 = .ok (.iinc 4 1, 3) := by decide +kernel
theorem dX5_digest_179 : decode cX5_digest 179 = .ok (.goto (-24), 3) := by decide +kernel
theorem dX5_digest_182 : decode cX5_digest 182 = .ok (.iinc 3 1, 3) := by decide +kernel
theorem dX5_digest_185 : decode cX5_digest 185 = .ok (.goto (-41), 3) := by decide +kernel
theorem dX5_digest_188 : decode cX5_digest 188 = .ok (.lload_n 1, 1) := by decide +kernel
theorem dX5_digest_189 : decode cX5_digest 189 = .ok (.lreturn, 1) := by decide +kernel
theorem dJ6_bitCount_0f7a4_0 : decode cJ6_bitCount_0f7a4 0 = .ok (.iload_n 0, 1) := by decide +kernel
theorem dJ6_bitCount_0f7a4_1 : decode cJ6_bitCount_0f7a4 1 = .ok (.iload_n 0, 1) := by decide +kernel
theorem dJ6_bitCount_0f7a4_2 : decode cJ6_bitCount_0f7a4 2 = .ok (.iconst 1, 1) := by decide +kernel
theorem dJ6_bitCount_0f7a4_3 : decode cJ6_bitCount_0f7a4 3 = .ok (.iushr, 1) := by decide +kernel
theorem dJ6_bitCount_0f7a4_4 : decode cJ6_bitCount_0f7a4 4 = .ok (.ldc_w 265, 3) := by decide +kernel
theorem dJ6_bitCount_0f7a4_7 : decode cJ6_bitCount_0f7a4 7 = .ok (.iand, 1) := by decide +kernel
theorem dJ6_bitCount_0f7a4_8 : decode cJ6_bitCount_0f7a4 8 = .ok (.isub, 1) := by decide +kernel
theorem dJ6_bitCount_0f7a4_9 : decode cJ6_bitCount_0f7a4 9 = .ok (.istore_n 0, 1) := by decide +kernel
theorem dJ6_bitCount_0f7a4_10 : decode cJ6_bitCount_0f7a4 10 = .ok (.iload_n 0, 1) := by decide +kernel
theorem dJ6_bitCount_0f7a4_11 : decode cJ6_bitCount_0f7a4 11 = .ok (.ldc_w 266, 3) := by decide +kernel
theorem dJ6_bitCount_0f7a4_14 : decode cJ6_bitCount_0f7a4 14 = .ok (.iand, 1) := by decide +kernel
theorem dJ6_bitCount_0f7a4_15 : decode cJ6_bitCount_0f7a4 15 = .ok (.iload_n 0, 1) := by decide +kernel
theorem dJ6_bitCount_0f7a4_16 : decode cJ6_bitCount_0f7a4 16 = .ok (.iconst 2, 1) := by decide +kernel
theorem dJ6_bitCount_0f7a4_17 : decode cJ6_bitCount_0f7a4 17 = .ok (.iushr, 1) := by decide +kernel
theorem dJ6_bitCount_0f7a4_18 : decode cJ6_bitCount_0f7a4 18 = .ok (.ldc_w 266, 3) := by decide +kernel
theorem dJ6_bitCount_0f7a4_21 : decode cJ6_bitCount_0f7a4 21 = .ok (.iand, 1) := by decide +kernel
theorem dJ6_bitCount_0f7a4_22 : decode cJ6_bitCount_0f7a4 22 = .ok (.iadd, 1) := by decide +kernel
theorem dJ6_bitCount_0f7a4_23 : decode cJ6_bitCount_0f7a4 23 = .ok (.istore_n 0, 1) := by decide +kernel
theorem dJ6_bitCount_0f7a4_24 : decode cJ6_bitCount_0f7a4 24 = .ok (.iload_n 0, 1) := by decide +kernel
theorem dJ6_bitCount_0f7a4_25 : decode cJ6_bitCount_0f7a4 25 = .ok (.iload_n 0, 1) := by decide +kernel
theorem dJ6_bitCount_0f7a4_26 : decode cJ6_bitCount_0f7a4 26 = .ok (.iconst 4, 1) := by decide +kernel
theorem dJ6_bitCount_0f7a4_27 : decode cJ6_bitCount_0f7a4 27 = .ok (.iushr, 1) := by decide +kernel
theorem dJ6_bitCount_0f7a4_28 : decode cJ6_bitCount_0f7a4 28 = .ok (.iadd, 1) := by decide +kernel
theorem dJ6_bitCount_0f7a4_29 : decode cJ6_bitCount_0f7a4 29 = .ok (.ldc_w 267, 3) := by decide +kernel
theorem dJ6_bitCount_0f7a4_32 : decode cJ6_bitCount_0f7a4 32 = .ok (.iand, 1) := by decide +kernel
theorem dJ6_bitCount_0f7a4_33 : decode cJ6_bitCount_0f7a4 33 = .ok (.istore_n 0, 1) := by decide +kernel
theorem dJ6_bitCount_0f7a4_34 : decode cJ6_bitCount_0f7a4 34 = .ok (.iload_n 0, 1) := by decide +kernel
theorem dJ6_bitCount_0f7a4_35 : decode cJ6_bitCount_0f7a4 35 = .ok (.iload_n 0, 1) := by decide +kernel
theorem dJ6_bitCount_0f7a4_36 : decode cJ6_bitCount_0f7a4 36 = .ok (.bipush 8, 2) := by decide +kernel
theorem dJ6_bitCount_0f7a4_38 : decode cJ6_bitCount_0f7a4 38 = .ok (.iushr, 1) := by decide +kernel
theorem dJ6_bitCount_0f7a4_39 : decode cJ6_bitCount_0f7a4 39 = .ok (.iadd, 1) := by decide +kernel
theorem dJ6_bitCount_0f7a4_40 : decode cJ6_bitCount_0f7a4 40 = .ok (.istore_n 0, 1) := by decide +kernel
theorem dJ6_bitCount_0f7a4_41 : decode cJ6_bitCount_0f7a4 41 = .ok (.iload_n 0, 1) := by decide +kernel
theorem dJ6_bitCount_0f7a4_42 : decode cJ6_bitCount_0f7a4 42 = .ok (.iload_n 0, 1) := by decide +kernel
theorem dJ6_bitCount_0f7a4_43 : decode cJ6_bitCount_0f7a4 43 = .ok (.bipush 16, 2) := by decide +kernel
theorem dJ6_bitCount_0f7a4_45 : decode cJ6_bitCount_0f7a4 45 = .ok (.iushr, 1) := by decide +kernel
theorem dJ6_bitCount_0f7a4_46 : decode cJ6_bitCount_0f7a4 46 = .ok (.iadd, 1) := by decide +kernel
theorem dJ6_bitCount_0f7a4_47 : decode cJ6_bitCount_0f7a4 47 = .ok (.istore_n 0, 1) := by decide +kernel
theorem dJ6_bitCount_0f7a4_48 : decode cJ6_bitCount_0f7a4 48 = .ok (.iload_n 0, 1) := by decide +kernel
theorem dJ6_bitCount_0f7a4_49 : decode cJ6_bitCount_0f7a4 49 = .ok (.bipush 63, 2) := by decide +kernel
theorem dJ6_bitCount_0f7a4_51 : decode cJ6_bitCount_0f7a4 51 = .ok (.iand, 1) := by decide +kernel
theorem dJ6_bitCount_0f7a4_52 : decode cJ6_bitCount_0f7a4 52 = .ok (.ireturn, 1) := by decide +kernel
theorem dJ9_max_7cf53_0 : decode cJ9_max_7cf53 0 = .ok (.iload_n 0, 1) := by decide +kernel
theorem dJ9_max_7cf53_1 : decode cJ9_max_7cf53 1 = .ok (.iload_n 1, 1) := by decide +kernel
theorem dJ9_max_7cf53_2 : decode cJ9_max_7cf53 2 = .ok (.if_icmp .lt 7, 3) := by decide +kernel
theorem dJ9_max_7cf53_5 : decode cJ9_max_7cf53 5 = .ok (.iload_n 0, 1) := by decide +kernel
theorem dJ9_max_7cf53_6 : decode cJ9_max_7cf53 6 = .ok (.goto 4, 3) := by decide +kernel
theorem dJ9_max_7cf53_9 : decode cJ9_max_7cf53 9 = .ok (.iload_n 1, 1) := by decide +kernel
theorem dJ9_max_7cf53_10 : decode cJ9_max_7cf53 10 = .ok (.ireturn, 1) := by decide +kernel
theorem dJ9_min_7cf53_0 : decode cJ9_min_7cf53 0 = .ok (.iload_n 0, 1) := by decide +kernel
theorem dJ9_min_7cf53_1 : decode cJ9_min_7cf53 1 = .ok (.iload_n 1, 1) := by decide +kernel
theorem dJ9_min_7cf53_2 : decode cJ9_min_7cf53 2 = .ok (.if_icmp .gt 7, 3) := by decide +kernel
theorem dJ9_min_7cf53_5 : decode cJ9_min_7cf53 5 = .ok (.iload_n 0, 1) := by decide +kernel
theorem dJ9_min_7cf53_6 : decode cJ9_min_7cf53 6 = .ok (.goto 4, 3) := by decide +kernel
theorem dJ9_min_7cf53_9 : decode cJ9_min_7cf53 9 = .ok (.iload_n 1, 1) := by decide +kernel
theorem dJ9_min_7cf53_10 : decode cJ9_min_7cf53 10 = .ok (.ireturn, 1) := by decide +kernel
theorem dJxa1e45_init_da8c8_0 : decode cJxa1e45_init_da8c8 0 = .ok (.aload_n 0, 1) := by decide +kernel
theorem dJxa1e45_init_da8c8_1 : decode cJxa1e45_init_da8c8 1 = .ok (.invokespecial 1, 3) := by decide +kernel
theorem dJxa1e45_init_da8c8_4 : decode cJxa1e45_init_da8c8 4 = .ok (.return_, 1) := by decide +kernel
theorem dJxc12de_init_da8c8_0 : decode cJxc12de_init_da8c8 0 = .ok (.aload_n 0, 1) := by decide +kernel
theorem dJxc12de_init_da8c8_1 : decode cJxc12de_init_da8c8 1 = .ok (.invokespecial 1, 3) := by decide +kernel
theorem dJxc12de_init_da8c8_4 : decode cJxc12de_init_da8c8 4 = .ok (.aload_n 0, 1) := by decide +kernel
theorem dJxc12de_init_da8c8_5 : decode cJxc12de_init_da8c8 5 = .ok (.iconst 0, 1) := by decide +kernel
theorem dJxc12de_init_da8c8_6 : decode cJxc12de_init_da8c8 6 = .ok (.putfield 7, 3) := by decide +kernel
theorem dJxc12de_init_da8c8_9 : decode cJxc12de_init_da8c8 9 = .ok (.return_, 1) := by decide +kernel
theorem dJx4a65c_init_da8c8_0 : decode cJx4a65c_init_da8c8 0 = .ok (.aload_n 0, 1) := by decide +kernel
theorem dJx4a65c_init_da8c8_1 : decode cJx4a65c_init_da8c8 1 = .ok (.invokespecial 1, 3) := by decide +kernel
theorem dJx4a65c_init_da8c8_4 : decode cJx4a65c_init_da8c8 4 = .ok (.aload_n 0, 1) := by decide +kernel
theorem dJx4a65c_init_da8c8_5 : decode cJx4a65c_init_da8c8 5 = .ok (.getstatic 39, 3) := by decide +kernel
theorem dJx4a65c_init_da8c8_8 : decode cJx4a65c_init_da8c8 8 = .ok (.putfield 9, 3) := by decide +kernel
theorem dJx4a65c_init_da8c8_11 : decode cJx4a65c_init_da8c8 11 = .ok (.return_, 1) := by decide +kernel
theorem dJx4a65c_grow_92f84_0 : decode cJx4a65c_grow_92f84 0 = .ok (.aload_n 0, 1) := by decide +kernel
theorem dJx4a65c_grow_92f84_1 : decode cJx4a65c_grow_92f84 1 = .ok (.getfield 9, 3) := by decide +kernel
theorem dJx4a65c_grow_92f84_4 : decode cJx4a65c_grow_92f84 4 = .ok (.arraylength, 1) := by decide +kernel
theorem dJx4a65c_grow_92f84_5 : decode cJx4a65c_grow_92f84 5 = .ok (.istore_n 2, 1) := by decide +kernel
theorem dJx4a65c_grow_92f84_6 : decode cJx4a65c_grow_92f84 6 = .ok (.iload_n 2, 1) := by decide +kernel
theorem dJx4a65c_grow_92f84_7 : decode cJx4a65c_grow_92f84 7 = .ok (.ifCond .gt 13, 3) := by decide +kernel
theorem dJx4a65c_grow_92f84_10 : decode cJx4a65c_grow_92f84 10 = .ok (.aload_n 0, 1) := by decide +kernel
theorem dJx4a65c_grow_92f84_11 : decode cJx4a65c_grow_92f84 11 = .ok (.getfield 9, 3) := by decide +kernel
theorem dJx4a65c_grow_92f84_14 : decode cJx4a65c_grow_92f84 14 = .ok (.getstatic 39, 3) := by decide +kernel
theorem dJx4a65c_grow_92f84_17 : decode cJx4a65c_grow_92f84 17 = .ok (.if_acmp .eq 28, 3) := by decide +kernel
theorem dJx4a65c_grow_92f84_20 : decode cJx4a65c_grow_92f84 20 = .ok (.iload_n 2, 1) := by decide +kernel
theorem dJx4a65c_grow_92f84_21 : decode cJx4a65c_grow_92f84 21 = .ok (.iload_n 1, 1) := by decide +kernel
theorem dJx4a65c_grow_92f84_22 : decode cJx4a65c_grow_92f84 22 = .ok (.iload_n 2, 1) := by decide +kernel
theorem dJx4a65c_grow_92f84_23 : decode cJx4a65c_grow_92f84 23 = .ok (.isub, 1) := by decide +kernel
theorem dJx4a65c_grow_92f84_24 : decode cJx4a65c_grow_92f84 24 = .ok (.iload_n 2, 1) := by decide +kernel
theorem dJx4a65c_grow_92f84_25 : decode cJx4a65c_grow_92f84 25 = .ok (.iconst 1, 1) := by decide +kernel
theorem dJx4a65c_grow_92f84_26 : decode cJx4a65c_grow_92f84 26 = .ok (.ishr, 1) := by decide +kernel
theorem dJx4a65c_grow_92f84_27 : decode cJx4a65c_grow_92f84 27 = .ok (.invokestatic 73, 3) := by decide +kernel
theorem dJx4a65c_grow_92f84_30 : decode cJx4a65c_grow_92f84 30 = .ok (.istore_n 3, 1) := by decide +kernel
theorem dJx4a65c_grow_92f84_31 : decode cJx4a65c_grow_92f84 31 = .ok (.aload_n 0, 1) := by decide +kernel
theorem dJx4a65c_grow_92f84_32 : decode cJx4a65c_grow_92f84 32 = .ok (.aload_n 0, 1) := by decide +kernel
theorem dJx4a65c_grow_92f84_33 : decode cJx4a65c_grow_92f84 33 = .ok (.getfield 9, 3) := by decide +kernel
theorem dJx4a65c_grow_92f84_36 : decode cJx4a65c_grow_92f84 36 = .ok (.iload_n 3, 1) := by decide +kernel
theorem dJx4a65c_grow_92f84_37 : decode cJx4a65c_grow_92f84 37 = .ok (.invokestatic 66, 3) := by decide +kernel
theorem dJx4a65c_grow_92f84_40 : decode cJx4a65c_grow_92f84 40 = .ok (.dup_x1, 1) := by decide +kernel
theorem dJx4a65c_grow_92f84_41 : decode cJx4a65c_grow_92f84 41 = .ok (.putfield 9, 3) := by decide +kernel
theorem dJx4a65c_grow_92f84_44 : decode cJx4a65c_grow_92f84 44 = .ok (.areturn, 1) := by decide +kernel
theorem dJx4a65c_grow_92f84_45 : decode cJx4a65c_grow_92f84 45 = .ok (.aload_n 0, 1) := by decide +kernel
theorem dJx4a65c_grow_92f84_46 : decode cJx4a65c_grow_92f84 46 = .ok (.bipush 10, 2) := by decide +kernel
theorem dJx4a65c_grow_92f84_48 : decode cJx4a65c_grow_92f84 48 = .ok (.iload_n 1, 1) := by decide +kernel
theorem dJx4a65c_grow_92f84_49 : decode cJx4a65c_grow_92f84 49 = .ok (.invokestatic 79, 3) := by decide +kernel
theorem dJx4a65c_grow_92f84_52 : decode cJx4a65c_grow_92f84 52 = .ok (.anewarray 7, 3) := by decide +kernel
theorem dJx4a65c_grow_92f84_55 : decode cJx4a65c_grow_92f84 55 = .ok (.dup_x1, 1) := by decide +kernel
theorem dJx4a65c_grow_92f84_56 : decode cJx4a65c_grow_92f84 56 = .ok (.putfield 9, 3) := by decide +kernel
theorem dJx4a65c_grow_92f84_59 : decode cJx4a65c_grow_92f84 59 = .ok (.areturn, 1) := by decide +kernel
theorem dJx4a65c_grow_d5877_0 : decode cJx4a65c_grow_d5877 0 = .ok (.aload_n 0, 1) := by decide +kernel
theorem dJx4a65c_grow_d5877_1 : decode cJx4a65c_grow_d5877 1 = .ok (.aload_n 0, 1) := by decide +kernel
theorem dJx4a65c_grow_d5877_2 : decode cJx4a65c_grow_d5877 2 = .ok (.getfield 48, 3) := by decide +kernel
theorem dJx4a65c_grow_d5877_5 : decode cJx4a65c_grow_d5877 5 = .ok (.iconst 1, 1) := by decide +kernel
theorem dJx4a65c_grow_d5877_6 : decode cJx4a65c_grow_d5877 6 = .ok (.iadd, 1) := by decide +kernel
theorem dJx4a65c_grow_d5877_7 : decode cJx4a65c_grow_d5877 7 = .ok (.invokevirtual 69, 3) := by decide +kernel
theorem dJx4a65c_grow_d5877_10 : decode cJx4a65c_grow_d5877 10 = .ok (.areturn, 1) := by decide +kernel
theorem dJx4a65c_size_8abf5_0 : decode cJx4a65c_size_8abf5 0 = .ok (.aload_n 0, 1) := by decide +kernel
theorem dJx4a65c_size_8abf5_1 : decode cJx4a65c_size_8abf5 1 = .ok (.getfield 48, 3) := by decide +kernel
theorem dJx4a65c_size_8abf5_4 : decode cJx4a65c_size_8abf5 4 = .ok (.ireturn, 1) := by decide +kernel
theorem dJx4a65c_elementData_915e3_0 : decode cJx4a65c_elementData_915e3 0 = .ok (.aload_n 0, 1) := by decide +kernel
theorem dJx4a65c_elementData_915e3_1 : decode cJx4a65c_elementData_915e3 1 = .ok (.getfield 9, 3) := by decide +kernel
theorem dJx4a65c_elementData_915e3_4 : decode cJx4a65c_elementData_915e3 4 = .ok (.iload_n 1, 1) := by decide +kernel
theorem dJx4a65c_elementData_915e3_5 : decode cJx4a65c_elementData_915e3 5 = .ok (.aaload, 1) := by decide +kernel
theorem dJx4a65c_elementData_915e3_6 : decode cJx4a65c_elementData_915e3 6 = .ok (.areturn, 1) := by decide +kernel
theorem dJx4a65c_get_915e3_0 : decode cJx4a65c_get_915e3 0 = .ok (.iload_n 1, 1) := by decide +kernel
theorem dJx4a65c_get_915e3_1 : decode cJx4a65c_get_915e3 1 = .ok (.aload_n 0, 1) := by decide +kernel
theorem dJx4a65c_get_915e3_2 : decode cJx4a65c_get_915e3 2 = .ok (.getfield 48, 3) := by decide +kernel
theorem dJx4a65c_get_915e3_5 : decode cJx4a65c_get_915e3 5 = .ok (.invokestatic 118, 3) := by decide +kernel
theorem dJx4a65c_get_915e3_8 : decode cJx4a65c_get_915e3 8 = .ok (.pop, 1) := by decide +kernel
theorem dJx4a65c_get_915e3_9 : decode cJx4a65c_get_915e3 9 = .ok (.aload_n 0, 1) := by decide +kernel
theorem dJx4a65c_get_915e3_10 : decode cJx4a65c_get_915e3 10 = .ok (.iload_n 1, 1) := by decide +kernel
theorem dJx4a65c_get_915e3_11 : decode cJx4a65c_get_915e3 11 = .ok (.invokevirtual 123, 3) := by decide +kernel
theorem dJx4a65c_get_915e3_14 : decode cJx4a65c_get_915e3 14 = .ok (.areturn, 1) := by decide +kernel
theorem dJx4a65c_add_72be8_0 : decode cJx4a65c_add_72be8 0 = .ok (.iload_n 3, 1) := by decide +kernel
theorem dJx4a65c_add_72be8_1 : decode cJx4a65c_add_72be8 1 = .ok (.aload_n 2, 1) := by decide +kernel
theorem dJx4a65c_add_72be8_2 : decode cJx4a65c_add_72be8 2 = .ok (.arraylength, 1) := by decide +kernel
theorem dJx4a65c_add_72be8_3 : decode cJx4a65c_add_72be8 3 = .ok (.if_icmp .ne 8, 3) := by decide +kernel
theorem dJx4a65c_add_72be8_6 : decode cJx4a65c_add_72be8 6 = .ok (.aload_n 0, 1) := by decide +kernel
theorem dJx4a65c_add_72be8_7 : decode cJx4a65c_add_72be8 7 = .ok (.invokevirtual 129, 3) := by decide +kernel
theorem dJx4a65c_add_72be8_10 : decode cJx4a65c_add_72be8 10 = .ok (.astore_n 2, 1) := by decide +kernel
theorem dJx4a65c_add_72be8_11 : decode cJx4a65c_add_72be8 11 = .ok (.aload_n 2, 1) := by decide +kernel
theorem dJx4a65c_add_72be8_12 : decode cJx4a65c_add_72be8 12 = .ok (.iload_n 3, 1) := by decide +kernel
theorem dJx4a65c_add_72be8_13 : decode cJx4a65c_add_72be8 13 = .ok (.aload_n 1, 1) := by decide +kernel
theorem dJx4a65c_add_72be8_14 : decode cJx4a65c_add_72be8 14 = .ok (.aastore, 1) := by decide +kernel
theorem dJx4a65c_add_72be8_15 : decode cJx4a65c_add_72be8 15 = .ok (.aload_n 0, 1) := by decide +kernel
theorem dJx4a65c_add_72be8_16 : decode cJx4a65c_add_72be8 16 = .ok (.iload_n 3, 1) := by decide +kernel
theorem dJx4a65c_add_72be8_17 : decode cJx4a65c_add_72be8 17 = .ok (.iconst 1, 1) := by decide +kernel
theorem dJx4a65c_add_72be8_18 : decode cJx4a65c_add_72be8 18 = .ok (.iadd, 1) := by decide +kernel
theorem dJx4a65c_add_72be8_19 : decode cJx4a65c_add_72be8 19 = .ok (.putfield 48, 3) := by decide +kernel
theorem dJx4a65c_add_72be8_22 : decode cJx4a65c_add_72be8 22 = .ok (.return_, 1) := by decide +kernel
theorem dJx4a65c_add_9ea2d_0 : decode cJx4a65c_add_9ea2d 0 = .ok (.aload_n 0, 1) := by decide +kernel
theorem dJx4a65c_add_9ea2d_1 : decode cJx4a65c_add_9ea2d 1 = .ok (.dup, 1) := by decide +kernel
theorem dJx4a65c_add_9ea2d_2 : decode cJx4a65c_add_9ea2d 2 = .ok (.getfield 63, 3) := by decide +kernel
theorem dJx4a65c_add_9ea2d_5 : decode cJx4a65c_add_9ea2d 5 = .ok (.iconst 1, 1) := by decide +kernel
theorem dJx4a65c_add_9ea2d_6 : decode cJx4a65c_add_9ea2d 6 = .ok (.iadd, 1) := by decide +kernel
theorem dJx4a65c_add_9ea2d_7 : decode cJx4a65c_add_9ea2d 7 = .ok (.putfield 63, 3) := by decide +kernel
theorem dJx4a65c_add_9ea2d_10 : decode cJx4a65c_add_9ea2d 10 = .ok (.aload_n 0, 1) := by decide +kernel
theorem dJx4a65c_add_9ea2d_11 : decode cJx4a65c_add_9ea2d 11 = .ok (.aload_n 1, 1) := by decide +kernel
theorem dJx4a65c_add_9ea2d_12 : decode cJx4a65c_add_9ea2d 12 = .ok (.aload_n 0, 1) := by decide +kernel
theorem dJx4a65c_add_9ea2d_13 : decode cJx4a65c_add_9ea2d 13 = .ok (.getfield 9, 3) := by decide +kernel
theorem dJx4a65c_add_9ea2d_16 : decode cJx4a65c_add_9ea2d 16 = .ok (.aload_n 0, 1) := by decide +kernel
theorem dJx4a65c_add_9ea2d_17 : decode cJx4a65c_add_9ea2d 17 = .ok (.getfield 48, 3) := by decide +kernel
theorem dJx4a65c_add_9ea2d_20 : decode cJx4a65c_add_9ea2d 20 = .ok (.invokevirtual 131, 3) := by decide +kernel
theorem dJx4a65c_add_9ea2d_23 : decode cJx4a65c_add_9ea2d 23 = .ok (.iconst 1, 1) := by decide +kernel
theorem dJx4a65c_add_9ea2d_24 : decode cJx4a65c_add_9ea2d 24 = .ok (.ireturn, 1) := by decide +kernel
theorem dJ7_copyOf_1904c_0 : decode cJ7_copyOf_1904c 0 = .ok (.aload_n 0, 1) := by decide +kernel
theorem dJ7_copyOf_1904c_1 : decode cJ7_copyOf_1904c 1 = .ok (.iload_n 1, 1) := by decide +kernel
theorem dJ7_copyOf_1904c_2 : decode cJ7_copyOf_1904c 2 = .ok (.aload_n 0, 1) := by decide +kernel
theorem dJ7_copyOf_1904c_3 : decode cJ7_copyOf_1904c 3 = .ok (.invokevirtual 86, 3) := by decide +kernel
theorem dJ7_copyOf_1904c_6 : decode cJ7_copyOf_1904c 6 = .ok (.invokestatic 300, 3) := by decide +kernel
theorem dJ7_copyOf_1904c_9 : decode cJ7_copyOf_1904c 9 = .ok (.areturn, 1) := by decide +kernel
theorem dJ7_copyOf_6403c_0 : decode cJ7_copyOf_6403c 0 = .ok (.aload_n 2, 1) := by decide +kernel
theorem dJ7_copyOf_6403c_1 : decode cJ7_copyOf_6403c 1 = .ok (.ldc 110, 2) := by decide +kernel
theorem dJ7_copyOf_6403c_3 : decode cJ7_copyOf_6403c 3 = .ok (.if_acmp .ne 10, 3) := by decide +kernel
theorem dJ7_copyOf_6403c_6 : decode cJ7_copyOf_6403c 6 = .ok (.iload_n 1, 1) := by decide +kernel
theorem dJ7_copyOf_6403c_7 : decode cJ7_copyOf_6403c 7 = .ok (.anewarray 2, 3) := by decide +kernel
theorem dJ7_copyOf_6403c_10 : decode cJ7_copyOf_6403c 10 = .ok (.goto 14, 3) := by decide +kernel
theorem dJ7_copyOf_6403c_13 : decode cJ7_copyOf_6403c 13 = .ok (.aload_n 2, 1) := by decide +kernel
theorem dJ7_copyOf_6403c_14 : decode cJ7_copyOf_6403c 14 = .ok (.invokevirtual 90, 3) := by decide +kernel
theorem dJ7_copyOf_6403c_17 : decode cJ7_copyOf_6403c 17 = .ok (.iload_n 1, 1) := by decide +kernel
theorem dJ7_copyOf_6403c_18 : decode cJ7_copyOf_6403c 18 = .ok (.invokestatic 95, 3) := by decide +kernel
theorem dJ7_copyOf_6403c_21 : decode cJ7_copyOf_6403c 21 = .ok (.checkcast 110, 3) := by decide +kernel
theorem dJ7_copyOf_6403c_24 : decode cJ7_copyOf_6403c 24 = .ok (.astore_n 3, 1) := by decide +kernel
theorem dJ7_copyOf_6403c_25 : decode cJ7_copyOf_6403c 25 = .ok (.aload_n 0, 1) := by decide +kernel
theorem dJ7_copyOf_6403c_26 : decode cJ7_copyOf_6403c 26 = .ok (.iconst 0, 1) := by decide +kernel
theorem dJ7_copyOf_6403c_27 : decode cJ7_copyOf_6403c 27 = .ok (.aload_n 3, 1) := by decide +kernel
theorem dJ7_copyOf_6403c_28 : decode cJ7_copyOf_6403c 28 = .ok (.iconst 0, 1) := by decide +kernel
theorem dJ7_copyOf_6403c_29 : decode cJ7_copyOf_6403c 29 = .ok (.aload_n 0, 1) := by decide +kernel
theorem dJ7_copyOf_6403c_30 : decode cJ7_copyOf_6403c 30 = .ok (.arraylength, 1) := by decide +kernel
theorem dJ7_copyOf_6403c_31 : decode cJ7_copyOf_6403c 31 = .ok (.iload_n 1, 1) := by decide +kernel
theorem dJ7_copyOf_6403c_32 : decode cJ7_copyOf_6403c 32 = .ok (.invokestatic 304, 3) := by decide +kernel
theorem dJ7_copyOf_6403c_35 : decode cJ7_copyOf_6403c 35 = .ok (.invokestatic 150, 3) := by decide +kernel
theorem dJ7_copyOf_6403c_38 : decode cJ7_copyOf_6403c 38 = .ok (.aload_n 3, 1) := by decide +kernel
theorem dJ7_copyOf_6403c_39 : decode cJ7_copyOf_6403c 39 = .ok (.areturn, 1) := by decide +kernel
theorem dJ15_checkIndex_7cf53_0 : decode cJ15_checkIndex_7cf53 0 = .ok (.iload_n 0, 1) := by decide +kernel
theorem dJ15_checkIndex_7cf53_1 : decode cJ15_checkIndex_7cf53 1 = .ok (.iload_n 1, 1) := by decide +kernel
theorem dJ15_checkIndex_7cf53_2 : decode cJ15_checkIndex_7cf53 2 = .ok (.aconst_null, 1) := by decide +kernel
theorem dJ15_checkIndex_7cf53_3 : decode cJ15_checkIndex_7cf53 3 = .ok (.invokestatic 105, 3) := by decide +kernel
theorem dJ15_checkIndex_7cf53_6 : decode cJ15_checkIndex_7cf53 6 = .ok (.ireturn, 1) := by decide +kernel
theorem dJ8_newLength_cabcc_0 : decode cJ8_newLength_cabcc 0 = .ok (.iload_n 0, 1) := by decide +kernel
theorem dJ8_newLength_cabcc_1 : decode cJ8_newLength_cabcc 1 = .ok (.iload_n 1, 1) := by decide +kernel
theorem dJ8_newLength_cabcc_2 : decode cJ8_newLength_cabcc 2 = .ok (.iload_n 2, 1) := by decide +kernel
theorem dJ8_newLength_cabcc_3 : decode cJ8_newLength_cabcc 3 = .ok (.invokestatic 194, 3) := by decide +kernel
theorem dJ8_newLength_cabcc_6 : decode cJ8_newLength_cabcc 6 = .ok (.iadd, 1) := by decide +kernel
theorem dJ8_newLength_cabcc_7 : decode cJ8_newLength_cabcc 7 = .ok (.istore_n 3, 1) := by decide +kernel
theorem dJ8_newLength_cabcc_8 : decode cJ8_newLength_cabcc 8 = .ok (.iconst 0, 1) := by decide +kernel
theorem dJ8_newLength_cabcc_9 : decode cJ8_newLength_cabcc 9 = .ok (.iload_n 3, 1) := by decide +kernel
theorem dJ8_newLength_cabcc_10 : decode cJ8_newLength_cabcc 10 = .ok (.if_icmp .ge 11, 3) := by decide +kernel
theorem dJ8_newLength_cabcc_13 : decode cJ8_newLength_cabcc 13 = .ok (.iload_n 3, 1) := by decide +kernel
theorem dJ8_newLength_cabcc_14 : decode cJ8_newLength_cabcc 14 = .ok (.ldc 200, 2) := by decide +kernel
theorem dJ8_newLength_cabcc_16 : decode cJ8_newLength_cabcc 16 = .ok (.if_icmp .gt 5, 3) := by decide +kernel
theorem dJ8_newLength_cabcc_19 : decode cJ8_newLength_cabcc 19 = .ok (.iload_n 3, 1) := by decide +kernel
theorem dJ8_newLength_cabcc_20 : decode cJ8_newLength_cabcc 20 = .ok (.ireturn, 1) := by decide +kernel
theorem dJ8_newLength_cabcc_21 : decode cJ8_newLength_cabcc 21 = .ok (.iload_n 0, 1) := by decide +kernel
theorem dJ8_newLength_cabcc_22 : decode cJ8_newLength_cabcc 22 = .ok (.iload_n 1, 1) := by decide +kernel
theorem dJ8_newLength_cabcc_23 : decode cJ8_newLength_cabcc 23 = .ok (.invokestatic 201, 3) := by decide +kernel
theorem dJ8_newLength_cabcc_26 : decode cJ8_newLength_cabcc 26 = .ok (.ireturn, 1) := by decide +kernel
theorem dJ8_hugeLength_7cf53_0 : decode cJ8_hugeLength_7cf53 0 = .ok (.iload_n 0, 1) := by decide +kernel
theorem dJ8_hugeLength_7cf53_1 : decode cJ8_hugeLength_7cf53 1 = .ok (.iload_n 1, 1) := by decide +kernel
theorem dJ8_hugeLength_7cf53_2 : decode cJ8_hugeLength_7cf53 2 = .ok (.iadd, 1) := by decide +kernel
theorem dJ8_hugeLength_7cf53_3 : decode cJ8_hugeLength_7cf53 3 = .ok (.istore_n 2, 1) := by decide +kernel
theorem dJ8_hugeLength_7cf53_4 : decode cJ8_hugeLength_7cf53 4 = .ok (.iload_n 2, 1) := by decide +kernel
theorem dJ8_hugeLength_7cf53_5 : decode cJ8_hugeLength_7cf53 5 = .ok (.ifCond .ge 44, 3) := by decide +kernel
theorem dJ8_hugeLength_7cf53_8 : decode cJ8_hugeLength_7cf53 8 = .ok (.new 204, 3) := by decide +kernel
theorem dJ8_hugeLength_7cf53_11 : decode cJ8_hugeLength_7cf53 11 = .ok (.dup, 1) := by decide +kernel
theorem dJ8_hugeLength_7cf53_12 : decode cJ8_hugeLength_7cf53 12 = .ok (.new 89, 3) := by decide +kernel
theorem dJ8_hugeLength_7cf53_15 : decode cJ8_hugeLength_7cf53 15 = .ok (.dup, 1) := by decide +kernel
theorem dJ8_hugeLength_7cf53_16 : decode cJ8_hugeLength_7cf53 16 = .ok (.invokespecial 91, 3) := by decide +kernel
theorem dJ8_hugeLength_7cf53_19 : decode cJ8_hugeLength_7cf53 19 = .ok (.ldc 206, 2) := by decide +kernel
theorem dJ8_hugeLength_7cf53_21 : decode cJ8_hugeLength_7cf53 21 = .ok (.invokevirtual 94, 3) := by decide +kernel
theorem dJ8_hugeLength_7cf53_24 : decode cJ8_hugeLength_7cf53 24 = .ok (.iload_n 0, 1) := by decide +kernel
theorem dJ8_hugeLength_7cf53_25 : decode cJ8_hugeLength_7cf53 25 = .ok (.invokevirtual 98, 3) := by decide +kernel
theorem dJ8_hugeLength_7cf53_28 : decode cJ8_hugeLength_7cf53 28 = .ok (.ldc 208, 2) := by decide +kernel
theorem dJ8_hugeLength_7cf53_30 : decode cJ8_hugeLength_7cf53 30 = .ok (.invokevirtual 94, 3) := by decide +kernel
theorem dJ8_hugeLength_7cf53_33 : decode cJ8_hugeLength_7cf53 33 = .ok (.iload_n 1, 1) := by decide +kernel
theorem dJ8_hugeLength_7cf53_34 : decode cJ8_hugeLength_7cf53 34 = .ok (.invokevirtual 98, 3) := by decide +kernel
theorem dJ8_hugeLength_7cf53_37 : decode cJ8_hugeLength_7cf53 37 = .ok (.ldc 210, 2) := by decide +kernel
theorem dJ8_hugeLength_7cf53_39 : decode cJ8_hugeLength_7cf53 39 = .ok (.invokevirtual 94, 3) := by decide +kernel
theorem dJ8_hugeLength_7cf53_42 : decode cJ8_hugeLength_7cf53 42 = .ok (.invokevirtual 101, 3) := by decide +kernel
theorem dJ8_hugeLength_7cf53_45 : decode cJ8_hugeLength_7cf53 45 = .ok (.invokespecial 212, 3) := by decide +kernel
theorem dJ8_hugeLength_7cf53_48 : decode cJ8_hugeLength_7cf53 48 = .ok (.athrow, 1) := by decide +kernel
theorem dJ8_hugeLength_7cf53_49 : decode cJ8_hugeLength_7cf53 49 = .ok (.iload_n 2, 1) := by decide +kernel
theorem dJ8_hugeLength_7cf53_50 : decode cJ8_hugeLength_7cf53 50 = .ok (.ldc 200, 2) := by decide +kernel
theorem dJ8_hugeLength_7cf53_52 : decode cJ8_hugeLength_7cf53 52 = .ok (.if_icmp .gt 6, 3) := by decide +kernel
theorem dJ8_hugeLength_7cf53_55 : decode cJ8_hugeLength_7cf53 55 = .ok (.ldc 200, 2) := by decide +kernel
theorem dJ8_hugeLength_7cf53_57 : decode cJ8_hugeLength_7cf53 57 = .ok (.ireturn, 1) := by decide +kernel
theorem dJ8_hugeLength_7cf53_58 : decode cJ8_hugeLength_7cf53 58 = .ok (.iload_n 2, 1) := by decide +kernel
theorem dJ8_hugeLength_7cf53_59 : decode cJ8_hugeLength_7cf53 59 = .ok (.ireturn, 1) := by decide +kernel
theorem dJ3_checkIndex_8e157_0 : decode cJ3_checkIndex_8e157 0 = .ok (.iload_n 0, 1) := by decide +kernel
theorem dJ3_checkIndex_8e157_1 : decode cJ3_checkIndex_8e157 1 = .ok (.ifCond .lt 8, 3) := by decide +kernel
theorem dJ3_checkIndex_8e157_4 : decode cJ3_checkIndex_8e157 4 = .ok (.iload_n 0, 1) := by decide +kernel
theorem dJ3_checkIndex_8e157_5 : decode cJ3_checkIndex_8e157 5 = .ok (.iload_n 1, 1) := by decide +kernel
theorem dJ3_checkIndex_8e157_6 : decode cJ3_checkIndex_8e157 6 = .ok (.if_icmp .lt 10, 3) := by decide +kernel
theorem dJ3_checkIndex_8e157_9 : decode cJ3_checkIndex_8e157 9 = .ok (.aload_n 2, 1) := by decide +kernel
theorem dJ3_checkIndex_8e157_10 : decode cJ3_checkIndex_8e157 10 = .ok (.iload_n 0, 1) := by decide +kernel
theorem dJ3_checkIndex_8e157_11 : decode cJ3_checkIndex_8e157 11 = .ok (.iload_n 1, 1) := by decide +kernel
theorem dJ3_checkIndex_8e157_12 : decode cJ3_checkIndex_8e157 12 = .ok (.invokestatic 95, 3) := by decide +kernel
theorem dJ3_checkIndex_8e157_15 : decode cJ3_checkIndex_8e157 15 = .ok (.athrow, 1) := by decide +kernel
theorem dJ3_checkIndex_8e157_16 : decode cJ3_checkIndex_8e157 16 = .ok (.iload_n 0, 1) := by decide +kernel
theorem dJ3_checkIndex_8e157_17 : decode cJ3_checkIndex_8e157 17 = .ok (.ireturn, 1) := by decide +kernel
theorem dL_addZone_0 : decode cL_addZone 0 = .ok (.aload 4, 2) := by decide +kernel
theorem dL_addZone_2 : decode cL_addZone 2 = .ok (.iconst 0, 1) := by decide +kernel
theorem dL_addZone_3 : decode cL_addZone 3 = .ok (.aload_n 0, 1) := by decide +kernel
theorem dL_addZone_4 : decode cL_addZone 4 = .ok (.iload_n 1, 1) := by decide +kernel
theorem dL_addZone_5 : decode cL_addZone 5 = .ok (.iload_n 2, 1) := by decide +kernel
theorem dL_addZone_6 : decode cL_addZone 6 = .ok (.iload_n 3, 1) := by decide +kernel
theorem dL_addZone_7 : decode cL_addZone 7 = .ok (.invokevirtual 7, 3) := by decide +kernel
theorem dL_addZone_10 : decode cL_addZone 10 = .ok (.i2l, 1) := by decide +kernel
theorem dL_addZone_11 : decode cL_addZone 11 = .ok (.lastore, 1) := by decide +kernel
theorem dL_addZone_12 : decode cL_addZone 12 = .ok (.goto 11, 3) := by decide +kernel
theorem dL_addZone_15 : decode cL_addZone 15 = .ok (.astore 5, 2) := by decide +kernel
theorem dL_addZone_17 : decode cL_addZone 17 = .ok (.iconst 1, 1) := by decide +kernel
theorem dL_addZone_18 : decode cL_addZone 18 = .ok (.ireturn, 1) := by decide +kernel
theorem dL_addZone_19 : decode cL_addZone 19 = .ok (.astore 5, 2) := by decide +kernel
theorem dL_addZone_21 : decode cL_addZone 21 = .ok (.iconst 2, 1) := by decide +kernel
theorem dL_addZone_22 : decode cL_addZone 22 = .ok (.ireturn, 1) := by decide +kernel
theorem dL_addZone_23 : decode cL_addZone 23 = .ok (.iconst 0, 1) := by decide +kernel
theorem dL_addZone_24 : decode cL_addZone 24 = .ok (.ireturn, 1) := by decide +kernel
theorem dL_setZone_0 : decode cL_setZone 0 = .ok (.aload 5, 2) := by decide +kernel
theorem dL_setZone_2 : decode cL_setZone 2 = .ok (.iconst 0, 1) := by decide +kernel
theorem dL_setZone_3 : decode cL_setZone 3 = .ok (.aload_n 0, 1) := by decide +kernel
theorem dL_setZone_4 : decode cL_setZone 4 = .ok (.iload_n 1, 1) := by decide +kernel
theorem dL_setZone_5 : decode cL_setZone 5 = .ok (.iload_n 2, 1) := by decide +kernel
theorem dL_setZone_6 : decode cL_setZone 6 = .ok (.iload_n 3, 1) := by decide +kernel
theorem dL_setZone_7 : decode cL_setZone 7 = .ok (.iload 4, 2) := by decide +kernel
theorem dL_setZone_9 : decode cL_setZone 9 = .ok (.invokevirtual 17, 3) := by decide +kernel
theorem dL_setZone_12 : decode cL_setZone 12 = .ok (.i2l, 1) := by decide +kernel
theorem dL_setZone_13 : decode cL_setZone 13 = .ok (.lastore, 1) := by decide +kernel
theorem dL_setZone_14 : decode cL_setZone 14 = .ok (.goto 11, 3) := by decide +kernel
theorem dL_setZone_17 : decode cL_setZone 17 = .ok (.astore 6, 2) := by decide +kernel
theorem dL_setZone_19 : decode cL_setZone 19 = .ok (.iconst 1, 1) := by decide +kernel
theorem dL_setZone_20 : decode cL_setZone 20 = .ok (.ireturn, 1) := by decide +kernel
theorem dL_setZone_21 : decode cL_setZone 21 = .ok (.astore 6, 2) := by decide +kernel
theorem dL_setZone_23 : decode cL_setZone 23 = .ok (.iconst 2, 1) := by decide +kernel
theorem dL_setZone_24 : decode cL_setZone 24 = .ok (.ireturn, 1) := by decide +kernel
theorem dL_setZone_25 : decode cL_setZone 25 = .ok (.iconst 0, 1) := by decide +kernel
theorem dL_setZone_26 : decode cL_setZone 26 = .ok (.ireturn, 1) := by decide +kernel
theorem dL_addDoor_0 : decode cL_addDoor 0 = .ok (.aload 5, 2) := by decide +kernel
theorem dL_addDoor_2 : decode cL_addDoor 2 = .ok (.iconst 0, 1) := by decide +kernel
theorem dL_addDoor_3 : decode cL_addDoor 3 = .ok (.aload_n 0, 1) := by decide +kernel
theorem dL_addDoor_4 : decode cL_addDoor 4 = .ok (.iload_n 1, 1) := by decide +kernel
theorem dL_addDoor_5 : decode cL_addDoor 5 = .ok (.iload_n 2, 1) := by decide +kernel
theorem dL_addDoor_6 : decode cL_addDoor 6 = .ok (.iload_n 3, 1) := by decide +kernel
theorem dL_addDoor_7 : decode cL_addDoor 7 = .ok (.iload 4, 2) := by decide +kernel
theorem dL_addDoor_9 : decode cL_addDoor 9 = .ok (.invokevirtual 23, 3) := by decide +kernel
theorem dL_addDoor_12 : decode cL_addDoor 12 = .ok (.i2l, 1) := by decide +kernel
theorem dL_addDoor_13 : decode cL_addDoor 13 = .ok (.lastore, 1) := by decide +kernel
theorem dL_addDoor_14 : decode cL_addDoor 14 = .ok (.goto 15, 3) := by decide +kernel
theorem dL_addDoor_17 : decode cL_addDoor 17 = .ok (.astore 6, 2) := by decide +kernel
theorem dL_addDoor_19 : decode cL_addDoor 19 = .ok (.iconst 1, 1) := by decide +kernel
theorem dL_addDoor_20 : decode cL_addDoor 20 = .ok (.ireturn, 1) := by decide +kernel
theorem dL_addDoor_21 : decode cL_addDoor 21 = .ok (.astore 6, 2) := by decide +kernel
theorem dL_addDoor_23 : decode cL_addDoor 23 = .ok (.iconst 2, 1) := by decide +kernel
theorem dL_addDoor_24 : decode cL_addDoor 24 = .ok (.ireturn, 1) := by decide +kernel
theorem dL_addDoor_25 : decode cL_addDoor 25 = .ok (.astore 6, 2) := by decide +kernel
theorem dL_addDoor_27 : decode cL_addDoor 27 = .ok (.iconst 3, 1) := by decide +kernel
theorem dL_addDoor_28 : decode cL_addDoor 28 = .ok (.ireturn, 1) := by decide +kernel
theorem dL_addDoor_29 : decode cL_addDoor 29 = .ok (.iconst 0, 1) := by decide +kernel
theorem dL_addDoor_30 : decode cL_addDoor 30 = .ok (.ireturn, 1) := by decide +kernel
theorem dL_distance_0 : decode cL_distance 0 = .ok (.aload_n 2, 1) := by decide +kernel
theorem dL_distance_1 : decode cL_distance 1 = .ok (.iconst 0, 1) := by decide +kernel
theorem dL_distance_2 : decode cL_distance 2 = .ok (.aload_n 0, 1) := by decide +kernel
theorem dL_distance_3 : decode cL_distance 3 = .ok (.iload_n 1, 1) := by decide +kernel
theorem dL_distance_4 : decode cL_distance 4 = .ok (.invokevirtual 26, 3) := by decide +kernel
theorem dL_distance_7 : decode cL_distance 7 = .ok (.i2l, 1) := by decide +kernel
theorem dL_distance_8 : decode cL_distance 8 = .ok (.lastore, 1) := by decide +kernel
theorem dL_distance_9 : decode cL_distance 9 = .ok (.goto 6, 3) := by decide +kernel
theorem dL_distance_12 : decode cL_distance 12 = .ok (.astore_n 3, 1) := by decide +kernel
theorem dL_distance_13 : decode cL_distance 13 = .ok (.iconst 1, 1) := by decide +kernel
theorem dL_distance_14 : decode cL_distance 14 = .ok (.ireturn, 1) := by decide +kernel
theorem dL_distance_15 : decode cL_distance 15 = .ok (.iconst 0, 1) := by decide +kernel
theorem dL_distance_16 : decode cL_distance 16 = .ok (.ireturn, 1) := by decide +kernel
theorem dL_isOpen_0 : decode cL_isOpen 0 = .ok (.aload_n 2, 1) := by decide +kernel
theorem dL_isOpen_1 : decode cL_isOpen 1 = .ok (.iconst 0, 1) := by decide +kernel
theorem dL_isOpen_2 : decode cL_isOpen 2 = .ok (.aload_n 0, 1) := by decide +kernel
theorem dL_isOpen_3 : decode cL_isOpen 3 = .ok (.iload_n 1, 1) := by decide +kernel
theorem dL_isOpen_4 : decode cL_isOpen 4 = .ok (.invokevirtual 30, 3) := by decide +kernel
theorem dL_isOpen_7 : decode cL_isOpen 7 = .ok (.ifCond .eq 7, 3) := by decide +kernel
theorem dL_isOpen_10 : decode cL_isOpen 10 = .ok (.lconst 1, 1) := by decide +kernel
theorem dL_isOpen_11 : decode cL_isOpen 11 = .ok (.goto 4, 3) := by decide +kernel
theorem dL_isOpen_14 : decode cL_isOpen 14 = .ok (.lconst 0, 1) := by decide +kernel
theorem dL_isOpen_15 : decode cL_isOpen 15 = .ok (.lastore, 1) := by decide +kernel
theorem dL_isOpen_16 : decode cL_isOpen 16 = .ok (.goto 6, 3) := by decide +kernel
theorem dL_isOpen_19 : decode cL_isOpen 19 = .ok (.astore_n 3, 1) := by decide +kernel
theorem dL_isOpen_20 : decode cL_isOpen 20 = .ok (.iconst 1, 1) := by decide +kernel
theorem dL_isOpen_21 : decode cL_isOpen 21 = .ok (.ireturn, 1) := by decide +kernel
theorem dL_isOpen_22 : decode cL_isOpen 22 = .ok (.iconst 0, 1) := by decide +kernel
theorem dL_isOpen_23 : decode cL_isOpen 23 = .ok (.ireturn, 1) := by decide +kernel
theorem dL_openFor_0 : decode cL_openFor 0 = .ok (.aload_n 2, 1) := by decide +kernel
theorem dL_openFor_1 : decode cL_openFor 1 = .ok (.iconst 0, 1) := by decide +kernel
theorem dL_openFor_2 : decode cL_openFor 2 = .ok (.aload_n 0, 1) := by decide +kernel
theorem dL_openFor_3 : decode cL_openFor 3 = .ok (.iload_n 1, 1) := by decide +kernel
theorem dL_openFor_4 : decode cL_openFor 4 = .ok (.invokevirtual 34, 3) := by decide +kernel
theorem dL_openFor_7 : decode cL_openFor 7 = .ok (.i2l, 1) := by decide +kernel
theorem dL_openFor_8 : decode cL_openFor 8 = .ok (.lastore, 1) := by decide +kernel
theorem dL_openFor_9 : decode cL_openFor 9 = .ok (.goto 6, 3) := by decide +kernel
theorem dL_openFor_12 : decode cL_openFor 12 = .ok (.astore_n 3, 1) := by decide +kernel
theorem dL_openFor_13 : decode cL_openFor 13 = .ok (.iconst 1, 1) := by decide +kernel
theorem dL_openFor_14 : decode cL_openFor 14 = .ok (.ireturn, 1) := by decide +kernel
theorem dL_openFor_15 : decode cL_openFor 15 = .ok (.iconst 0, 1) := by decide +kernel
theorem dL_openFor_16 : decode cL_openFor 16 = .ok (.ireturn, 1) := by decide +kernel
theorem dL_addBadge_0 : decode cL_addBadge 0 = .ok (.aload_n 2, 1) := by decide +kernel
theorem dL_addBadge_1 : decode cL_addBadge 1 = .ok (.iconst 0, 1) := by decide +kernel
theorem dL_addBadge_2 : decode cL_addBadge 2 = .ok (.aload_n 0, 1) := by decide +kernel
