theorem dX4_measureTo_14 : decode cX4_measureTo 14 = .ok (.getfield 21, 3) := by decide +kernel
theorem dX4_measureTo_17 : decode cX4_measureTo 17 = .ok (.iload_n 2, 1) := by decide +kernel
theorem dX4_measureTo_18 : decode cX4_measureTo 18 = .ok (.invokevirtual 169, 3) := by decide +kernel
theorem dX4_measureTo_21 : decode cX4_measureTo 21 = .ok (.checkcast 9, 3) := by decide +kernel
theorem dX4_measureTo_24 : decode cX4_measureTo 24 = .ok (.iconst (-1), 1) := by decide +kernel
theorem dX4_measureTo_25 : decode cX4_measureTo 25 = .ok (.putfield 99, 3) := by decide +kernel
theorem dX4_measureTo_28 : decode cX4_measureTo 28 = .ok (.iinc 2 1, 3) := by decide +kernel
theorem dX4_measureTo_31 : decode cX4_measureTo 31 = .ok (.goto (-29), 3) := by decide +kernel
theorem dX4_measureTo_34 : decode cX4_measureTo 34 = .ok (.aload_n 1, 1) := by decide +kernel
theorem dX4_measureTo_35 : decode cX4_measureTo 35 = .ok (.iconst 0, 1) := by decide +kernel
theorem dX4_measureTo_36 : decode cX4_measureTo 36 = .ok (.putfield 99, 3) := by decide +kernel
theorem dX4_measureTo_39 : decode cX4_measureTo 39 = .ok (.iconst 0, 1) := by decide +kernel
theorem dX4_measureTo_40 : decode cX4_measureTo 40 = .ok (.istore_n 2, 1) := by decide +kernel
theorem dX4_measureTo_41 : decode cX4_measureTo 41 = .ok (.iload_n 2, 1) := by decide +kernel
theorem dX4_measureTo_42 : decode cX4_measureTo 42 = .ok (.aload_n 0, 1) := by decide +kernel
theorem dX4_measureTo_43 : decode cX4_measureTo 43 = .ok (.getfield 21, 3) := by decide +kernel
theorem dX4_measureTo_46 : decode cX4_measureTo 46 = .ok (.invokevirtual 47, 3) := by decide +kernel
theorem dX4_measureTo_49 : decode cX4_measureTo 49 = .ok (.if_icmp .ge 43, 3) := by decide +kernel
theorem dX4_measureTo_52 : decode cX4_measureTo 52 = .ok (.iconst 0, 1) := by decide +kernel
theorem dX4_measureTo_53 : decode cX4_measureTo 53 = .ok (.istore_n 3, 1) := by decide +kernel
theorem dX4_measureTo_54 : decode cX4_measureTo 54 = .ok (.iload_n 3, 1) := by decide +kernel
theorem dX4_measureTo_55 : decode cX4_measureTo 55 = .ok (.aload_n 0, 1) := by decide +kernel
theorem dX4_measureTo_56 : decode cX4_measureTo 56 = .ok (.getfield 25, 3) := by decide +kernel
theorem dX4_measureTo_59 : decode cX4_measureTo 59 = .ok (.invokevirtual 47, 3) := by decide +kernel
theorem dX4_measureTo_62 : decode cX4_measureTo 62 = .ok (.if_icmp .ge 24, 3) := by decide +kernel
theorem dX4_measureTo_65 : decode cX4_measureTo 65 = .ok (.aload_n 0, 1) := by decide +kernel
theorem dX4_measureTo_66 : decode cX4_measureTo 66 = .ok (.getfield 25, 3) := by decide +kernel
theorem dX4_measureTo_69 : decode cX4_measureTo 69 = .ok (.iload_n 3, 1) := by decide +kernel
theorem dX4_measureTo_70 : decode cX4_measureTo 70 = .ok (.invokevirtual 169, 3) := by decide +kernel
theorem dX4_measureTo_73 : decode cX4_measureTo 73 = .ok (.checkcast 91, 3) := by decide +kernel
theorem dX4_measureTo_76 : decode cX4_measureTo 76 = .ok (.iload_n 2, 1) := by decide +kernel
theorem dX4_measureTo_77 : decode cX4_measureTo 77 = .ok (.invokevirtual 279, 3) := by decide +kernel
theorem dX4_measureTo_80 : decode cX4_measureTo 80 = .ok (.iinc 3 1, 3) := by decide +kernel
theorem dX4_measureTo_83 : decode cX4_measureTo 83 = .ok (.goto (-29), 3) := by decide +kernel
theorem dX4_measureTo_86 : decode cX4_measureTo 86 = .ok (.iinc 2 1, 3) := by decide +kernel
theorem dX4_measureTo_89 : decode cX4_measureTo 89 = .ok (.goto (-48), 3) := by decide +kernel
theorem dX4_measureTo_92 : decode cX4_measureTo 92 = .ok (.return_, 1) := by decide +kernel
theorem dJ6_bitCount_0f7a4_0 : decode cJ6_bitCount_0f7a4 0 = .ok (.iload_n 0, 1) := by decide +kernel
theorem dJ6_bitCount_0f7a4_1 : decode cJ6_bitCount_0f7a4 1 = .ok (.iload_n 0, 1) := by decide +kernel
theorem dJ6_bitCount_0f7a4_2 : decode cJ6_bitCount_0f7a4 2 = .ok (.iconst 1, 1) := by decide +kernel
theorem dJ6_bitCount_0f7a4_3 : decode cJ6_bitCount_0f7a4 3 = .ok (.iushr, 1) := by decide +kernel
theorem dJ6_bitCount_0f7a4_4 : decode cJ6_bitCount_0f7a4 4 = .ok (.ldc_w 265, 3) := by decide +kernel
theorem dJ6_bitCount_0f7a4_7 : decode cJ6_bitCount_0f7a4 7 = .ok (.iand, 1) := by decide +kernel
theorem dJ6_bitCount_0f7a4_8 : decode cJ6_bitCount_0f7a4 8 = .ok (.isub, 1) := by decide +kernel
theorem dJ6_bitCount_0f7a4_9 : decode cJ6_bitCount_0f7a4 9 = .ok (.istore_n 0, 1) := by decide +kernel
theorem dJ6_bitCount_0f7a4_10 : decode cJ6_bitCount_0f7a4 10 = .ok (.iload_n 0, 1) := by decide +kernel
theorem dJ6_bitCount_0f7a4_11 : decode cJ6_bitCount_0f7a4 11 = .ok (.ldc_w 266, 3) := by decide +kernel
theorem dJ6_bitCount_0f7a4_14 : decode cJ6_bitCount_0f7a4 14 = .ok (.iand, 1) := by decide +kernel
theorem dJ6_bitCount_0f7a4_15 : decode cJ6_bitCount_0f7a4 15 = .ok (.iload_n 0, 1) := by decide +kernel
theorem dJ6_bitCount_0f7a4_16 : decode cJ6_bitCount_0f7a4 16 = .ok (.iconst 2, 1) := by decide +kernel
theorem dJ6_bitCount_0f7a4_17 : decode cJ6_bitCount_0f7a4 17 = .ok (.iushr, 1) := by decide +kernel
theorem dJ6_bitCount_0f7a4_18 : decode cJ6_bitCount_0f7a4 18 = .ok (.ldc_w 266, 3) := by decide +kernel
theorem dJ6_bitCount_0f7a4_21 : decode cJ6_bitCount_0f7a4 21 = .ok (.iand, 1) := by decide +kernel
theorem dJ6_bitCount_0f7a4_22 : decode cJ6_bitCount_0f7a4 22 = .ok (.iadd, 1) := by decide +kernel
theorem dJ6_bitCount_0f7a4_23 : decode cJ6_bitCount_0f7a4 23 = .ok (.istore_n 0, 1) := by decide +kernel
theorem dJ6_bitCount_0f7a4_24 : decode cJ6_bitCount_0f7a4 24 = .ok (.iload_n 0, 1) := by decide +kernel
theorem dJ6_bitCount_0f7a4_25 : decode cJ6_bitCount_0f7a4 25 = .ok (.iload_n 0, 1) := by decide +kernel
theorem dJ6_bitCount_0f7a4_26 : decode cJ6_bitCount_0f7a4 26 = .ok (.iconst 4, 1) := by decide +kernel
theorem dJ6_bitCount_0f7a4_27 : decode cJ6_bitCount_0f7a4 27 = .ok (.iushr, 1) := by decide +kernel
theorem dJ6_bitCount_0f7a4_28 : decode cJ6_bitCount_0f7a4 28 = .ok (.iadd, 1) := by decide +kernel
theorem dJ6_bitCount_0f7a4_29 : decode cJ6_bitCount_0f7a4 29 = .ok (.ldc_w 267, 3) := by decide +kernel
theorem dJ6_bitCount_0f7a4_32 : decode cJ6_bitCount_0f7a4 32 = .ok (.iand, 1) := by decide +kernel
theorem dJ6_bitCount_0f7a4_33 : decode cJ6_bitCount_0f7a4 33 = .ok (.istore_n 0, 1) := by decide +kernel
theorem dJ6_bitCount_0f7a4_34 : decode cJ6_bitCount_0f7a4 34 = .ok (.iload_n 0, 1) := by decide +kernel
theorem dJ6_bitCount_0f7a4_35 : decode cJ6_bitCount_0f7a4 35 = .ok (.iload_n 0, 1) := by decide +kernel
theorem dJ6_bitCount_0f7a4_36 : decode cJ6_bitCount_0f7a4 36 = .ok (.bipush 8, 2) := by decide +kernel
theorem dJ6_bitCount_0f7a4_38 : decode cJ6_bitCount_0f7a4 38 = .ok (.iushr, 1) := by decide +kernel
theorem dJ6_bitCount_0f7a4_39 : decode cJ6_bitCount_0f7a4 39 = .ok (.iadd, 1) := by decide +kernel
theorem dJ6_bitCount_0f7a4_40 : decode cJ6_bitCount_0f7a4 40 = .ok (.istore_n 0, 1) := by decide +kernel
theorem dJ6_bitCount_0f7a4_41 : decode cJ6_bitCount_0f7a4 41 = .ok (.iload_n 0, 1) := by decide +kernel
theorem dJ6_bitCount_0f7a4_42 : decode cJ6_bitCount_0f7a4 42 = .ok (.iload_n 0, 1) := by decide +kernel
theorem dJ6_bitCount_0f7a4_43 : decode cJ6_bitCount_0f7a4 43 = .ok (.bipush 16, 2) := by decide +kernel
theorem dJ6_bitCount_0f7a4_45 : decode cJ6_bitCount_0f7a4 45 = .ok (.iushr, 1) := by decide +kernel
theorem dJ6_bitCount_0f7a4_46 : decode cJ6_bitCount_0f7a4 46 = .ok (.iadd, 1) := by decide +kernel
theorem dJ6_bitCount_0f7a4_47 : decode cJ6_bitCount_0f7a4 47 = .ok (.istore_n 0, 1) := by decide +kernel
theorem dJ6_bitCount_0f7a4_48 : decode cJ6_bitCount_0f7a4 48 = .ok (.iload_n 0, 1) := by decide +kernel
theorem dJ6_bitCount_0f7a4_49 : decode cJ6_bitCount_0f7a4 49 = .ok (.bipush 63, 2) := by decide +kernel
theorem dJ6_bitCount_0f7a4_51 : decode cJ6_bitCount_0f7a4 51 = .ok (.iand, 1) := by decide +kernel
theorem dJ6_bitCount_0f7a4_52 : decode cJ6_bitCount_0f7a4 52 = .ok (.ireturn, 1) := by decide +kernel
theorem dJ9_max_7cf53_0 : decode cJ9_max_7cf53 0 = .ok (.iload_n 0, 1) := by decide +kernel
theorem dJ9_max_7cf53_1 : decode cJ9_max_7cf53 1 = .ok (.iload_n 1, 1) := by decide +kernel
theorem dJ9_max_7cf53_2 : decode cJ9_max_7cf53 2 = .ok (.if_icmp .lt 7, 3) := by decide +kernel
theorem dJ9_max_7cf53_5 : decode cJ9_max_7cf53 5 = .ok (.iload_n 0, 1) := by decide +kernel
theorem dJ9_max_7cf53_6 : decode cJ9_max_7cf53 6 = .ok (.goto 4, 3) := by decide +kernel
theorem dJ9_max_7cf53_9 : decode cJ9_max_7cf53 9 = .ok (.iload_n 1, 1) := by decide +kernel
theorem dJ9_max_7cf53_10 : decode cJ9_max_7cf53 10 = .ok (.ireturn, 1) := by decide +kernel
theorem dJ9_min_7cf53_0 : decode cJ9_min_7cf53 0 = .ok (.iload_n 0, 1) := by decide +kernel
theorem dJ9_min_7cf53_1 : decode cJ9_min_7cf53 1 = .ok (.iload_n 1, 1) := by decide +kernel
theorem dJ9_min_7cf53_2 : decode cJ9_min_7cf53 2 = .ok (.if_icmp .gt 7, 3) := by decide +kernel
theorem dJ9_min_7cf53_5 : decode cJ9_min_7cf53 5 = .ok (.iload_n 0, 1) := by decide +kernel
theorem dJ9_min_7cf53_6 : decode cJ9_min_7cf53 6 = .ok (.goto 4, 3) := by decide +kernel
theorem dJ9_min_7cf53_9 : decode cJ9_min_7cf53 9 = .ok (.iload_n 1, 1) := by decide +kernel
theorem dJ9_min_7cf53_10 : decode cJ9_min_7cf53 10 = .ok (.ireturn, 1) := by decide +kernel
theorem dJxa1e45_init_da8c8_0 : decode cJxa1e45_init_da8c8 0 = .ok (.aload_n 0, 1) := by decide +kernel
theorem dJxa1e45_init_da8c8_1 : decode cJxa1e45_init_da8c8 1 = .ok (.invokespecial 1, 3) := by decide +kernel
theorem dJxa1e45_init_da8c8_4 : decode cJxa1e45_init_da8c8 4 = .ok (.return_, 1) := by decide +kernel
theorem dJxc12de_init_da8c8_0 : decode cJxc12de_init_da8c8 0 = .ok (.aload_n 0, 1) := by decide +kernel
theorem dJxc12de_init_da8c8_1 : decode cJxc12de_init_da8c8 1 = .ok (.invokespecial 1, 3) := by decide +kernel
theorem dJxc12de_init_da8c8_4 : decode cJxc12de_init_da8c8 4 = .ok (.aload_n 0, 1) := by decide +kernel
theorem dJxc12de_init_da8c8_5 : decode cJxc12de_init_da8c8 5 = .ok (.iconst 0, 1) := by decide +kernel
theorem dJxc12de_init_da8c8_6 : decode cJxc12de_init_da8c8 6 = .ok (.putfield 7, 3) := by decide +kernel
theorem dJxc12de_init_da8c8_9 : decode cJxc12de_init_da8c8 9 = .ok (.return_, 1) := by decide +kernel
theorem dJx4a65c_init_da8c8_0 : decode cJx4a65c_init_da8c8 0 = .ok (.aload_n 0, 1) := by decide +kernel
theorem dJx4a65c_init_da8c8_1 : decode cJx4a65c_init_da8c8 1 = .ok (.invokespecial 1, 3) := by decide +kernel
theorem dJx4a65c_init_da8c8_4 : decode cJx4a65c_init_da8c8 4 = .ok (.aload_n 0, 1) := by decide +kernel
theorem dJx4a65c_init_da8c8_5 : decode cJx4a65c_init_da8c8 5 = .ok (.getstatic 39, 3) := by decide +kernel
theorem dJx4a65c_init_da8c8_8 : decode cJx4a65c_init_da8c8 8 = .ok (.putfield 9, 3) := by decide +kernel
theorem dJx4a65c_init_da8c8_11 : decode cJx4a65c_init_da8c8 11 = .ok (.return_, 1) := by decide +kernel
theorem dJx4a65c_grow_92f84_0 : decode cJx4a65c_grow_92f84 0 = .ok (.aload_n 0, 1) := by decide +kernel
theorem dJx4a65c_grow_92f84_1 : decode cJx4a65c_grow_92f84 1 = .ok (.getfield 9, 3) := by decide +kernel
theorem dJx4a65c_grow_92f84_4 : decode cJx4a65c_grow_92f84 4 = .ok (.arraylength, 1) := by decide +kernel
theorem dJx4a65c_grow_92f84_5 : decode cJx4a65c_grow_92f84 5 = .ok (.istore_n 2, 1) := by decide +kernel
theorem dJx4a65c_grow_92f84_6 : decode cJx4a65c_grow_92f84 6 = .ok (.iload_n 2, 1) := by decide +kernel
theorem dJx4a65c_grow_92f84_7 : decode cJx4a65c_grow_92f84 7 = .ok (.ifCond .gt 13, 3) := by decide +kernel
theorem dJx4a65c_grow_92f84_10 : decode cJx4a65c_grow_92f84 10 = .ok (.aload_n 0, 1) := by decide +kernel
theorem dJx4a65c_grow_92f84_11 : decode cJx4a65c_grow_92f84 11 = .ok (.getfield 9, 3) := by decide +kernel
theorem dJx4a65c_grow_92f84_14 : decode cJx4a65c_grow_92f84 14 = .ok (.getstatic 39, 3) := by decide +kernel
theorem dJx4a65c_grow_92f84_17 : decode cJx4a65c_grow_92f84 17 = .ok (.if_acmp .eq 28, 3) := by decide +kernel
theorem dJx4a65c_grow_92f84_20 : decode cJx4a65c_grow_92f84 20 = .ok (.iload_n 2, 1) := by decide +kernel
theorem dJx4a65c_grow_92f84_21 : decode cJx4a65c_grow_92f84 21 = .ok (.iload_n 1, 1) := by decide +kernel
theorem dJx4a65c_grow_92f84_22 : decode cJx4a65c_grow_92f84 22 = .ok (.iload_n 2, 1) := by decide +kernel
theorem dJx4a65c_grow_92f84_23 : decode cJx4a65c_grow_92f84 23 = .ok (.isub, 1) := by decide +kernel
theorem dJx4a65c_grow_92f84_24 : decode cJx4a65c_grow_92f84 24 = .ok (.iload_n 2, 1) := by decide +kernel
theorem dJx4a65c_grow_92f84_25 : decode cJx4a65c_grow_92f84 25 = .ok (.iconst 1, 1) := by decide +kernel
theorem dJx4a65c_grow_92f84_26 : decode cJx4a65c_grow_92f84 26 = .ok (.ishr, 1) := by decide +kernel
theorem dJx4a65c_grow_92f84_27 : decode cJx4a65c_grow_92f84 27 = .ok (.invokestatic 73, 3) := by decide +kernel
theorem dJx4a65c_grow_92f84_30 : decode cJx4a65c_grow_92f84 30 = .ok (.istore_n 3, 1) := by decide +kernel
theorem dJx4a65c_grow_92f84_31 : decode cJx4a65c_grow_92f84 31 = .ok (.aload_n 0, 1) := by decide +kernel
theorem dJx4a65c_grow_92f84_32 : decode cJx4a65c_grow_92f84 32 = .ok (.aload_n 0, 1) := by decide +kernel
theorem dJx4a65c_grow_92f84_33 : decode cJx4a65c_grow_92f84 33 = .ok (.getfield 9, 3) := by decide +kernel
theorem dJx4a65c_grow_92f84_36 : decode cJx4a65c_grow_92f84 36 = .ok (.iload_n 3, 1) := by decide +kernel
theorem dJx4a65c_grow_92f84_37 : decode cJx4a65c_grow_92f84 37 = .ok (.invokestatic 66, 3) := by decide +kernel
theorem dJx4a65c_grow_92f84_40 : decode cJx4a65c_grow_92f84 40 = .ok (.dup_x1, 1) := by decide +kernel
theorem dJx4a65c_grow_92f84_41 : decode cJx4a65c_grow_92f84 41 = .ok (.putfield 9, 3) := by decide +kernel
theorem dJx4a65c_grow_92f84_44 : decode cJx4a65c_grow_92f84 44 = .ok (.areturn, 1) := by decide +kernel
theorem dJx4a65c_grow_92f84_45 : decode cJx4a65c_grow_92f84 45 = .ok (.aload_n 0, 1) := by decide +kernel
theorem dJx4a65c_grow_92f84_46 : decode cJx4a65c_grow_92f84 46 = .ok (.bipush 10, 2) := by decide +kernel
theorem dJx4a65c_grow_92f84_48 : decode cJx4a65c_grow_92f84 48 = .ok (.iload_n 1, 1) := by decide +kernel
theorem dJx4a65c_grow_92f84_49 : decode cJx4a65c_grow_92f84 49 = .ok (.invokestatic 79, 3) := by decide +kernel
theorem dJx4a65c_grow_92f84_52 : decode cJx4a65c_grow_92f84 52 = .ok (.anewarray 7, 3) := by decide +kernel
theorem dJx4a65c_grow_92f84_55 : decode cJx4a65c_grow_92f84 55 = .ok (.dup_x1, 1) := by decide +kernel
theorem dJx4a65c_grow_92f84_56 : decode cJx4a65c_grow_92f84 56 = .ok (.putfield 9, 3) := by decide +kernel
theorem dJx4a65c_grow_92f84_59 : decode cJx4a65c_grow_92f84 59 = .ok (.areturn, 1) := by decide +kernel
theorem dJx4a65c_grow_d5877_0 : decode cJx4a65c_grow_d5877 0 = .ok (.aload_n 0, 1) := by decide +kernel
theorem dJx4a65c_grow_d5877_1 : decode cJx4a65c_grow_d5877 1 = .ok (.aload_n 0, 1) := by decide +kernel
theorem dJx4a65c_grow_d5877_2 : decode cJx4a65c_grow_d5877 2 = .ok (.getfield 48, 3) := by decide +kernel
theorem dJx4a65c_grow_d5877_5 : decode cJx4a65c_grow_d5877 5 = .ok (.iconst 1, 1) := by decide +kernel
theorem dJx4a65c_grow_d5877_6 : decode cJx4a65c_grow_d5877 6 = .ok (.iadd, 1) := by decide +kernel
theorem dJx4a65c_grow_d5877_7 : decode cJx4a65c_grow_d5877 7 = .ok (.invokevirtual 69, 3) := by decide +kernel
theorem dJx4a65c_grow_d5877_10 : decode cJx4a65c_grow_d5877 10 = .ok (.areturn, 1) := by decide +kernel
theorem dJx4a65c_size_8abf5_0 : decode cJx4a65c_size_8abf5 0 = .ok (.aload_n 0, 1) := by decide +kernel
theorem dJx4a65c_size_8abf5_1 : decode cJx4a65c_size_8abf5 1 = .ok (.getfield 48, 3) := by decide +kernel
theorem dJx4a65c_size_8abf5_4 : decode cJx4a65c_size_8abf5 4 = .ok (.ireturn, 1) := by decide +kernel
theorem dJx4a65c_elementData_915e3_0 : decode cJx4a65c_elementData_915e3 0 = .ok (.aload_n 0, 1) := by decide +kernel
theorem dJx4a65c_elementData_915e3_1 : decode cJx4a65c_elementData_915e3 1 = .ok (.getfield 9, 3) := by decide +kernel
theorem dJx4a65c_elementData_915e3_4 : decode cJx4a65c_elementData_915e3 4 = .ok (.iload_n 1, 1) := by decide +kernel
theorem dJx4a65c_elementData_915e3_5 : decode cJx4a65c_elementData_915e3 5 = .ok (.aaload, 1) := by decide +kernel
theorem dJx4a65c_elementData_915e3_6 : decode cJx4a65c_elementData_915e3 6 = .ok (.areturn, 1) := by decide +kernel
theorem dJx4a65c_get_915e3_0 : decode cJx4a65c_get_915e3 0 = .ok (.iload_n 1, 1) := by decide +kernel
theorem dJx4a65c_get_915e3_1 : decode cJx4a65c_get_915e3 1 = .ok (.aload_n 0, 1) := by decide +kernel
theorem dJx4a65c_get_915e3_2 : decode cJx4a65c_get_915e3 2 = .ok (.getfield 48, 3) := by decide +kernel
theorem dJx4a65c_get_915e3_5 : decode cJx4a65c_get_915e3 5 = .ok (.invokestatic 118, 3) := by decide +kernel
theorem dJx4a65c_get_915e3_8 : decode cJx4a65c_get_915e3 8 = .ok (.pop, 1) := by decide +kernel
theorem dJx4a65c_get_915e3_9 : decode cJx4a65c_get_915e3 9 = .ok (.aload_n 0, 1) := by decide +kernel
theorem dJx4a65c_get_915e3_10 : decode cJx4a65c_get_915e3 10 = .ok (.iload_n 1, 1) := by decide +kernel
theorem dJx4a65c_get_915e3_11 : decode cJx4a65c_get_915e3 11 = .ok (.invokevirtual 123, 3) := by decide +kernel
theorem dJx4a65c_get_915e3_14 : decode cJx4a65c_get_915e3 14 = .ok (.areturn, 1) := by decide +kernel
theorem dJx4a65c_add_72be8_0 : decode cJx4a65c_add_72be8 0 = .ok (.iload_n 3, 1) := by decide +kernel
theorem dJx4a65c_add_72be8_1 : decode cJx4a65c_add_72be8 1 = .ok (.aload_n 2, 1) := by decide +kernel
theorem dJx4a65c_add_72be8_2 : decode cJx4a65c_add_72be8 2 = .ok (.arraylength, 1) := by decide +kernel
theorem dJx4a65c_add_72be8_3 : decode cJx4a65c_add_72be8 3 = .ok (.if_icmp .ne 8, 3) := by decide +kernel
theorem dJx4a65c_add_72be8_6 : decode cJx4a65c_add_72be8 6 = .ok (.aload_n 0, 1) := by decide +kernel
theorem dJx4a65c_add_72be8_7 : decode cJx4a65c_add_72be8 7 = .ok (.invokevirtual 129, 3) := by decide +kernel
theorem dJx4a65c_add_72be8_10 : decode cJx4a65c_add_72be8 10 = .ok (.astore_n 2, 1) := by decide +kernel
theorem dJx4a65c_add_72be8_11 : decode cJx4a65c_add_72be8 11 = .ok (.aload_n 2, 1) := by decide +kernel
theorem dJx4a65c_add_72be8_12 : decode cJx4a65c_add_72be8 12 = .ok (.iload_n 3, 1) := by decide +kernel
theorem dJx4a65c_add_72be8_13 : decode cJx4a65c_add_72be8 13 = .ok (.aload_n 1, 1) := by decide +kernel
theorem dJx4a65c_add_72be8_14 : decode cJx4a65c_add_72be8 14 = .ok (.aastore, 1) := by decide +kernel
theorem dJx4a65c_add_72be8_15 : decode cJx4a65c_add_72be8 15 = .ok (.aload_n 0, 1) := by decide +kernel
theorem dJx4a65c_add_72be8_16 : decode cJx4a65c_add_72be8 16 = .ok (.iload_n 3, 1) := by decide +kernel
theorem dJx4a65c_add_72be8_17 : decode cJx4a65c_add_72be8 17 = .ok (.iconst 1, 1) := by decide +kernel
theorem dJx4a65c_add_72be8_18 : decode cJx4a65c_add_72be8 18 = .ok (.iadd, 1) := by decide +kernel
theorem dJx4a65c_add_72be8_19 : decode cJx4a65c_add_72be8 19 = .ok (.putfield 48, 3) := by decide +kernel
theorem dJx4a65c_add_72be8_22 : decode cJx4a65c_add_72be8 22 = .ok (.return_, 1) := by decide +kernel
theorem dJx4a65c_add_9ea2d_0 : decode cJx4a65c_add_9ea2d 0 = .ok (.aload_n 0, 1) := by decide +kernel
theorem dJx4a65c_add_9ea2d_1 : decode cJx4a65c_add_9ea2d 1 = .ok (.dup, 1) := by decide +kernel
theorem dJx4a65c_add_9ea2d_2 : decode cJx4a65c_add_9ea2d 2 = .ok (.getfield 63, 3) := by decide +kernel
theorem dJx4a65c_add_9ea2d_5 : decode cJx4a65c_add_9ea2d 5 = .ok (.iconst 1, 1) := by decide +kernel
theorem dJx4a65c_add_9ea2d_6 : decode cJx4a65c_add_9ea2d 6 = .ok (.iadd, 1) := by decide +kernel
theorem dJx4a65c_add_9ea2d_7 : decode cJx4a65c_add_9ea2d 7 = .ok (.putfield 63, 3) := by decide +kernel
theorem dJx4a65c_add_9ea2d_10 : decode cJx4a65c_add_9ea2d 10 = .ok (.aload_n 0, 1) := by decide +kernel
theorem dJx4a65c_add_9ea2d_11 : decode cJx4a65c_add_9ea2d 11 = .ok (.aload_n 1, 1) := by decide +kernel
theorem dJx4a65c_add_9ea2d_12 : decode cJx4a65c_add_9ea2d 12 = .ok (.aload_n 0, 1) := by decide +kernel
theorem dJx4a65c_add_9ea2d_13 : decode cJx4a65c_add_9ea2d 13 = .ok (.getfield 9, 3) := by decide +kernel
theorem dJx4a65c_add_9ea2d_16 : decode cJx4a65c_add_9ea2d 16 = .ok (.aload_n 0, 1) := by decide +kernel
theorem dJx4a65c_add_9ea2d_17 : decode cJx4a65c_add_9ea2d 17 = .ok (.getfield 48, 3) := by decide +kernel
theorem dJx4a65c_add_9ea2d_20 : decode cJx4a65c_add_9ea2d 20 = .ok (.invokevirtual 131, 3) := by decide +kernel
theorem dJx4a65c_add_9ea2d_23 : decode cJx4a65c_add_9ea2d 23 = .ok (.iconst 1, 1) := by decide +kernel
theorem dJx4a65c_add_9ea2d_24 : decode cJx4a65c_add_9ea2d 24 = .ok (.ireturn, 1) := by decide +kernel
theorem dJ7_copyOf_1904c_0 : decode cJ7_copyOf_1904c 0 = .ok (.aload_n 0, 1) := by decide +kernel
theorem dJ7_copyOf_1904c_1 : decode cJ7_copyOf_1904c 1 = .ok (.iload_n 1, 1) := by decide +kernel
theorem dJ7_copyOf_1904c_2 : decode cJ7_copyOf_1904c 2 = .ok (.aload_n 0, 1) := by decide +kernel
theorem dJ7_copyOf_1904c_3 : decode cJ7_copyOf_1904c 3 = .ok (.invokevirtual 86, 3) := by decide +kernel
theorem dJ7_copyOf_1904c_6 : decode cJ7_copyOf_1904c 6 = .ok (.invokestatic 300, 3) := by decide +kernel
theorem dJ7_copyOf_1904c_9 : decode cJ7_copyOf_1904c 9 = .ok (.areturn, 1) := by decide +kernel
theorem dJ7_copyOf_6403c_0 : decode cJ7_copyOf_6403c 0 = .ok (.aload_n 2, 1) := by decide +kernel
theorem dJ7_copyOf_6403c_1 : decode cJ7_copyOf_6403c 1 = .ok (.ldc 110, 2) := by decide +kernel
theorem dJ7_copyOf_6403c_3 : decode cJ7_copyOf_6403c 3 = .ok (.if_acmp .ne 10, 3) := by decide +kernel
theorem dJ7_copyOf_6403c_6 : decode cJ7_copyOf_6403c 6 = .ok (.iload_n 1, 1) := by decide +kernel
theorem dJ7_copyOf_6403c_7 : decode cJ7_copyOf_6403c 7 = .ok (.anewarray 2, 3) := by decide +kernel
theorem dJ7_copyOf_6403c_10 : decode cJ7_copyOf_6403c 10 = .ok (.goto 14, 3) := by decide +kernel
theorem dJ7_copyOf_6403c_13 : decode cJ7_copyOf_6403c 13 = .ok (.aload_n 2, 1) := by decide +kernel
theorem dJ7_copyOf_6403c_14 : decode cJ7_copyOf_6403c 14 = .ok (.invokevirtual 90, 3) := by decide +kernel
theorem dJ7_copyOf_6403c_17 : decode cJ7_copyOf_6403c 17 = .ok (.iload_n 1, 1) := by decide +kernel
theorem dJ7_copyOf_6403c_18 : decode cJ7_copyOf_6403c 18 = .ok (.invokestatic 95, 3) := by decide +kernel
theorem dJ7_copyOf_6403c_21 : decode cJ7_copyOf_6403c 21 = .ok (.checkcast 110, 3) := by decide +kernel
theorem dJ7_copyOf_6403c_24 : decode cJ7_copyOf_6403c 24 = .ok (.astore_n 3, 1) := by decide +kernel
theorem dJ7_copyOf_6403c_25 : decode cJ7_copyOf_6403c 25 = .ok (.aload_n 0, 1) := by decide +kernel
theorem dJ7_copyOf_6403c_26 : decode cJ7_copyOf_6403c 26 = .ok (.iconst 0, 1) := by decide +kernel
theorem dJ7_copyOf_6403c_27 : decode cJ7_copyOf_6403c 27 = .ok (.aload_n 3, 1) := by decide +kernel
theorem dJ7_copyOf_6403c_28 : decode cJ7_copyOf_6403c 28 = .ok (.iconst 0, 1) := by decide +kernel
theorem dJ7_copyOf_6403c_29 : decode cJ7_copyOf_6403c 29 = .ok (.aload_n 0, 1) := by decide +kernel
theorem dJ7_copyOf_6403c_30 : decode cJ7_copyOf_6403c 30 = .ok (.arraylength, 1) := by decide +kernel
theorem dJ7_copyOf_6403c_31 : decode cJ7_copyOf_6403c 31 = .ok (.iload_n 1, 1) := by decide +kernel
theorem dJ7_copyOf_6403c_32 : decode cJ7_copyOf_6403c 32 = .ok (.invokestatic 304, 3) := by decide +kernel
theorem dJ7_copyOf_6403c_35 : decode cJ7_copyOf_6403c 35 = .ok (.invokestatic 150, 3) := by decide +kernel
theorem dJ7_copyOf_6403c_38 : decode cJ7_copyOf_6403c 38 = .ok (.aload_n 3, 1) := by decide +kernel
theorem dJ7_copyOf_6403c_39 : decode cJ7_copyOf_6403c 39 = .ok (.areturn, 1) := by decide +kernel
theorem dJ15_checkIndex_7cf53_0 : decode cJ15_checkIndex_7cf53 0 = .ok (.iload_n 0, 1) := by decide +kernel
theorem dJ15_checkIndex_7cf53_1 : decode cJ15_checkIndex_7cf53 1 = .ok (.iload_n 1, 1) := by decide +kernel
theorem dJ15_checkIndex_7cf53_2 : decode cJ15_checkIndex_7cf53 2 = .ok (.aconst_null, 1) := by decide +kernel
theorem dJ15_checkIndex_7cf53_3 : decode cJ15_checkIndex_7cf53 3 = .ok (.invokestatic 105, 3) := by decide +kernel
theorem dJ15_checkIndex_7cf53_6 : decode cJ15_checkIndex_7cf53 6 = .ok (.ireturn, 1) := by decide +kernel
theorem dJ8_newLength_cabcc_0 : decode cJ8_newLength_cabcc 0 = .ok (.iload_n 0, 1) := by decide +kernel
theorem dJ8_newLength_cabcc_1 : decode cJ8_newLength_cabcc 1 = .ok (.iload_n 1, 1) := by decide +kernel
theorem dJ8_newLength_cabcc_2 : decode cJ8_newLength_cabcc 2 = .ok (.iload_n 2, 1) := by decide +kernel
theorem dJ8_newLength_cabcc_3 : decode cJ8_newLength_cabcc 3 = .ok (.invokestatic 194, 3) := by decide +kernel
theorem dJ8_newLength_cabcc_6 : decode cJ8_newLength_cabcc 6 = .ok (.iadd, 1) := by decide +kernel
theorem dJ8_newLength_cabcc_7 : decode cJ8_newLength_cabcc 7 = .ok (.istore_n 3, 1) := by decide +kernel
theorem dJ8_newLength_cabcc_8 : decode cJ8_newLength_cabcc 8 = .ok (.iconst 0, 1) := by decide +kernel
theorem dJ8_newLength_cabcc_9 : decode cJ8_newLength_cabcc 9 = .ok (.iload_n 3, 1) := by decide +kernel
theorem dJ8_newLength_cabcc_10 : decode cJ8_newLength_cabcc 10 = .ok (.if_icmp .ge 11, 3) := by decide +kernel
theorem dJ8_newLength_cabcc_13 : decode cJ8_newLength_cabcc 13 = .ok (.iload_n 3, 1) := by decide +kernel
theorem dJ8_newLength_cabcc_14 : decode cJ8_newLength_cabcc 14 = .ok (.ldc 200, 2) := by decide +kernel
theorem dJ8_newLength_cabcc_16 : decode cJ8_newLength_cabcc 16 = .ok (.if_icmp .gt 5, 3) := by decide +kernel
theorem dJ8_newLength_cabcc_19 : decode cJ8_newLength_cabcc 19 = .ok (.iload_n 3, 1) := by decide +kernel
theorem dJ8_newLength_cabcc_20 : decode cJ8_newLength_cabcc 20 = .ok (.ireturn, 1) := by decide +kernel
theorem dJ8_newLength_cabcc_21 : decode cJ8_newLength_cabcc 21 = .ok (.iload_n 0, 1) := by decide +kernel
theorem dJ8_newLength_cabcc_22 : decode cJ8_newLength_cabcc 22 = .ok (.iload_n 1, 1) := by decide +kernel
theorem dJ8_newLength_cabcc_23 : decode cJ8_newLength_cabcc 23 = .ok (.invokestatic 201, 3) := by decide +kernel
theorem dJ8_newLength_cabcc_26 : decode cJ8_newLength_cabcc 26 = .ok (.ireturn, 1) := by decide +kernel
theorem dJ8_hugeLength_7cf53_0 : decode cJ8_hugeLength_7cf53 0 = .ok (.iload_n 0, 1) := by decide +kernel
theorem dJ8_hugeLength_7cf53_1 : decode cJ8_hugeLength_7cf53 1 = .ok (.iload_n 1, 1) := by decide +kernel
theorem dJ8_hugeLength_7cf53_2 : decode cJ8_hugeLength_7cf53 2 = .ok (.iadd, 1) := by decide +kernel
theorem dJ8_hugeLength_7cf53_3 : decode cJ8_hugeLength_7cf53 3 = .ok (.istore_n 2, 1) := by decide +kernel
theorem dJ8_hugeLength_7cf53_4 : decode cJ8_hugeLength_7cf53 4 = .ok (.iload_n 2, 1) := by decide +kernel
theorem dJ8_hugeLength_7cf53_5 : decode cJ8_hugeLength_7cf53 5 = .ok (.ifCond .ge 44, 3) := by decide +kernel
theorem dJ8_hugeLength_7cf53_8 : decode cJ8_hugeLength_7cf53 8 = .ok (.new 204, 3) := by decide +kernel
theorem dJ8_hugeLength_7cf53_11 : decode cJ8_hugeLength_7cf53 11 = .ok (.dup, 1) := by decide +kernel
theorem dJ8_hugeLength_7cf53_12 : decode cJ8_hugeLength_7cf53 12 = .ok (.new 89, 3) := by decide +kernel
theorem dJ8_hugeLength_7cf53_15 : decode cJ8_hugeLength_7cf53 15 = .ok (.dup, 1) := by decide +kernel
theorem dJ8_hugeLength_7cf53_16 : decode cJ8_hugeLength_7cf53 16 = .ok (.invokespecial 91, 3) := by decide +kernel
theorem dJ8_hugeLength_7cf53_19 : decode cJ8_hugeLength_7cf53 19 = .ok (.ldc 206, 2) := by decide +kernel
theorem dJ8_hugeLength_7cf53_21 : decode cJ8_hugeLength_7cf53 21 = .ok (.invokevirtual 94, 3) := by decide +kernel
theorem dJ8_hugeLength_7cf53_24 : decode cJ8_hugeLength_7cf53 24 = .ok (.iload_n 0, 1) := by decide +kernel
theorem dJ8_hugeLength_7cf53_25 : decode cJ8_hugeLength_7cf53 25 = .ok (.invokevirtual 98, 3) := by decide +kernel
theorem dJ8_hugeLength_7cf53_28 : decode cJ8_hugeLength_7cf53 28 = .ok (.ldc 208, 2) := by decide +kernel
theorem dJ8_hugeLength_7cf53_30 : decode cJ8_hugeLength_7cf53 30 = .ok (.invokevirtual 94, 3) := by decide +kernel
theorem dJ8_hugeLength_7cf53_33 : decode cJ8_hugeLength_7cf53 33 = .ok (.iload_n 1, 1) := by decide +kernel
theorem dJ8_hugeLength_7cf53_34 : decode cJ8_hugeLength_7cf53 34 = .ok (.invokevirtual 98, 3) := by decide +kernel
theorem dJ8_hugeLength_7cf53_37 : decode cJ8_hugeLength_7cf53 37 = .ok (.ldc 210, 2) := by decide +kernel
theorem dJ8_hugeLength_7cf53_39 : decode cJ8_hugeLength_7cf53 39 = .ok (.invokevirtual 94, 3) := by decide +kernel
theorem dJ8_hugeLength_7cf53_42 : decode cJ8_hugeLength_7cf53 42 = .ok (.invokevirtual 101, 3) := by decide +kernel
theorem dJ8_hugeLength_7cf53_45 : decode cJ8_hugeLength_7cf53 45 = .ok (.invokespecial 212, 3) := by decide +kernel
theorem dJ8_hugeLength_7cf53_48 : decode cJ8_hugeLength_7cf53 48 = .ok (.athrow, 1) := by decide +kernel
theorem dJ8_hugeLength_7cf53_49 : decode cJ8_hugeLength_7cf53 49 = .ok (.iload_n 2, 1) := by decide +kernel
theorem dJ8_hugeLength_7cf53_50 : decode cJ8_hugeLength_7cf53 50 = .ok (.ldc 200, 2) := by decide +kernel
theorem dJ8_hugeLength_7cf53_52 : decode cJ8_hugeLength_7cf53 52 = .ok (.if_icmp .gt 6, 3) := by decide +kernel
theorem dJ8_hugeLength_7cf53_55 : decode cJ8_hugeLength_7cf53 55 = .ok (.ldc 200, 2) := by decide +kernel
theorem dJ8_hugeLength_7cf53_57 : decode cJ8_hugeLength_7cf53 57 = .ok (.ireturn, 1) := by decide +kernel
theorem dJ8_hugeLength_7cf53_58 : decode cJ8_hugeLength_7cf53 58 = .ok (.iload_n 2, 1) := by decide +kernel
theorem dJ8_hugeLength_7cf53_59 : decode cJ8_hugeLength_7cf53 59 = .ok (.ireturn, 1) := by decide +kernel
theorem dJ3_checkIndex_8e157_0 : decode cJ3_checkIndex_8e157 0 = .ok (.iload_n 0, 1) := by decide +kernel
theorem dJ3_checkIndex_8e157_1 : decode cJ3_checkIndex_8e157 1 = .ok (.ifCond .lt 8, 3) := by decide +kernel
theorem dJ3_checkIndex_8e157_4 : decode cJ3_checkIndex_8e157 4 = .ok (.iload_n 0, 1) := by decide +kernel
theorem dJ3_checkIndex_8e157_5 : decode cJ3_checkIndex_8e157 5 = .ok (.iload_n 1, 1) := by decide +kernel
theorem dJ3_checkIndex_8e157_6 : decode cJ3_checkIndex_8e157 6 = .ok (.if_icmp .lt 10, 3) := by decide +kernel
theorem dJ3_checkIndex_8e157_9 : decode cJ3_checkIndex_8e157 9 = .ok (.aload_n 2, 1) := by decide +kernel
theorem dJ3_checkIndex_8e157_10 : decode cJ3_checkIndex_8e157 10 = .ok (.iload_n 0, 1) := by decide +kernel
theorem dJ3_checkIndex_8e157_11 : decode cJ3_checkIndex_8e157 11 = .ok (.iload_n 1, 1) := by decide +kernel
theorem dJ3_checkIndex_8e157_12 : decode cJ3_checkIndex_8e157 12 = .ok (.invokestatic 95, 3) := by decide +kernel
theorem dJ3_checkIndex_8e157_15 : decode cJ3_checkIndex_8e157 15 = .ok (.athrow, 1) := by decide +kernel
theorem dJ3_checkIndex_8e157_16 : decode cJ3_checkIndex_8e157 16 = .ok (.iload_n 0, 1) := by decide +kernel
theorem dJ3_checkIndex_8e157_17 : decode cJ3_checkIndex_8e157 17 = .ok (.ireturn, 1) := by decide +kernel
theorem dL_below_0 : decode cL_below 0 = .ok (.iload_n 0, 1) := by decide +kernel
theorem dL_below_1 : decode cL_below 1 = .ok (.ldc 7, 2) := by decide +kernel
theorem dL_below_3 : decode cL_below 3 = .ok (.iand, 1) := by decide +kernel
theorem dL_below_4 : decode cL_below 4 = .ok (.iload_n 1, 1) := by decide +kernel
theorem dL_below_5 : decode cL_below 5 = .ok (.irem, 1) := by decide +kernel
theorem dL_below_6 : decode cL_below 6 = .ok (.ireturn, 1) := by decide +kernel
theorem dL_cell_0 : decode cL_cell 0 = .ok (.iload_n 1, 1) := by decide +kernel
theorem dL_cell_1 : decode cL_cell 1 = .ok (.aload_n 0, 1) := by decide +kernel
theorem dL_cell_2 : decode cL_cell 2 = .ok (.arraylength, 1) := by decide +kernel
theorem dL_cell_3 : decode cL_cell 3 = .ok (.if_icmp .ge 9, 3) := by decide +kernel
theorem dL_cell_6 : decode cL_cell 6 = .ok (.aload_n 0, 1) := by decide +kernel
theorem dL_cell_7 : decode cL_cell 7 = .ok (.iload_n 1, 1) := by decide +kernel
theorem dL_cell_8 : decode cL_cell 8 = .ok (.iaload, 1) := by decide +kernel
theorem dL_cell_9 : decode cL_cell 9 = .ok (.goto 9, 3) := by decide +kernel
theorem dL_cell_12 : decode cL_cell 12 = .ok (.ldc 8, 2) := by decide +kernel
theorem dL_cell_14 : decode cL_cell 14 = .ok (.iload_n 1, 1) := by decide +kernel
theorem dL_cell_15 : decode cL_cell 15 = .ok (.iconst 3, 1) := by decide +kernel
theorem dL_cell_16 : decode cL_cell 16 = .ok (.iadd, 1) := by decide +kernel
theorem dL_cell_17 : decode cL_cell 17 = .ok (.imul, 1) := by decide +kernel
theorem dL_cell_18 : decode cL_cell 18 = .ok (.ireturn, 1) := by decide +kernel
theorem dL_build_0 : decode cL_build 0 = .ok (.aload_n 3, 1) := by decide +kernel
theorem dL_build_1 : decode cL_build 1 = .ok (.iconst 0, 1) := by decide +kernel
theorem dL_build_2 : decode cL_build 2 = .ok (.iconst 1, 1) := by decide +kernel
theorem dL_build_3 : decode cL_build 3 = .ok (.aload_n 1, 1) := by decide +kernel
theorem dL_build_4 : decode cL_build 4 = .ok (.iload_n 2, 1) := by decide +kernel
theorem dL_build_5 : decode cL_build 5 = .ok (.invokestatic 9, 3) := by decide +kernel
theorem dL_build_8 : decode cL_build 8 = .ok (.bipush 6, 2) := by decide +kernel
theorem dL_build_10 : decode cL_build 10 = .ok (.invokestatic 15, 3) := by decide +kernel
theorem dL_build_13 : decode cL_build 13 = .ok (.iadd, 1) := by decide +kernel
theorem dL_build_14 : decode cL_build 14 = .ok (.iastore, 1) := by decide +kernel
theorem dL_build_15 : decode cL_build 15 = .ok (.iconst 1, 1) := by decide +kernel
theorem dL_build_16 : decode cL_build 16 = .ok (.istore 7, 2) := by decide +kernel
theorem dL_build_18 : decode cL_build 18 = .ok (.iload 7, 2) := by decide +kernel
theorem dL_build_20 : decode cL_build 20 = .ok (.aload_n 3, 1) := by decide +kernel
theorem dL_build_21 : decode cL_build 21 = .ok (.iconst 0, 1) := by decide +kernel
theorem dL_build_22 : decode cL_build 22 = .ok (.iaload, 1) := by decide +kernel
theorem dL_build_23 : decode cL_build 23 = .ok (.if_icmp .ge 188, 3) := by decide +kernel
theorem dL_build_26 : decode cL_build 26 = .ok (.aload_n 1, 1) := by decide +kernel
theorem dL_build_27 : decode cL_build 27 = .ok (.iload_n 2, 1) := by decide +kernel
theorem dL_build_28 : decode cL_build 28 = .ok (.iconst 1, 1) := by decide +kernel
theorem dL_build_29 : decode cL_build 29 = .ok (.iadd, 1) := by decide +kernel
theorem dL_build_30 : decode cL_build 30 = .ok (.iload 7, 2) := by decide +kernel
theorem dL_build_32 : decode cL_build 32 = .ok (.iconst 3, 1) := by decide +kernel
theorem dL_build_33 : decode cL_build 33 = .ok (.irem, 1) := by decide +kernel
theorem dL_build_34 : decode cL_build 34 = .ok (.iadd, 1) := by decide +kernel
theorem dL_build_35 : decode cL_build 35 = .ok (.invokestatic 9, 3) := by decide +kernel
theorem dL_build_38 : decode cL_build 38 = .ok (.iload 7, 2) := by decide +kernel
theorem dL_build_40 : decode cL_build 40 = .ok (.iconst 3, 1) := by decide +kernel
theorem dL_build_41 : decode cL_build 41 = .ok (.idiv, 1) := by decide +kernel
theorem dL_build_42 : decode cL_build 42 = .ok (.bipush 11, 2) := by decide +kernel
theorem dL_build_44 : decode cL_build 44 = .ok (.imul, 1) := by decide +kernel
theorem dL_build_45 : decode cL_build 45 = .ok (.ishr, 1) := by decide +kernel
theorem dL_build_46 : decode cL_build 46 = .ok (.istore 8, 2) := by decide +kernel
theorem dL_build_48 : decode cL_build 48 = .ok (.aload 4, 2) := by decide +kernel
theorem dL_build_50 : decode cL_build 50 = .ok (.iconst 3, 1) := by decide +kernel
theorem dL_build_51 : decode cL_build 51 = .ok (.iload 7, 2) := by decide +kernel
theorem dL_build_53 : decode cL_build 53 = .ok (.imul, 1) := by decide +kernel
theorem dL_build_54 : decode cL_build 54 = .ok (.iload 8, 2) := by decide +kernel
theorem dL_build_56 : decode cL_build 56 = .ok (.iconst 3, 1) := by decide +kernel
theorem dL_build_57 : decode cL_build 57 = .ok (.invokestatic 15, 3) := by decide +kernel
theorem dL_build_60 : decode cL_build 60 = .ok (.ifCond .ne 7, 3) := by decide +kernel
theorem dL_build_63 : decode cL_build 63 = .ok (.iconst 1, 1) := by decide +kernel
theorem dL_build_64 : decode cL_build 64 = .ok (.goto 13, 3) := by decide +kernel
theorem dL_build_67 : decode cL_build 67 = .ok (.iconst 1, 1) := by decide +kernel
theorem dL_build_68 : decode cL_build 68 = .ok (.iload 8, 2) := by decide +kernel
theorem dL_build_70 : decode cL_build 70 = .ok (.iconst 1, 1) := by decide +kernel
theorem dL_build_71 : decode cL_build 71 = .ok (.ishr, 1) := by decide +kernel
theorem dL_build_72 : decode cL_build 72 = .ok (.iconst 4, 1) := by decide +kernel
theorem dL_build_73 : decode cL_build 73 = .ok (.invokestatic 15, 3) := by decide +kernel
theorem dL_build_76 : decode cL_build 76 = .ok (.iadd, 1) := by decide +kernel
theorem dL_build_77 : decode cL_build 77 = .ok (.iastore, 1) := by decide +kernel
theorem dL_build_78 : decode cL_build 78 = .ok (.aload 4, 2) := by decide +kernel
theorem dL_build_80 : decode cL_build 80 = .ok (.iconst 3, 1) := by decide +kernel
theorem dL_build_81 : decode cL_build 81 = .ok (.iload 7, 2) := by decide +kernel
theorem dL_build_83 : decode cL_build 83 = .ok (.imul, 1) := by decide +kernel
theorem dL_build_84 : decode cL_build 84 = .ok (.iconst 1, 1) := by decide +kernel
theorem dL_build_85 : decode cL_build 85 = .ok (.iadd, 1) := by decide +kernel
theorem dL_build_86 : decode cL_build 86 = .ok (.iload 8, 2) := by decide +kernel
theorem dL_build_88 : decode cL_build 88 = .ok (.iconst 3, 1) := by decide +kernel
theorem dL_build_89 : decode cL_build 89 = .ok (.ishr, 1) := by decide +kernel
theorem dL_build_90 : decode cL_build 90 = .ok (.iconst 2, 1) := by decide +kernel
theorem dL_build_91 : decode cL_build 91 = .ok (.invokestatic 15, 3) := by decide +kernel
theorem dL_build_94 : decode cL_build 94 = .ok (.ifCond .ne 7, 3) := by decide +kernel
theorem dL_build_97 : decode cL_build 97 = .ok (.iconst 0, 1) := by decide +kernel
theorem dL_build_98 : decode cL_build 98 = .ok (.goto 15, 3) := by decide +kernel
theorem dL_build_101 : decode cL_build 101 = .ok (.iload 8, 2) := by decide +kernel
theorem dL_build_103 : decode cL_build 103 = .ok (.iconst 4, 1) := by decide +kernel
theorem dL_build_104 : decode cL_build 104 = .ok (.ishr, 1) := by decide +kernel
theorem dL_build_105 : decode cL_build 105 = .ok (.bipush 24, 2) := by decide +kernel
theorem dL_build_107 : decode cL_build 107 = .ok (.invokestatic 15, 3) := by decide +kernel
theorem dL_build_110 : decode cL_build 110 = .ok (.bipush 60, 2) := by decide +kernel
theorem dL_build_112 : decode cL_build 112 = .ok (.imul, 1) := by decide +kernel
theorem dL_build_113 : decode cL_build 113 = .ok (.iastore, 1) := by decide +kernel
theorem dL_build_114 : decode cL_build 114 = .ok (.aload 4, 2) := by decide +kernel
theorem dL_build_116 : decode cL_build 116 = .ok (.iconst 3, 1) := by decide +kernel
theorem dL_build_117 : decode cL_build 117 = .ok (.iload 7, 2) := by decide +kernel
theorem dL_build_119 : decode cL_build 119 = .ok (.imul, 1) := by decide +kernel
theorem dL_build_120 : decode cL_build 120 = .ok (.iconst 2, 1) := by decide +kernel
theorem dL_build_121 : decode cL_build 121 = .ok (.iadd, 1) := by decide +kernel
theorem dL_build_122 : decode cL_build 122 = .ok (.iload 8, 2) := by decide +kernel
theorem dL_build_124 : decode cL_build 124 = .ok (.iconst 3, 1) := by decide +kernel
theorem dL_build_125 : decode cL_build 125 = .ok (.ishr, 1) := by decide +kernel
theorem dL_build_126 : decode cL_build 126 = .ok (.iconst 2, 1) := by decide +kernel
theorem dL_build_127 : decode cL_build 127 = .ok (.invokestatic 15, 3) := by decide +kernel
theorem dL_build_130 : decode cL_build 130 = .ok (.ifCond .ne 9, 3) := by decide +kernel
theorem dL_build_133 : decode cL_build 133 = .ok (.sipush 1440, 3) := by decide +kernel
theorem dL_build_136 : decode cL_build 136 = .ok (.goto 32, 3) := by decide +kernel
theorem dL_build_139 : decode cL_build 139 = .ok (.aload 4, 2) := by decide +kernel
theorem dL_build_141 : decode cL_build 141 = .ok (.iconst 3, 1) := by decide +kernel
theorem dL_build_142 : decode cL_build 142 = .ok (.iload 7, 2) := by decide +kernel
theorem dL_build_144 : decode cL_build 144 = .ok (.imul, 1) := by decide +kernel
theorem dL_build_145 : decode cL_build 145 = .ok (.iconst 1, 1) := by decide +kernel
theorem dL_build_146 : decode cL_build 146 = .ok (.iadd, 1) := by decide +kernel
theorem dL_build_147 : decode cL_build 147 = .ok (.iaload, 1) := by decide +kernel
theorem dL_build_148 : decode cL_build 148 = .ok (.bipush 60, 2) := by decide +kernel
theorem dL_build_150 : decode cL_build 150 = .ok (.iconst 1, 1) := by decide +kernel
theorem dL_build_151 : decode cL_build 151 = .ok (.iload 8, 2) := by decide +kernel
theorem dL_build_153 : decode cL_build 153 = .ok (.bipush 6, 2) := by decide +kernel
theorem dL_build_155 : decode cL_build 155 = .ok (.ishr, 1) := by decide +kernel
theorem dL_build_156 : decode cL_build 156 = .ok (.bipush 20, 2) := by decide +kernel
theorem dL_build_158 : decode cL_build 158 = .ok (.invokestatic 15, 3) := by decide +kernel
theorem dL_build_161 : decode cL_build 161 = .ok (.iadd, 1) := by decide +kernel
theorem dL_build_162 : decode cL_build 162 = .ok (.imul, 1) := by decide +kernel
theorem dL_build_163 : decode cL_build 163 = .ok (.iadd, 1) := by decide +kernel
theorem dL_build_164 : decode cL_build 164 = .ok (.sipush 1440, 3) := by decide +kernel
theorem dL_build_167 : decode cL_build 167 = .ok (.irem, 1) := by decide +kernel
theorem dL_build_168 : decode cL_build 168 = .ok (.iastore, 1) := by decide +kernel
theorem dL_build_169 : decode cL_build 169 = .ok (.aload_n 0, 1) := by decide +kernel
theorem dL_build_170 : decode cL_build 170 = .ok (.aload 4, 2) := by decide +kernel
theorem dL_build_172 : decode cL_build 172 = .ok (.iconst 3, 1) := by decide +kernel
theorem dL_build_173 : decode cL_build 173 = .ok (.iload 7, 2) := by decide +kernel
theorem dL_build_175 : decode cL_build 175 = .ok (.imul, 1) := by decide +kernel
theorem dL_build_176 : decode cL_build 176 = .ok (.iaload, 1) := by decide +kernel
theorem dL_build_177 : decode cL_build 177 = .ok (.aload 4, 2) := by decide +kernel
theorem dL_build_179 : decode cL_build 179 = .ok (.iconst 3, 1) := by decide +kernel
theorem dL_build_180 : decode cL_build 180 = .ok (.iload 7, 2) := by decide +kernel
theorem dL_build_182 : decode cL_build 182 = .ok (.imul, 1) := by decide +kernel
theorem dL_build_183 : decode cL_build 183 = .ok (.iconst 1, 1) := by decide +kernel
theorem dL_build_184 : decode cL_build 184 = .ok (.iadd, 1) := by decide +kernel
theorem dL_build_185 : decode cL_build 185 = .ok (.iaload, 1) := by decide +kernel
theorem dL_build_186 : decode cL_build 186 = .ok (.aload 4, 2) := by decide +kernel
theorem dL_build_188 : decode cL_build 188 = .ok (.iconst 3, 1) := by decide +kernel
theorem dL_build_189 : decode cL_build 189 = .ok (.iload 7, 2) := by decide +kernel
theorem dL_build_191 : decode cL_build 191 = .ok (.imul, 1) := by decide +kernel
theorem dL_build_192 : decode cL_build 192 = .ok (.iconst 2, 1) := by decide +kernel
theorem dL_build_193 : decode cL_build 193 = .ok (.iadd, 1) := by decide +kernel
theorem dL_build_194 : decode cL_build 194 = .ok (.iaload, 1) := by decide +kernel
theorem dL_build_195 : decode cL_build 195 = .ok (.invokevirtual 19, 3) := by decide +kernel
theorem dL_build_198 : decode cL_build 198 = .ok (.iload 7, 2) := by decide +kernel
theorem dL_build_200 : decode cL_build 200 = .ok (.if_icmp .eq 5, 3) := by decide +kernel
theorem dL_build_203 : decode cL_build 203 = .ok (.iconst 0, 1) := by decide +kernel
theorem dL_build_204 : decode cL_build 204 = .ok (.ireturn, 1) := by decide +kernel
theorem dL_build_205 : decode cL_build 205 = .ok (.iinc 7 1, 3) := by decide +kernel
theorem dL_build_208 : decode cL_build 208 = .ok (.goto (-190), 3) := by decide +kernel
theorem dL_build_211 : decode cL_build 211 = .ok (.aload_n 3, 1) := by decide +kernel
theorem dL_build_212 : decode cL_build 212 = .ok (.iconst 1, 1) := by decide +kernel
theorem dL_build_213 : decode cL_build 213 = .ok (.aload_n 3, 1) := by decide +kernel
theorem dL_build_214 : decode cL_build 214 = .ok (.iconst 0, 1) := by decide +kernel
theorem dL_build_215 : decode cL_build 215 = .ok (.iaload, 1) := by decide +kernel
theorem dL_build_216 : decode cL_build 216 = .ok (.iconst 2, 1) := by decide +kernel
theorem dL_build_217 : decode cL_build 217 = .ok (.if_icmp .ge 7, 3) := by decide +kernel
theorem dL_build_220 : decode cL_build 220 = .ok (.iconst 0, 1) := by decide +kernel
theorem dL_build_221 : decode cL_build 221 = .ok (.goto 17, 3) := by decide +kernel
theorem dL_build_224 : decode cL_build 224 = .ok (.iconst 1, 1) := by decide +kernel
theorem dL_build_225 : decode cL_build 225 = .ok (.aload_n 1, 1) := by decide +kernel
theorem dL_build_226 : decode cL_build 226 = .ok (.iload_n 2, 1) := by decide +kernel
theorem dL_build_227 : decode cL_build 227 = .ok (.invokestatic 9, 3) := by decide +kernel
theorem dL_build_230 : decode cL_build 230 = .ok (.iconst 4, 1) := by decide +kernel
theorem dL_build_231 : decode cL_build 231 = .ok (.ishr, 1) := by decide +kernel
theorem dL_build_232 : decode cL_build 232 = .ok (.bipush 8, 2) := by decide +kernel
theorem dL_build_234 : decode cL_build 234 = .ok (.invokestatic 15, 3) := by decide +kernel
theorem dL_build_237 : decode cL_build 237 = .ok (.iadd, 1) := by decide +kernel
theorem dL_build_238 : decode cL_build 238 = .ok (.iastore, 1) := by decide +kernel
theorem dL_build_239 : decode cL_build 239 = .ok (.iconst 0, 1) := by decide +kernel
theorem dL_build_240 : decode cL_build 240 = .ok (.istore 7, 2) := by decide +kernel
theorem dL_build_242 : decode cL_build 242 = .ok (.iload 7, 2) := by decide +kernel
theorem dL_build_244 : decode cL_build 244 = .ok (.aload_n 3, 1) := by decide +kernel
theorem dL_build_245 : decode cL_build 245 = .ok (.iconst 1, 1) := by decide +kernel
theorem dL_build_246 : decode cL_build 246 = .ok (.iaload, 1) := by decide +kernel
theorem dL_build_247 : decode cL_build 247 = .ok (.if_icmp .ge 211, 3) := by decide +kernel
theorem dL_build_250 : decode cL_build 250 = .ok (.aload_n 1, 1) := by decide +kernel
theorem dL_build_251 : decode cL_build 251 = .ok (.iload_n 2, 1) := by decide +kernel
theorem dL_build_252 : decode cL_build 252 = .ok (.iconst 4, 1) := by decide +kernel
theorem dL_build_253 : decode cL_build 253 = .ok (.iadd, 1) := by decide +kernel
theorem dL_build_254 : decode cL_build 254 = .ok (.iload 7, 2) := by decide +kernel
theorem dL_build_256 : decode cL_build 256 = .ok (.iconst 4, 1) := by decide +kernel
theorem dL_build_257 : decode cL_build 257 = .ok (.irem, 1) := by decide +kernel
theorem dL_build_258 : decode cL_build 258 = .ok (.iadd, 1) := by decide +kernel
theorem dL_build_259 : decode cL_build 259 = .ok (.invokestatic 9, 3) := by decide +kernel
theorem dL_build_262 : decode cL_build 262 = .ok (.iload 7, 2) := by decide +kernel
theorem dL_build_264 : decode cL_build 264 = .ok (.iconst 4, 1) := by decide +kernel
theorem dL_build_265 : decode cL_build 265 = .ok (.idiv, 1) := by decide +kernel
theorem dL_build_266 : decode cL_build 266 = .ok (.bipush 9, 2) := by decide +kernel
theorem dL_build_268 : decode cL_build 268 = .ok (.imul, 1) := by decide +kernel
theorem dL_build_269 : decode cL_build 269 = .ok (.ishr, 1) := by decide +kernel
theorem dL_build_270 : decode cL_build 270 = .ok (.istore 8, 2) := by decide +kernel
theorem dL_build_272 : decode cL_build 272 = .ok (.aload 5, 2) := by decide +kernel
theorem dL_build_274 : decode cL_build 274 = .ok (.iconst 4, 1) := by decide +kernel
theorem dL_build_275 : decode cL_build 275 = .ok (.iload 7, 2) := by decide +kernel
theorem dL_build_277 : decode cL_build 277 = .ok (.imul, 1) := by decide +kernel
theorem dL_build_278 : decode cL_build 278 = .ok (.iload 7, 2) := by decide +kernel
theorem dL_build_280 : decode cL_build 280 = .ok (.iconst 1, 1) := by decide +kernel
theorem dL_build_281 : decode cL_build 281 = .ok (.iadd, 1) := by decide +kernel
theorem dL_build_282 : decode cL_build 282 = .ok (.aload_n 3, 1) := by decide +kernel
theorem dL_build_283 : decode cL_build 283 = .ok (.iconst 0, 1) := by decide +kernel
theorem dL_build_284 : decode cL_build 284 = .ok (.iaload, 1) := by decide +kernel
theorem dL_build_285 : decode cL_build 285 = .ok (.if_icmp .ge 8, 3) := by decide +kernel
theorem dL_build_288 : decode cL_build 288 = .ok (.iload 7, 2) := by decide +kernel
theorem dL_build_290 : decode cL_build 290 = .ok (.goto 11, 3) := by decide +kernel
theorem dL_build_293 : decode cL_build 293 = .ok (.iload 8, 2) := by decide +kernel
theorem dL_build_295 : decode cL_build 295 = .ok (.aload_n 3, 1) := by decide +kernel
theorem dL_build_296 : decode cL_build 296 = .ok (.iconst 0, 1) := by decide +kernel
theorem dL_build_297 : decode cL_build 297 = .ok (.iaload, 1) := by decide +kernel
theorem dL_build_298 : decode cL_build 298 = .ok (.invokestatic 15, 3) := by decide +kernel
theorem dL_build_301 : decode cL_build 301 = .ok (.iastore, 1) := by decide +kernel
theorem dL_build_302 : decode cL_build 302 = .ok (.aload 5, 2) := by decide +kernel
theorem dL_build_304 : decode cL_build 304 = .ok (.iconst 4, 1) := by decide +kernel
theorem dL_build_305 : decode cL_build 305 = .ok (.iload 7, 2) := by decide +kernel
theorem dL_build_307 : decode cL_build 307 = .ok (.imul, 1) := by decide +kernel
theorem dL_build_308 : decode cL_build 308 = .ok (.iconst 1, 1) := by decide +kernel
theorem dL_build_309 : decode cL_build 309 = .ok (.iadd, 1) := by decide +kernel
theorem dL_build_310 : decode cL_build 310 = .ok (.iload 7, 2) := by decide +kernel
theorem dL_build_312 : decode cL_build 312 = .ok (.iconst 1, 1) := by decide +kernel
theorem dL_build_313 : decode cL_build 313 = .ok (.iadd, 1) := by decide +kernel
theorem dL_build_314 : decode cL_build 314 = .ok (.aload_n 3, 1) := by decide +kernel
theorem dL_build_315 : decode cL_build 315 = .ok (.iconst 0, 1) := by decide +kernel
