theorem dJ6_bitCount_0f7a4_0 : decode cJ6_bitCount_0f7a4 0 = .ok (.iload_n 0, 1) := by decide +kernel
theorem dJ6_bitCount_0f7a4_1 : decode cJ6_bitCount_0f7a4 1 = .ok (.iload_n 0, 1) := by decide +kernel
theorem dJ6_bitCount_0f7a4_2 : decode cJ6_bitCount_0f7a4 2 = .ok (.iconst 1, 1) := by decide +kernel
theorem dJ6_bitCount_0f7a4_3 : decode cJ6_bitCount_0f7a4 3 = .ok (.iushr, 1) := by decide +kernel
theorem dJ6_bitCount_0f7a4_4 : decode cJ6_bitCount_0f7a4 4 = .ok (.ldc_w 265, 3) := by decide +kernel
theorem dJ6_bitCount_0f7a4_7 : decode cJ6_bitCount_0f7a4 7 = .ok (.iand, 1) := by decide +kernel
theorem dJ6_bitCount_0f7a4_8 : decode cJ6_bitCount_0f7a4 8 = .ok (.isub, 1) := by decide +kernel
theorem dJ6_bitCount_0f7a4_9 : decode cJ6_bitCount_0f7a4 9 = .ok (.istore_n 0, 1) := by decide +kernel
theorem dJ6_bitCount_0f7a4_10 : decode cJ6_bitCount_0f7a4 10 = .ok (.iload_n 0, 1) := by decide +kernel
theorem dJ6_bitCount_0f7a4_11 : decode cJ6_bitCount_0f7a4 11 = .ok (.ldc_w 266, 3) := by decide +kernel
theorem dJ6_bitCount_0f7a4_14 : decode cJ6_bitCount_0f7a4 14 = .ok (.iand, 1) := by decide +kernel
theorem dJ6_bitCount_0f7a4_15 : decode cJ6_bitCount_0f7a4 15 = .ok (.iload_n 0, 1) := by decide +kernel
theorem dJ6_bitCount_0f7a4_16 : decode cJ6_bitCount_0f7a4 16 = .ok (.iconst 2, 1) := by decide +kernel
theorem dJ6_bitCount_0f7a4_17 : decode cJ6_bitCount_0f7a4 17 = .ok (.iushr, 1) := by decide +kernel
theorem dJ6_bitCount_0f7a4_18 : decode cJ6_bitCount_0f7a4 18 = .ok (.ldc_w 266, 3) := by decide +kernel
theorem dJ6_bitCount_0f7a4_21 : decode cJ6_bitCount_0f7a4 21 = .ok (.iand, 1) := by decide +kernel
theorem dJ6_bitCount_0f7a4_22 : decode cJ6_bitCount_0f7a4 22 = .ok (.iadd, 1) := by decide +kernel
theorem dJ6_bitCount_0f7a4_23 : decode cJ6_bitCount_0f7a4 23 = .ok (.istore_n 0, 1) := by decide +kernel
theorem dJ6_bitCount_0f7a4_24 : decode cJ6_bitCount_0f7a4 24 = .ok (.iload_n 0, 1) := by decide +kernel
theorem dJ6_bitCount_0f7a4_25 : decode cJ6_bitCount_0f7a4 25 = .ok (.iload_n 0, 1) := by decide +kernel
theorem dJ6_bitCount_0f7a4_26 : decode cJ6_bitCount_0f7a4 26 = .ok (.iconst 4, 1) := by decide +kernel
theorem dJ6_bitCount_0f7a4_27 : decode cJ6_bitCount_0f7a4 27 = .ok (.iushr, 1) := by decide +kernel
theorem dJ6_bitCount_0f7a4_28 : decode cJ6_bitCount_0f7a4 28 = .ok (.iadd, 1) := by decide +kernel
theorem dJ6_bitCount_0f7a4_29 : decode cJ6_bitCount_0f7a4 29 = .ok (.ldc_w 267, 3) := by decide +kernel
theorem dJ6_bitCount_0f7a4_32 : decode cJ6_bitCount_0f7a4 32 = .ok (.iand, 1) := by decide +kernel
theorem dJ6_bitCount_0f7a4_33 : decode cJ6_bitCount_0f7a4 33 = .ok (.istore_n 0, 1) := by decide +kernel
theorem dJ6_bitCount_0f7a4_34 : decode cJ6_bitCount_0f7a4 34 = .ok (.iload_n 0, 1) := by decide +kernel
theorem dJ6_bitCount_0f7a4_35 : decode cJ6_bitCount_0f7a4 35 = .ok (.iload_n 0, 1) := by decide +kernel
theorem dJ6_bitCount_0f7a4_36 : decode cJ6_bitCount_0f7a4 36 = .ok (.bipush 8, 2) := by decide +kernel
theorem dJ6_bitCount_0f7a4_38 : decode cJ6_bitCount_0f7a4 38 = .ok (.iushr, 1) := by decide +kernel
theorem dJ6_bitCount_0f7a4_39 : decode cJ6_bitCount_0f7a4 39 = .ok (.iadd, 1) := by decide +kernel
theorem dJ6_bitCount_0f7a4_40 : decode cJ6_bitCount_0f7a4 40 = .ok (.istore_n 0, 1) := by decide +kernel
theorem dJ6_bitCount_0f7a4_41 : decode cJ6_bitCount_0f7a4 41 = .ok (.iload_n 0, 1) := by decide +kernel
theorem dJ6_bitCount_0f7a4_42 : decode cJ6_bitCount_0f7a4 42 = .ok (.iload_n 0, 1) := by decide +kernel
theorem dJ6_bitCount_0f7a4_43 : decode cJ6_bitCount_0f7a4 43 = .ok (.bipush 16, 2) := by decide +kernel
theorem dJ6_bitCount_0f7a4_45 : decode cJ6_bitCount_0f7a4 45 = .ok (.iushr, 1) := by decide +kernel
theorem dJ6_bitCount_0f7a4_46 : decode cJ6_bitCount_0f7a4 46 = .ok (.iadd, 1) := by decide +kernel
theorem dJ6_bitCount_0f7a4_47 : decode cJ6_bitCount_0f7a4 47 = .ok (.istore_n 0, 1) := by decide +kernel
theorem dJ6_bitCount_0f7a4_48 : decode cJ6_bitCount_0f7a4 48 = .ok (.iload_n 0, 1) := by decide +kernel
theorem dJ6_bitCount_0f7a4_49 : decode cJ6_bitCount_0f7a4 49 = .ok (.bipush 63, 2) := by decide +kernel
theorem dJ6_bitCount_0f7a4_51 : decode cJ6_bitCount_0f7a4 51 = .ok (.iand, 1) := by decide +kernel
theorem dJ6_bitCount_0f7a4_52 : decode cJ6_bitCount_0f7a4 52 = .ok (.ireturn, 1) := by decide +kernel
theorem dJ9_floorMod_7cf53_0 : decode cJ9_floorMod_7cf53 0 = .ok (.iload_n 0, 1) := by decide +kernel
theorem dJ9_floorMod_7cf53_1 : decode cJ9_floorMod_7cf53 1 = .ok (.iload_n 1, 1) := by decide +kernel
theorem dJ9_floorMod_7cf53_2 : decode cJ9_floorMod_7cf53 2 = .ok (.irem, 1) := by decide +kernel
theorem dJ9_floorMod_7cf53_3 : decode cJ9_floorMod_7cf53 3 = .ok (.istore_n 2, 1) := by decide +kernel
theorem dJ9_floorMod_7cf53_4 : decode cJ9_floorMod_7cf53 4 = .ok (.iload_n 0, 1) := by decide +kernel
theorem dJ9_floorMod_7cf53_5 : decode cJ9_floorMod_7cf53 5 = .ok (.iload_n 1, 1) := by decide +kernel
theorem dJ9_floorMod_7cf53_6 : decode cJ9_floorMod_7cf53 6 = .ok (.ixor, 1) := by decide +kernel
theorem dJ9_floorMod_7cf53_7 : decode cJ9_floorMod_7cf53 7 = .ok (.ifCond .ge 11, 3) := by decide +kernel
theorem dJ9_floorMod_7cf53_10 : decode cJ9_floorMod_7cf53 10 = .ok (.iload_n 2, 1) := by decide +kernel
theorem dJ9_floorMod_7cf53_11 : decode cJ9_floorMod_7cf53 11 = .ok (.ifCond .eq 7, 3) := by decide +kernel
theorem dJ9_floorMod_7cf53_14 : decode cJ9_floorMod_7cf53 14 = .ok (.iload_n 2, 1) := by decide +kernel
theorem dJ9_floorMod_7cf53_15 : decode cJ9_floorMod_7cf53 15 = .ok (.iload_n 1, 1) := by decide +kernel
theorem dJ9_floorMod_7cf53_16 : decode cJ9_floorMod_7cf53 16 = .ok (.iadd, 1) := by decide +kernel
theorem dJ9_floorMod_7cf53_17 : decode cJ9_floorMod_7cf53 17 = .ok (.ireturn, 1) := by decide +kernel
theorem dJ9_floorMod_7cf53_18 : decode cJ9_floorMod_7cf53 18 = .ok (.iload_n 2, 1) := by decide +kernel
theorem dJ9_floorMod_7cf53_19 : decode cJ9_floorMod_7cf53 19 = .ok (.ireturn, 1) := by decide +kernel
theorem dJ9_max_7cf53_0 : decode cJ9_max_7cf53 0 = .ok (.iload_n 0, 1) := by decide +kernel
theorem dJ9_max_7cf53_1 : decode cJ9_max_7cf53 1 = .ok (.iload_n 1, 1) := by decide +kernel
theorem dJ9_max_7cf53_2 : decode cJ9_max_7cf53 2 = .ok (.if_icmp .lt 7, 3) := by decide +kernel
theorem dJ9_max_7cf53_5 : decode cJ9_max_7cf53 5 = .ok (.iload_n 0, 1) := by decide +kernel
theorem dJ9_max_7cf53_6 : decode cJ9_max_7cf53 6 = .ok (.goto 4, 3) := by decide +kernel
theorem dJ9_max_7cf53_9 : decode cJ9_max_7cf53 9 = .ok (.iload_n 1, 1) := by decide +kernel
theorem dJ9_max_7cf53_10 : decode cJ9_max_7cf53 10 = .ok (.ireturn, 1) := by decide +kernel
theorem dJ9_min_7cf53_0 : decode cJ9_min_7cf53 0 = .ok (.iload_n 0, 1) := by decide +kernel
theorem dJ9_min_7cf53_1 : decode cJ9_min_7cf53 1 = .ok (.iload_n 1, 1) := by decide +kernel
theorem dJ9_min_7cf53_2 : decode cJ9_min_7cf53 2 = .ok (.if_icmp .gt 7, 3) := by decide +kernel
theorem dJ9_min_7cf53_5 : decode cJ9_min_7cf53 5 = .ok (.iload_n 0, 1) := by decide +kernel
theorem dJ9_min_7cf53_6 : decode cJ9_min_7cf53 6 = .ok (.goto 4, 3) := by decide +kernel
theorem dJ9_min_7cf53_9 : decode cJ9_min_7cf53 9 = .ok (.iload_n 1, 1) := by decide +kernel
theorem dJ9_min_7cf53_10 : decode cJ9_min_7cf53 10 = .ok (.ireturn, 1) := by decide +kernel
theorem dJxa1e45_init_da8c8_0 : decode cJxa1e45_init_da8c8 0 = .ok (.aload_n 0, 1) := by decide +kernel
theorem dJxa1e45_init_da8c8_1 : decode cJxa1e45_init_da8c8 1 = .ok (.invokespecial 1, 3) := by decide +kernel
theorem dJxa1e45_init_da8c8_4 : decode cJxa1e45_init_da8c8 4 = .ok (.return_, 1) := by decide +kernel
theorem dJxc12de_init_da8c8_0 : decode cJxc12de_init_da8c8 0 = .ok (.aload_n 0, 1) := by decide +kernel
theorem dJxc12de_init_da8c8_1 : decode cJxc12de_init_da8c8 1 = .ok (.invokespecial 1, 3) := by decide +kernel
theorem dJxc12de_init_da8c8_4 : decode cJxc12de_init_da8c8 4 = .ok (.aload_n 0, 1) := by decide +kernel
theorem dJxc12de_init_da8c8_5 : decode cJxc12de_init_da8c8 5 = .ok (.iconst 0, 1) := by decide +kernel
theorem dJxc12de_init_da8c8_6 : decode cJxc12de_init_da8c8 6 = .ok (.putfield 7, 3) := by decide +kernel
theorem dJxc12de_init_da8c8_9 : decode cJxc12de_init_da8c8 9 = .ok (.return_, 1) := by decide +kernel
theorem dJx4a65c_init_da8c8_0 : decode cJx4a65c_init_da8c8 0 = .ok (.aload_n 0, 1) := by decide +kernel
theorem dJx4a65c_init_da8c8_1 : decode cJx4a65c_init_da8c8 1 = .ok (.invokespecial 1, 3) := by decide +kernel
theorem dJx4a65c_init_da8c8_4 : decode cJx4a65c_init_da8c8 4 = .ok (.aload_n 0, 1) := by decide +kernel
theorem dJx4a65c_init_da8c8_5 : decode cJx4a65c_init_da8c8 5 = .ok (.getstatic 39, 3) := by decide +kernel
theorem dJx4a65c_init_da8c8_8 : decode cJx4a65c_init_da8c8 8 = .ok (.putfield 9, 3) := by decide +kernel
theorem dJx4a65c_init_da8c8_11 : decode cJx4a65c_init_da8c8 11 = .ok (.return_, 1) := by decide +kernel
theorem dJx4a65c_grow_92f84_0 : decode cJx4a65c_grow_92f84 0 = .ok (.aload_n 0, 1) := by decide +kernel
theorem dJx4a65c_grow_92f84_1 : decode cJx4a65c_grow_92f84 1 = .ok (.getfield 9, 3) := by decide +kernel
theorem dJx4a65c_grow_92f84_4 : decode cJx4a65c_grow_92f84 4 = .ok (.arraylength, 1) := by decide +kernel
theorem dJx4a65c_grow_92f84_5 : decode cJx4a65c_grow_92f84 5 = .ok (.istore_n 2, 1) := by decide +kernel
theorem dJx4a65c_grow_92f84_6 : decode cJx4a65c_grow_92f84 6 = .ok (.iload_n 2, 1) := by decide +kernel
theorem dJx4a65c_grow_92f84_7 : decode cJx4a65c_grow_92f84 7 = .ok (.ifCond .gt 13, 3) := by decide +kernel
theorem dJx4a65c_grow_92f84_10 : decode cJx4a65c_grow_92f84 10 = .ok (.aload_n 0, 1) := by decide +kernel
theorem dJx4a65c_grow_92f84_11 : decode cJx4a65c_grow_92f84 11 = .ok (.getfield 9, 3) := by decide +kernel
theorem dJx4a65c_grow_92f84_14 : decode cJx4a65c_grow_92f84 14 = .ok (.getstatic 39, 3) := by decide +kernel
theorem dJx4a65c_grow_92f84_17 : decode cJx4a65c_grow_92f84 17 = .ok (.if_acmp .eq 28, 3) := by decide +kernel
theorem dJx4a65c_grow_92f84_20 : decode cJx4a65c_grow_92f84 20 = .ok (.iload_n 2, 1) := by decide +kernel
theorem dJx4a65c_grow_92f84_21 : decode cJx4a65c_grow_92f84 21 = .ok (.iload_n 1, 1) := by decide +kernel
theorem dJx4a65c_grow_92f84_22 : decode cJx4a65c_grow_92f84 22 = .ok (.iload_n 2, 1) := by decide +kernel
theorem dJx4a65c_grow_92f84_23 : decode cJx4a65c_grow_92f84 23 = .ok (.isub, 1) := by decide +kernel
theorem dJx4a65c_grow_92f84_24 : decode cJx4a65c_grow_92f84 24 = .ok (.iload_n 2, 1) := by decide +kernel
theorem dJx4a65c_grow_92f84_25 : decode cJx4a65c_grow_92f84 25 = .ok (.iconst 1, 1) := by decide +kernel
theorem dJx4a65c_grow_92f84_26 : decode cJx4a65c_grow_92f84 26 = .ok (.ishr, 1) := by decide +kernel
theorem dJx4a65c_grow_92f84_27 : decode cJx4a65c_grow_92f84 27 = .ok (.invokestatic 73, 3) := by decide +kernel
theorem dJx4a65c_grow_92f84_30 : decode cJx4a65c_grow_92f84 30 = .ok (.istore_n 3, 1) := by decide +kernel
theorem dJx4a65c_grow_92f84_31 : decode cJx4a65c_grow_92f84 31 = .ok (.aload_n 0, 1) := by decide +kernel
theorem dJx4a65c_grow_92f84_32 : decode cJx4a65c_grow_92f84 32 = .ok (.aload_n 0, 1) := by decide +kernel
theorem dJx4a65c_grow_92f84_33 : decode cJx4a65c_grow_92f84 33 = .ok (.getfield 9, 3) := by decide +kernel
theorem dJx4a65c_grow_92f84_36 : decode cJx4a65c_grow_92f84 36 = .ok (.iload_n 3, 1) := by decide +kernel
theorem dJx4a65c_grow_92f84_37 : decode cJx4a65c_grow_92f84 37 = .ok (.invokestatic 66, 3) := by decide +kernel
theorem dJx4a65c_grow_92f84_40 : decode cJx4a65c_grow_92f84 40 = .ok (.dup_x1, 1) := by decide +kernel
theorem dJx4a65c_grow_92f84_41 : decode cJx4a65c_grow_92f84 41 = .ok (.putfield 9, 3) := by decide +kernel
theorem dJx4a65c_grow_92f84_44 : decode cJx4a65c_grow_92f84 44 = .ok (.areturn, 1) := by decide +kernel
theorem dJx4a65c_grow_92f84_45 : decode cJx4a65c_grow_92f84 45 = .ok (.aload_n 0, 1) := by decide +kernel
theorem dJx4a65c_grow_92f84_46 : decode cJx4a65c_grow_92f84 46 = .ok (.bipush 10, 2) := by decide +kernel
theorem dJx4a65c_grow_92f84_48 : decode cJx4a65c_grow_92f84 48 = .ok (.iload_n 1, 1) := by decide +kernel
theorem dJx4a65c_grow_92f84_49 : decode cJx4a65c_grow_92f84 49 = .ok (.invokestatic 79, 3) := by decide +kernel
theorem dJx4a65c_grow_92f84_52 : decode cJx4a65c_grow_92f84 52 = .ok (.anewarray 7, 3) := by decide +kernel
theorem dJx4a65c_grow_92f84_55 : decode cJx4a65c_grow_92f84 55 = .ok (.dup_x1, 1) := by decide +kernel
theorem dJx4a65c_grow_92f84_56 : decode cJx4a65c_grow_92f84 56 = .ok (.putfield 9, 3) := by decide +kernel
theorem dJx4a65c_grow_92f84_59 : decode cJx4a65c_grow_92f84 59 = .ok (.areturn, 1) := by decide +kernel
theorem dJx4a65c_grow_d5877_0 : decode cJx4a65c_grow_d5877 0 = .ok (.aload_n 0, 1) := by decide +kernel
theorem dJx4a65c_grow_d5877_1 : decode cJx4a65c_grow_d5877 1 = .ok (.aload_n 0, 1) := by decide +kernel
theorem dJx4a65c_grow_d5877_2 : decode cJx4a65c_grow_d5877 2 = .ok (.getfield 48, 3) := by decide +kernel
theorem dJx4a65c_grow_d5877_5 : decode cJx4a65c_grow_d5877 5 = .ok (.iconst 1, 1) := by decide +kernel
theorem dJx4a65c_grow_d5877_6 : decode cJx4a65c_grow_d5877 6 = .ok (.iadd, 1) := by decide +kernel
theorem dJx4a65c_grow_d5877_7 : decode cJx4a65c_grow_d5877 7 = .ok (.invokevirtual 69, 3) := by decide +kernel
theorem dJx4a65c_grow_d5877_10 : decode cJx4a65c_grow_d5877 10 = .ok (.areturn, 1) := by decide +kernel
theorem dJx4a65c_size_8abf5_0 : decode cJx4a65c_size_8abf5 0 = .ok (.aload_n 0, 1) := by decide +kernel
theorem dJx4a65c_size_8abf5_1 : decode cJx4a65c_size_8abf5 1 = .ok (.getfield 48, 3) := by decide +kernel
theorem dJx4a65c_size_8abf5_4 : decode cJx4a65c_size_8abf5 4 = .ok (.ireturn, 1) := by decide +kernel
theorem dJx4a65c_isEmpty_aae02_0 : decode cJx4a65c_isEmpty_aae02 0 = .ok (.aload_n 0, 1) := by decide +kernel
theorem dJx4a65c_isEmpty_aae02_1 : decode cJx4a65c_isEmpty_aae02 1 = .ok (.getfield 48, 3) := by decide +kernel
theorem dJx4a65c_isEmpty_aae02_4 : decode cJx4a65c_isEmpty_aae02 4 = .ok (.ifCond .ne 7, 3) := by decide +kernel
theorem dJx4a65c_isEmpty_aae02_7 : decode cJx4a65c_isEmpty_aae02 7 = .ok (.iconst 1, 1) := by decide +kernel
theorem dJx4a65c_isEmpty_aae02_8 : decode cJx4a65c_isEmpty_aae02 8 = .ok (.goto 4, 3) := by decide +kernel
theorem dJx4a65c_isEmpty_aae02_11 : decode cJx4a65c_isEmpty_aae02 11 = .ok (.iconst 0, 1) := by decide +kernel
theorem dJx4a65c_isEmpty_aae02_12 : decode cJx4a65c_isEmpty_aae02 12 = .ok (.ireturn, 1) := by decide +kernel
theorem dJx4a65c_elementData_915e3_0 : decode cJx4a65c_elementData_915e3 0 = .ok (.aload_n 0, 1) := by decide +kernel
theorem dJx4a65c_elementData_915e3_1 : decode cJx4a65c_elementData_915e3 1 = .ok (.getfield 9, 3) := by decide +kernel
theorem dJx4a65c_elementData_915e3_4 : decode cJx4a65c_elementData_915e3 4 = .ok (.iload_n 1, 1) := by decide +kernel
theorem dJx4a65c_elementData_915e3_5 : decode cJx4a65c_elementData_915e3 5 = .ok (.aaload, 1) := by decide +kernel
theorem dJx4a65c_elementData_915e3_6 : decode cJx4a65c_elementData_915e3 6 = .ok (.areturn, 1) := by decide +kernel
theorem dJx4a65c_get_915e3_0 : decode cJx4a65c_get_915e3 0 = .ok (.iload_n 1, 1) := by decide +kernel
theorem dJx4a65c_get_915e3_1 : decode cJx4a65c_get_915e3 1 = .ok (.aload_n 0, 1) := by decide +kernel
theorem dJx4a65c_get_915e3_2 : decode cJx4a65c_get_915e3 2 = .ok (.getfield 48, 3) := by decide +kernel
theorem dJx4a65c_get_915e3_5 : decode cJx4a65c_get_915e3 5 = .ok (.invokestatic 118, 3) := by decide +kernel
theorem dJx4a65c_get_915e3_8 : decode cJx4a65c_get_915e3 8 = .ok (.pop, 1) := by decide +kernel
theorem dJx4a65c_get_915e3_9 : decode cJx4a65c_get_915e3 9 = .ok (.aload_n 0, 1) := by decide +kernel
theorem dJx4a65c_get_915e3_10 : decode cJx4a65c_get_915e3 10 = .ok (.iload_n 1, 1) := by decide +kernel
theorem dJx4a65c_get_915e3_11 : decode cJx4a65c_get_915e3 11 = .ok (.invokevirtual 123, 3) := by decide +kernel
theorem dJx4a65c_get_915e3_14 : decode cJx4a65c_get_915e3 14 = .ok (.areturn, 1) := by decide +kernel
theorem dJx4a65c_add_72be8_0 : decode cJx4a65c_add_72be8 0 = .ok (.iload_n 3, 1) := by decide +kernel
theorem dJx4a65c_add_72be8_1 : decode cJx4a65c_add_72be8 1 = .ok (.aload_n 2, 1) := by decide +kernel
theorem dJx4a65c_add_72be8_2 : decode cJx4a65c_add_72be8 2 = .ok (.arraylength, 1) := by decide +kernel
theorem dJx4a65c_add_72be8_3 : decode cJx4a65c_add_72be8 3 = .ok (.if_icmp .ne 8, 3) := by decide +kernel
theorem dJx4a65c_add_72be8_6 : decode cJx4a65c_add_72be8 6 = .ok (.aload_n 0, 1) := by decide +kernel
theorem dJx4a65c_add_72be8_7 : decode cJx4a65c_add_72be8 7 = .ok (.invokevirtual 129, 3) := by decide +kernel
theorem dJx4a65c_add_72be8_10 : decode cJx4a65c_add_72be8 10 = .ok (.astore_n 2, 1) := by decide +kernel
theorem dJx4a65c_add_72be8_11 : decode cJx4a65c_add_72be8 11 = .ok (.aload_n 2, 1) := by decide +kernel
theorem dJx4a65c_add_72be8_12 : decode cJx4a65c_add_72be8 12 = .ok (.iload_n 3, 1) := by decide +kernel
theorem dJx4a65c_add_72be8_13 : decode cJx4a65c_add_72be8 13 = .ok (.aload_n 1, 1) := by decide +kernel
theorem dJx4a65c_add_72be8_14 : decode cJx4a65c_add_72be8 14 = .ok (.aastore, 1) := by decide +kernel
theorem dJx4a65c_add_72be8_15 : decode cJx4a65c_add_72be8 15 = .ok (.aload_n 0, 1) := by decide +kernel
theorem dJx4a65c_add_72be8_16 : decode cJx4a65c_add_72be8 16 = .ok (.iload_n 3, 1) := by decide +kernel
theorem dJx4a65c_add_72be8_17 : decode cJx4a65c_add_72be8 17 = .ok (.iconst 1, 1) := by decide +kernel
theorem dJx4a65c_add_72be8_18 : decode cJx4a65c_add_72be8 18 = .ok (.iadd, 1) := by decide +kernel
theorem dJx4a65c_add_72be8_19 : decode cJx4a65c_add_72be8 19 = .ok (.putfield 48, 3) := by decide +kernel
theorem dJx4a65c_add_72be8_22 : decode cJx4a65c_add_72be8 22 = .ok (.return_, 1) := by decide +kernel
theorem dJx4a65c_add_9ea2d_0 : decode cJx4a65c_add_9ea2d 0 = .ok (.aload_n 0, 1) := by decide +kernel
theorem dJx4a65c_add_9ea2d_1 : decode cJx4a65c_add_9ea2d 1 = .ok (.dup, 1) := by decide +kernel
theorem dJx4a65c_add_9ea2d_2 : decode cJx4a65c_add_9ea2d 2 = .ok (.getfield 63, 3) := by decide +kernel
theorem dJx4a65c_add_9ea2d_5 : decode cJx4a65c_add_9ea2d 5 = .ok (.iconst 1, 1) := by decide +kernel
theorem dJx4a65c_add_9ea2d_6 : decode cJx4a65c_add_9ea2d 6 = .ok (.iadd, 1) := by decide +kernel
theorem dJx4a65c_add_9ea2d_7 : decode cJx4a65c_add_9ea2d 7 = .ok (.putfield 63, 3) := by decide +kernel
theorem dJx4a65c_add_9ea2d_10 : decode cJx4a65c_add_9ea2d 10 = .ok (.aload_n 0, 1) := by decide +kernel
theorem dJx4a65c_add_9ea2d_11 : decode cJx4a65c_add_9ea2d 11 = .ok (.aload_n 1, 1) := by decide +kernel
theorem dJx4a65c_add_9ea2d_12 : decode cJx4a65c_add_9ea2d 12 = .ok (.aload_n 0, 1) := by decide +kernel
theorem dJx4a65c_add_9ea2d_13 : decode cJx4a65c_add_9ea2d 13 = .ok (.getfield 9, 3) := by decide +kernel
theorem dJx4a65c_add_9ea2d_16 : decode cJx4a65c_add_9ea2d 16 = .ok (.aload_n 0, 1) := by decide +kernel
theorem dJx4a65c_add_9ea2d_17 : decode cJx4a65c_add_9ea2d 17 = .ok (.getfield 48, 3) := by decide +kernel
theorem dJx4a65c_add_9ea2d_20 : decode cJx4a65c_add_9ea2d 20 = .ok (.invokevirtual 131, 3) := by decide +kernel
theorem dJx4a65c_add_9ea2d_23 : decode cJx4a65c_add_9ea2d 23 = .ok (.iconst 1, 1) := by decide +kernel
theorem dJx4a65c_add_9ea2d_24 : decode cJx4a65c_add_9ea2d 24 = .ok (.ireturn, 1) := by decide +kernel
theorem dJ7_copyOf_1904c_0 : decode cJ7_copyOf_1904c 0 = .ok (.aload_n 0, 1) := by decide +kernel
theorem dJ7_copyOf_1904c_1 : decode cJ7_copyOf_1904c 1 = .ok (.iload_n 1, 1) := by decide +kernel
theorem dJ7_copyOf_1904c_2 : decode cJ7_copyOf_1904c 2 = .ok (.aload_n 0, 1) := by decide +kernel
theorem dJ7_copyOf_1904c_3 : decode cJ7_copyOf_1904c 3 = .ok (.invokevirtual 86, 3) := by decide +kernel
theorem dJ7_copyOf_1904c_6 : decode cJ7_copyOf_1904c 6 = .ok (.invokestatic 300, 3) := by decide +kernel
theorem dJ7_copyOf_1904c_9 : decode cJ7_copyOf_1904c 9 = .ok (.areturn, 1) := by decide +kernel
theorem dJ7_copyOf_6403c_0 : decode cJ7_copyOf_6403c 0 = .ok (.aload_n 2, 1) := by decide +kernel
theorem dJ7_copyOf_6403c_1 : decode cJ7_copyOf_6403c 1 = .ok (.ldc 110, 2) := by decide +kernel
theorem dJ7_copyOf_6403c_3 : decode cJ7_copyOf_6403c 3 = .ok (.if_acmp .ne 10, 3) := by decide +kernel
theorem dJ7_copyOf_6403c_6 : decode cJ7_copyOf_6403c 6 = .ok (.iload_n 1, 1) := by decide +kernel
theorem dJ7_copyOf_6403c_7 : decode cJ7_copyOf_6403c 7 = .ok (.anewarray 2, 3) := by decide +kernel
theorem dJ7_copyOf_6403c_10 : decode cJ7_copyOf_6403c 10 = .ok (.goto 14, 3) := by decide +kernel
theorem dJ7_copyOf_6403c_13 : decode cJ7_copyOf_6403c 13 = .ok (.aload_n 2, 1) := by decide +kernel
theorem dJ7_copyOf_6403c_14 : decode cJ7_copyOf_6403c 14 = .ok (.invokevirtual 90, 3) := by decide +kernel
theorem dJ7_copyOf_6403c_17 : decode cJ7_copyOf_6403c 17 = .ok (.iload_n 1, 1) := by decide +kernel
theorem dJ7_copyOf_6403c_18 : decode cJ7_copyOf_6403c 18 = .ok (.invokestatic 95, 3) := by decide +kernel
theorem dJ7_copyOf_6403c_21 : decode cJ7_copyOf_6403c 21 = .ok (.checkcast 110, 3) := by decide +kernel
theorem dJ7_copyOf_6403c_24 : decode cJ7_copyOf_6403c 24 = .ok (.astore_n 3, 1) := by decide +kernel
theorem dJ7_copyOf_6403c_25 : decode cJ7_copyOf_6403c 25 = .ok (.aload_n 0, 1) := by decide +kernel
theorem dJ7_copyOf_6403c_26 : decode cJ7_copyOf_6403c 26 = .ok (.iconst 0, 1) := by decide +kernel
theorem dJ7_copyOf_6403c_27 : decode cJ7_copyOf_6403c 27 = .ok (.aload_n 3, 1) := by decide +kernel
theorem dJ7_copyOf_6403c_28 : decode cJ7_copyOf_6403c 28 = .ok (.iconst 0, 1) := by decide +kernel
theorem dJ7_copyOf_6403c_29 : decode cJ7_copyOf_6403c 29 = .ok (.aload_n 0, 1) := by decide +kernel
theorem dJ7_copyOf_6403c_30 : decode cJ7_copyOf_6403c 30 = .ok (.arraylength, 1) := by decide +kernel
theorem dJ7_copyOf_6403c_31 : decode cJ7_copyOf_6403c 31 = .ok (.iload_n 1, 1) := by decide +kernel
theorem dJ7_copyOf_6403c_32 : decode cJ7_copyOf_6403c 32 = .ok (.invokestatic 304, 3) := by decide +kernel
theorem dJ7_copyOf_6403c_35 : decode cJ7_copyOf_6403c 35 = .ok (.invokestatic 150, 3) := by decide +kernel
theorem dJ7_copyOf_6403c_38 : decode cJ7_copyOf_6403c 38 = .ok (.aload_n 3, 1) := by decide +kernel
theorem dJ7_copyOf_6403c_39 : decode cJ7_copyOf_6403c 39 = .ok (.areturn, 1) := by decide +kernel
theorem dJ15_checkIndex_7cf53_0 : decode cJ15_checkIndex_7cf53 0 = .ok (.iload_n 0, 1) := by decide +kernel
theorem dJ15_checkIndex_7cf53_1 : decode cJ15_checkIndex_7cf53 1 = .ok (.iload_n 1, 1) := by decide +kernel
theorem dJ15_checkIndex_7cf53_2 : decode cJ15_checkIndex_7cf53 2 = .ok (.aconst_null, 1) := by decide +kernel
theorem dJ15_checkIndex_7cf53_3 : decode cJ15_checkIndex_7cf53 3 = .ok (.invokestatic 105, 3) := by decide +kernel
theorem dJ15_checkIndex_7cf53_6 : decode cJ15_checkIndex_7cf53 6 = .ok (.ireturn, 1) := by decide +kernel
theorem dJ8_newLength_cabcc_0 : decode cJ8_newLength_cabcc 0 = .ok (.iload_n 0, 1) := by decide +kernel
theorem dJ8_newLength_cabcc_1 : decode cJ8_newLength_cabcc 1 = .ok (.iload_n 1, 1) := by decide +kernel
theorem dJ8_newLength_cabcc_2 : decode cJ8_newLength_cabcc 2 = .ok (.iload_n 2, 1) := by decide +kernel
theorem dJ8_newLength_cabcc_3 : decode cJ8_newLength_cabcc 3 = .ok (.invokestatic 194, 3) := by decide +kernel
theorem dJ8_newLength_cabcc_6 : decode cJ8_newLength_cabcc 6 = .ok (.iadd, 1) := by decide +kernel
theorem dJ8_newLength_cabcc_7 : decode cJ8_newLength_cabcc 7 = .ok (.istore_n 3, 1) := by decide +kernel
theorem dJ8_newLength_cabcc_8 : decode cJ8_newLength_cabcc 8 = .ok (.iconst 0, 1) := by decide +kernel
theorem dJ8_newLength_cabcc_9 : decode cJ8_newLength_cabcc 9 = .ok (.iload_n 3, 1) := by decide +kernel
theorem dJ8_newLength_cabcc_10 : decode cJ8_newLength_cabcc 10 = .ok (.if_icmp .ge 11, 3) := by decide +kernel
theorem dJ8_newLength_cabcc_13 : decode cJ8_newLength_cabcc 13 = .ok (.iload_n 3, 1) := by decide +kernel
theorem dJ8_newLength_cabcc_14 : decode cJ8_newLength_cabcc 14 = .ok (.ldc 200, 2) := by decide +kernel
theorem dJ8_newLength_cabcc_16 : decode cJ8_newLength_cabcc 16 = .ok (.if_icmp .gt 5, 3) := by decide +kernel
theorem dJ8_newLength_cabcc_19 : decode cJ8_newLength_cabcc 19 = .ok (.iload_n 3, 1) := by decide +kernel
theorem dJ8_newLength_cabcc_20 : decode cJ8_newLength_cabcc 20 = .ok (.ireturn, 1) := by decide +kernel
theorem dJ8_newLength_cabcc_21 : decode cJ8_newLength_cabcc 21 = .ok (.iload_n 0, 1) := by decide +kernel
theorem dJ8_newLength_cabcc_22 : decode cJ8_newLength_cabcc 22 = .ok (.iload_n 1, 1) := by decide +kernel
theorem dJ8_newLength_cabcc_23 : decode cJ8_newLength_cabcc 23 = .ok (.invokestatic 201, 3) := by decide +kernel
theorem dJ8_newLength_cabcc_26 : decode cJ8_newLength_cabcc 26 = .ok (.ireturn, 1) := by decide +kernel
theorem dJ8_hugeLength_7cf53_0 : decode cJ8_hugeLength_7cf53 0 = .ok (.iload_n 0, 1) := by decide +kernel
theorem dJ8_hugeLength_7cf53_1 : decode cJ8_hugeLength_7cf53 1 = .ok (.iload_n 1, 1) := by decide +kernel
theorem dJ8_hugeLength_7cf53_2 : decode cJ8_hugeLength_7cf53 2 = .ok (.iadd, 1) := by decide +kernel
theorem dJ8_hugeLength_7cf53_3 : decode cJ8_hugeLength_7cf53 3 = .ok (.istore_n 2, 1) := by decide +kernel
theorem dJ8_hugeLength_7cf53_4 : decode cJ8_hugeLength_7cf53 4 = .ok (.iload_n 2, 1) := by decide +kernel
theorem dJ8_hugeLength_7cf53_5 : decode cJ8_hugeLength_7cf53 5 = .ok (.ifCond .ge 44, 3) := by decide +kernel
theorem dJ8_hugeLength_7cf53_8 : decode cJ8_hugeLength_7cf53 8 = .ok (.new 204, 3) := by decide +kernel
theorem dJ8_hugeLength_7cf53_11 : decode cJ8_hugeLength_7cf53 11 = .ok (.dup, 1) := by decide +kernel
theorem dJ8_hugeLength_7cf53_12 : decode cJ8_hugeLength_7cf53 12 = .ok (.new 89, 3) := by decide +kernel
theorem dJ8_hugeLength_7cf53_15 : decode cJ8_hugeLength_7cf53 15 = .ok (.dup, 1) := by decide +kernel
theorem dJ8_hugeLength_7cf53_16 : decode cJ8_hugeLength_7cf53 16 = .ok (.invokespecial 91, 3) := by decide +kernel
theorem dJ8_hugeLength_7cf53_19 : decode cJ8_hugeLength_7cf53 19 = .ok (.ldc 206, 2) := by decide +kernel
theorem dJ8_hugeLength_7cf53_21 : decode cJ8_hugeLength_7cf53 21 = .ok (.invokevirtual 94, 3) := by decide +kernel
theorem dJ8_hugeLength_7cf53_24 : decode cJ8_hugeLength_7cf53 24 = .ok (.iload_n 0, 1) := by decide +kernel
theorem dJ8_hugeLength_7cf53_25 : decode cJ8_hugeLength_7cf53 25 = .ok (.invokevirtual 98, 3) := by decide +kernel
theorem dJ8_hugeLength_7cf53_28 : decode cJ8_hugeLength_7cf53 28 = .ok (.ldc 208, 2) := by decide +kernel
theorem dJ8_hugeLength_7cf53_30 : decode cJ8_hugeLength_7cf53 30 = .ok (.invokevirtual 94, 3) := by decide +kernel
theorem dJ8_hugeLength_7cf53_33 : decode cJ8_hugeLength_7cf53 33 = .ok (.iload_n 1, 1) := by decide +kernel
theorem dJ8_hugeLength_7cf53_34 : decode cJ8_hugeLength_7cf53 34 = .ok (.invokevirtual 98, 3) := by decide +kernel
theorem dJ8_hugeLength_7cf53_37 : decode cJ8_hugeLength_7cf53 37 = .ok (.ldc 210, 2) := by decide +kernel
theorem dJ8_hugeLength_7cf53_39 : decode cJ8_hugeLength_7cf53 39 = .ok (.invokevirtual 94, 3) := by decide +kernel
theorem dJ8_hugeLength_7cf53_42 : decode cJ8_hugeLength_7cf53 42 = .ok (.invokevirtual 101, 3) := by decide +kernel
theorem dJ8_hugeLength_7cf53_45 : decode cJ8_hugeLength_7cf53 45 = .ok (.invokespecial 212, 3) := by decide +kernel
theorem dJ8_hugeLength_7cf53_48 : decode cJ8_hugeLength_7cf53 48 = .ok (.athrow, 1) := by decide +kernel
theorem dJ8_hugeLength_7cf53_49 : decode cJ8_hugeLength_7cf53 49 = .ok (.iload_n 2, 1) := by decide +kernel
theorem dJ8_hugeLength_7cf53_50 : decode cJ8_hugeLength_7cf53 50 = .ok (.ldc 200, 2) := by decide +kernel
theorem dJ8_hugeLength_7cf53_52 : decode cJ8_hugeLength_7cf53 52 = .ok (.if_icmp .gt 6, 3) := by decide +kernel
theorem dJ8_hugeLength_7cf53_55 : decode cJ8_hugeLength_7cf53 55 = .ok (.ldc 200, 2) := by decide +kernel
theorem dJ8_hugeLength_7cf53_57 : decode cJ8_hugeLength_7cf53 57 = .ok (.ireturn, 1) := by decide +kernel
theorem dJ8_hugeLength_7cf53_58 : decode cJ8_hugeLength_7cf53 58 = .ok (.iload_n 2, 1) := by decide +kernel
theorem dJ8_hugeLength_7cf53_59 : decode cJ8_hugeLength_7cf53 59 = .ok (.ireturn, 1) := by decide +kernel
theorem dJ3_checkIndex_8e157_0 : decode cJ3_checkIndex_8e157 0 = .ok (.iload_n 0, 1) := by decide +kernel
theorem dJ3_checkIndex_8e157_1 : decode cJ3_checkIndex_8e157 1 = .ok (.ifCond .lt 8, 3) := by decide +kernel
theorem dJ3_checkIndex_8e157_4 : decode cJ3_checkIndex_8e157 4 = .ok (.iload_n 0, 1) := by decide +kernel
theorem dJ3_checkIndex_8e157_5 : decode cJ3_checkIndex_8e157 5 = .ok (.iload_n 1, 1) := by decide +kernel
theorem dJ3_checkIndex_8e157_6 : decode cJ3_checkIndex_8e157 6 = .ok (.if_icmp .lt 10, 3) := by decide +kernel
theorem dJ3_checkIndex_8e157_9 : decode cJ3_checkIndex_8e157 9 = .ok (.aload_n 2, 1) := by decide +kernel
theorem dJ3_checkIndex_8e157_10 : decode cJ3_checkIndex_8e157 10 = .ok (.iload_n 0, 1) := by decide +kernel
theorem dJ3_checkIndex_8e157_11 : decode cJ3_checkIndex_8e157 11 = .ok (.iload_n 1, 1) := by decide +kernel
theorem dJ3_checkIndex_8e157_12 : decode cJ3_checkIndex_8e157 12 = .ok (.invokestatic 95, 3) := by decide +kernel
theorem dJ3_checkIndex_8e157_15 : decode cJ3_checkIndex_8e157 15 = .ok (.athrow, 1) := by decide +kernel
theorem dJ3_checkIndex_8e157_16 : decode cJ3_checkIndex_8e157 16 = .ok (.iload_n 0, 1) := by decide +kernel
theorem dJ3_checkIndex_8e157_17 : decode cJ3_checkIndex_8e157 17 = .ok (.ireturn, 1) := by decide +kernel
