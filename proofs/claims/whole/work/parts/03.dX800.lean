theorem dX8_init_0 : decode cX8_init 0 = .ok (.aload_n 0, 1) := by decide +kernel
theorem dX8_init_1 : decode cX8_init 1 = .ok (.invokespecial 3, 3) := by decide +kernel
theorem dX8_init_4 : decode cX8_init 4 = .ok (.aload_n 0, 1) := by decide +kernel
theorem dX8_init_5 : decode cX8_init 5 = .ok (.iconst 4, 1) := by decide +kernel
theorem dX8_init_6 : decode cX8_init 6 = .ok (.iload_n 1, 1) := by decide +kernel
theorem dX8_init_7 : decode cX8_init 7 = .ok (.bipush 37, 2) := by decide +kernel
theorem dX8_init_9 : decode cX8_init 9 = .ok (.invokestatic 9, 3) := by decide +kernel
theorem dX8_init_12 : decode cX8_init 12 = .ok (.iadd, 1) := by decide +kernel
theorem dX8_init_13 : decode cX8_init 13 = .ok (.putfield 15, 3) := by decide +kernel
theorem dX8_init_16 : decode cX8_init 16 = .ok (.aload_n 0, 1) := by decide +kernel
theorem dX8_init_17 : decode cX8_init 17 = .ok (.new 19, 3) := by decide +kernel
theorem dX8_init_20 : decode cX8_init 20 = .ok (.dup, 1) := by decide +kernel
theorem dX8_init_21 : decode cX8_init 21 = .ok (.aload_n 0, 1) := by decide +kernel
theorem dX8_init_22 : decode cX8_init 22 = .ok (.getfield 15, 3) := by decide +kernel
theorem dX8_init_25 : decode cX8_init 25 = .ok (.invokespecial 21, 3) := by decide +kernel
theorem dX8_init_28 : decode cX8_init 28 = .ok (.putfield 24, 3) := by decide +kernel
theorem dX8_init_31 : decode cX8_init 31 = .ok (.aload_n 0, 1) := by decide +kernel
theorem dX8_init_32 : decode cX8_init 32 = .ok (.new 28, 3) := by decide +kernel
theorem dX8_init_35 : decode cX8_init 35 = .ok (.dup, 1) := by decide +kernel
theorem dX8_init_36 : decode cX8_init 36 = .ok (.aload_n 0, 1) := by decide +kernel
theorem dX8_init_37 : decode cX8_init 37 = .ok (.getfield 15, 3) := by decide +kernel
theorem dX8_init_40 : decode cX8_init 40 = .ok (.aload_n 0, 1) := by decide +kernel
theorem dX8_init_41 : decode cX8_init 41 = .ok (.getfield 24, 3) := by decide +kernel
theorem dX8_init_44 : decode cX8_init 44 = .ok (.invokespecial 30, 3) := by decide +kernel
theorem dX8_init_47 : decode cX8_init 47 = .ok (.putfield 33, 3) := by decide +kernel
theorem dX8_init_50 : decode cX8_init 50 = .ok (.aload_n 0, 1) := by decide +kernel
theorem dX8_init_51 : decode cX8_init 51 = .ok (.new 37, 3) := by decide +kernel
theorem dX8_init_54 : decode cX8_init 54 = .ok (.dup, 1) := by decide +kernel
theorem dX8_init_55 : decode cX8_init 55 = .ok (.invokespecial 39, 3) := by decide +kernel
theorem dX8_init_58 : decode cX8_init 58 = .ok (.putfield 40, 3) := by decide +kernel
theorem dX8_init_61 : decode cX8_init 61 = .ok (.aload_n 0, 1) := by decide +kernel
theorem dX8_init_62 : decode cX8_init 62 = .ok (.bipush 8, 2) := by decide +kernel
theorem dX8_init_64 : decode cX8_init 64 = .ok (.anewarray 44, 3) := by decide +kernel
theorem dX8_init_67 : decode cX8_init 67 = .ok (.putfield 46, 3) := by decide +kernel
theorem dX8_init_70 : decode cX8_init 70 = .ok (.iconst 0, 1) := by decide +kernel
theorem dX8_init_71 : decode cX8_init 71 = .ok (.istore_n 2, 1) := by decide +kernel
theorem dX8_init_72 : decode cX8_init 72 = .ok (.iload_n 2, 1) := by decide +kernel
theorem dX8_init_73 : decode cX8_init 73 = .ok (.bipush 8, 2) := by decide +kernel
theorem dX8_init_75 : decode cX8_init 75 = .ok (.if_icmp .ge 22, 3) := by decide +kernel
theorem dX8_init_78 : decode cX8_init 78 = .ok (.aload_n 0, 1) := by decide +kernel
theorem dX8_init_79 : decode cX8_init 79 = .ok (.getfield 46, 3) := by decide +kernel
theorem dX8_init_82 : decode cX8_init 82 = .ok (.iload_n 2, 1) := by decide +kernel
theorem dX8_init_83 : decode cX8_init 83 = .ok (.new 44, 3) := by decide +kernel
theorem dX8_init_86 : decode cX8_init 86 = .ok (.dup, 1) := by decide +kernel
theorem dX8_init_87 : decode cX8_init 87 = .ok (.invokespecial 50, 3) := by decide +kernel
theorem dX8_init_90 : decode cX8_init 90 = .ok (.aastore, 1) := by decide +kernel
theorem dX8_init_91 : decode cX8_init 91 = .ok (.iinc 2 1, 3) := by decide +kernel
theorem dX8_init_94 : decode cX8_init 94 = .ok (.goto (-22), 3) := by decide +kernel
theorem dX8_init_97 : decode cX8_init 97 = .ok (.return_, 1) := by decide +kernel
theorem dX8_chant_0 : decode cX8_chant 0 = .ok (.aload_n 0, 1) := by decide +kernel
theorem dX8_chant_1 : decode cX8_chant 1 = .ok (.getfield 33, 3) := by decide +kernel
theorem dX8_chant_4 : decode cX8_chant 4 = .ok (.invokevirtual 51, 3) := by decide +kernel
theorem dX8_chant_7 : decode cX8_chant 7 = .ok (.ireturn, 1) := by decide +kernel
theorem dX8_step_0 : decode cX8_step 0 = .ok (.aload_n 0, 1) := by decide +kernel
theorem dX8_step_1 : decode cX8_step 1 = .ok (.iload_n 1, 1) := by decide +kernel
theorem dX8_step_2 : decode cX8_step 2 = .ok (.iload_n 2, 1) := by decide +kernel
theorem dX8_step_3 : decode cX8_step 3 = .ok (.iload_n 3, 1) := by decide +kernel
theorem dX8_step_4 : decode cX8_step 4 = .ok (.invokevirtual 55, 3) := by decide +kernel
theorem dX8_step_7 : decode cX8_step 7 = .ok (.ifCond .ne 5, 3) := by decide +kernel
theorem dX8_step_10 : decode cX8_step 10 = .ok (.iconst (-1), 1) := by decide +kernel
theorem dX8_step_11 : decode cX8_step 11 = .ok (.ireturn, 1) := by decide +kernel
theorem dX8_step_12 : decode cX8_step 12 = .ok (.aload_n 0, 1) := by decide +kernel
theorem dX8_step_13 : decode cX8_step 13 = .ok (.getfield 33, 3) := by decide +kernel
theorem dX8_step_16 : decode cX8_step 16 = .ok (.iload_n 1, 1) := by decide +kernel
theorem dX8_step_17 : decode cX8_step 17 = .ok (.iload_n 2, 1) := by decide +kernel
theorem dX8_step_18 : decode cX8_step 18 = .ok (.iload_n 3, 1) := by decide +kernel
theorem dX8_step_19 : decode cX8_step 19 = .ok (.invokevirtual 59, 3) := by decide +kernel
theorem dX8_step_22 : decode cX8_step 22 = .ok (.ireturn, 1) := by decide +kernel
theorem dX8_length_0 : decode cX8_length 0 = .ok (.aload_n 0, 1) := by decide +kernel
theorem dX8_length_1 : decode cX8_length 1 = .ok (.getfield 33, 3) := by decide +kernel
theorem dX8_length_4 : decode cX8_length 4 = .ok (.iload_n 1, 1) := by decide +kernel
theorem dX8_length_5 : decode cX8_length 5 = .ok (.invokevirtual 63, 3) := by decide +kernel
theorem dX8_length_8 : decode cX8_length 8 = .ok (.ifCond .eq 14, 3) := by decide +kernel
theorem dX8_length_11 : decode cX8_length 11 = .ok (.aload_n 0, 1) := by decide +kernel
theorem dX8_length_12 : decode cX8_length 12 = .ok (.getfield 33, 3) := by decide +kernel
theorem dX8_length_15 : decode cX8_length 15 = .ok (.iload_n 1, 1) := by decide +kernel
theorem dX8_length_16 : decode cX8_length 16 = .ok (.invokevirtual 67, 3) := by decide +kernel
theorem dX8_length_19 : decode cX8_length 19 = .ok (.goto 4, 3) := by decide +kernel
theorem dX8_length_22 : decode cX8_length 22 = .ok (.iconst (-1), 1) := by decide +kernel
theorem dX8_length_23 : decode cX8_length 23 = .ok (.ireturn, 1) := by decide +kernel
theorem dX8_colour_0 : decode cX8_colour 0 = .ok (.aload_n 0, 1) := by decide +kernel
theorem dX8_colour_1 : decode cX8_colour 1 = .ok (.getfield 33, 3) := by decide +kernel
theorem dX8_colour_4 : decode cX8_colour 4 = .ok (.iload_n 1, 1) := by decide +kernel
theorem dX8_colour_5 : decode cX8_colour 5 = .ok (.invokevirtual 63, 3) := by decide +kernel
theorem dX8_colour_8 : decode cX8_colour 8 = .ok (.ifCond .ne 5, 3) := by decide +kernel
theorem dX8_colour_11 : decode cX8_colour 11 = .ok (.iconst (-1), 1) := by decide +kernel
theorem dX8_colour_12 : decode cX8_colour 12 = .ok (.ireturn, 1) := by decide +kernel
theorem dX8_colour_13 : decode cX8_colour 13 = .ok (.aload_n 0, 1) := by decide +kernel
theorem dX8_colour_14 : decode cX8_colour 14 = .ok (.getfield 33, 3) := by decide +kernel
theorem dX8_colour_17 : decode cX8_colour 17 = .ok (.iload_n 1, 1) := by decide +kernel
theorem dX8_colour_18 : decode cX8_colour 18 = .ok (.invokevirtual 71, 3) := by decide +kernel
theorem dX8_colour_21 : decode cX8_colour 21 = .ok (.istore_n 3, 1) := by decide +kernel
theorem dX8_colour_22 : decode cX8_colour 22 = .ok (.iload_n 3, 1) := by decide +kernel
theorem dX8_colour_23 : decode cX8_colour 23 = .ok (.ifCond .ge 6, 3) := by decide +kernel
theorem dX8_colour_26 : decode cX8_colour 26 = .ok (.bipush (-6), 2) := by decide +kernel
theorem dX8_colour_28 : decode cX8_colour 28 = .ok (.ireturn, 1) := by decide +kernel
theorem dX8_colour_29 : decode cX8_colour 29 = .ok (.iload_n 2, 1) := by decide +kernel
theorem dX8_colour_30 : decode cX8_colour 30 = .ok (.iconst 0, 1) := by decide +kernel
theorem dX8_colour_31 : decode cX8_colour 31 = .ok (.iload_n 3, 1) := by decide +kernel
theorem dX8_colour_32 : decode cX8_colour 32 = .ok (.iconst 1, 1) := by decide +kernel
theorem dX8_colour_33 : decode cX8_colour 33 = .ok (.isub, 1) := by decide +kernel
theorem dX8_colour_34 : decode cX8_colour 34 = .ok (.invokestatic 74, 3) := by decide +kernel
theorem dX8_colour_37 : decode cX8_colour 37 = .ok (.ifCond .eq 14, 3) := by decide +kernel
theorem dX8_colour_40 : decode cX8_colour 40 = .ok (.aload_n 0, 1) := by decide +kernel
theorem dX8_colour_41 : decode cX8_colour 41 = .ok (.getfield 33, 3) := by decide +kernel
theorem dX8_colour_44 : decode cX8_colour 44 = .ok (.iload_n 2, 1) := by decide +kernel
theorem dX8_colour_45 : decode cX8_colour 45 = .ok (.invokevirtual 77, 3) := by decide +kernel
theorem dX8_colour_48 : decode cX8_colour 48 = .ok (.goto 5, 3) := by decide +kernel
theorem dX8_colour_51 : decode cX8_colour 51 = .ok (.bipush (-4), 2) := by decide +kernel
theorem dX8_colour_53 : decode cX8_colour 53 = .ok (.ireturn, 1) := by decide +kernel
theorem dX8_closes_0 : decode cX8_closes 0 = .ok (.aload_n 0, 1) := by decide +kernel
theorem dX8_closes_1 : decode cX8_closes 1 = .ok (.getfield 33, 3) := by decide +kernel
theorem dX8_closes_4 : decode cX8_closes 4 = .ok (.iload_n 1, 1) := by decide +kernel
theorem dX8_closes_5 : decode cX8_closes 5 = .ok (.invokevirtual 63, 3) := by decide +kernel
theorem dX8_closes_8 : decode cX8_closes 8 = .ok (.ifCond .ne 5, 3) := by decide +kernel
theorem dX8_closes_11 : decode cX8_closes 11 = .ok (.iconst (-1), 1) := by decide +kernel
theorem dX8_closes_12 : decode cX8_closes 12 = .ok (.ireturn, 1) := by decide +kernel
theorem dX8_closes_13 : decode cX8_closes 13 = .ok (.aload_n 0, 1) := by decide +kernel
theorem dX8_closes_14 : decode cX8_closes 14 = .ok (.getfield 33, 3) := by decide +kernel
theorem dX8_closes_17 : decode cX8_closes 17 = .ok (.iload_n 1, 1) := by decide +kernel
theorem dX8_closes_18 : decode cX8_closes 18 = .ok (.invokevirtual 67, 3) := by decide +kernel
theorem dX8_closes_21 : decode cX8_closes 21 = .ok (.istore_n 2, 1) := by decide +kernel
theorem dX8_closes_22 : decode cX8_closes 22 = .ok (.iload_n 2, 1) := by decide +kernel
theorem dX8_closes_23 : decode cX8_closes 23 = .ok (.ifCond .ge 6, 3) := by decide +kernel
theorem dX8_closes_26 : decode cX8_closes 26 = .ok (.bipush (-6), 2) := by decide +kernel
theorem dX8_closes_28 : decode cX8_closes 28 = .ok (.ireturn, 1) := by decide +kernel
theorem dX8_closes_29 : decode cX8_closes 29 = .ok (.iload_n 2, 1) := by decide +kernel
theorem dX8_closes_30 : decode cX8_closes 30 = .ok (.aload_n 0, 1) := by decide +kernel
theorem dX8_closes_31 : decode cX8_closes 31 = .ok (.getfield 15, 3) := by decide +kernel
theorem dX8_closes_34 : decode cX8_closes 34 = .ok (.if_icmp .ne 7, 3) := by decide +kernel
theorem dX8_closes_37 : decode cX8_closes 37 = .ok (.iconst 1, 1) := by decide +kernel
theorem dX8_closes_38 : decode cX8_closes 38 = .ok (.goto 4, 3) := by decide +kernel
theorem dX8_closes_41 : decode cX8_closes 41 = .ok (.iconst 0, 1) := by decide +kernel
theorem dX8_closes_42 : decode cX8_closes 42 = .ok (.ireturn, 1) := by decide +kernel
theorem dX8_mend_0 : decode cX8_mend 0 = .ok (.aload_n 0, 1) := by decide +kernel
theorem dX8_mend_1 : decode cX8_mend 1 = .ok (.getfield 33, 3) := by decide +kernel
theorem dX8_mend_4 : decode cX8_mend 4 = .ok (.iload_n 1, 1) := by decide +kernel
theorem dX8_mend_5 : decode cX8_mend 5 = .ok (.invokevirtual 63, 3) := by decide +kernel
theorem dX8_mend_8 : decode cX8_mend 8 = .ok (.ifCond .eq 12, 3) := by decide +kernel
theorem dX8_mend_11 : decode cX8_mend 11 = .ok (.iload_n 2, 1) := by decide +kernel
theorem dX8_mend_12 : decode cX8_mend 12 = .ok (.iconst 0, 1) := by decide +kernel
theorem dX8_mend_13 : decode cX8_mend 13 = .ok (.iconst 1, 1) := by decide +kernel
theorem dX8_mend_14 : decode cX8_mend 14 = .ok (.invokestatic 74, 3) := by decide +kernel
theorem dX8_mend_17 : decode cX8_mend 17 = .ok (.ifCond .ne 5, 3) := by decide +kernel
theorem dX8_mend_20 : decode cX8_mend 20 = .ok (.iconst (-1), 1) := by decide +kernel
theorem dX8_mend_21 : decode cX8_mend 21 = .ok (.ireturn, 1) := by decide +kernel
theorem dX8_mend_22 : decode cX8_mend 22 = .ok (.aload_n 0, 1) := by decide +kernel
theorem dX8_mend_23 : decode cX8_mend 23 = .ok (.getfield 33, 3) := by decide +kernel
theorem dX8_mend_26 : decode cX8_mend 26 = .ok (.iload_n 1, 1) := by decide +kernel
theorem dX8_mend_27 : decode cX8_mend 27 = .ok (.invokevirtual 80, 3) := by decide +kernel
theorem dX8_mend_30 : decode cX8_mend 30 = .ok (.istore_n 3, 1) := by decide +kernel
theorem dX8_mend_31 : decode cX8_mend 31 = .ok (.iload_n 3, 1) := by decide +kernel
theorem dX8_mend_32 : decode cX8_mend 32 = .ok (.ifCond .ge 5, 3) := by decide +kernel
theorem dX8_mend_35 : decode cX8_mend 35 = .ok (.iload_n 3, 1) := by decide +kernel
theorem dX8_mend_36 : decode cX8_mend 36 = .ok (.ireturn, 1) := by decide +kernel
theorem dX8_mend_37 : decode cX8_mend 37 = .ok (.iload_n 2, 1) := by decide +kernel
theorem dX8_mend_38 : decode cX8_mend 38 = .ok (.ifCond .ne 13, 3) := by decide +kernel
theorem dX8_mend_41 : decode cX8_mend 41 = .ok (.aload_n 0, 1) := by decide +kernel
theorem dX8_mend_42 : decode cX8_mend 42 = .ok (.getfield 33, 3) := by decide +kernel
theorem dX8_mend_45 : decode cX8_mend 45 = .ok (.getfield 83, 3) := by decide +kernel
theorem dX8_mend_48 : decode cX8_mend 48 = .ok (.goto 10, 3) := by decide +kernel
theorem dX8_mend_51 : decode cX8_mend 51 = .ok (.aload_n 0, 1) := by decide +kernel
theorem dX8_mend_52 : decode cX8_mend 52 = .ok (.getfield 33, 3) := by decide +kernel
theorem dX8_mend_55 : decode cX8_mend 55 = .ok (.getfield 86, 3) := by decide +kernel
theorem dX8_mend_58 : decode cX8_mend 58 = .ok (.ireturn, 1) := by decide +kernel
theorem dX8_mended_0 : decode cX8_mended 0 = .ok (.aload_n 0, 1) := by decide +kernel
theorem dX8_mended_1 : decode cX8_mended 1 = .ok (.getfield 33, 3) := by decide +kernel
theorem dX8_mended_4 : decode cX8_mended 4 = .ok (.iload_n 1, 1) := by decide +kernel
theorem dX8_mended_5 : decode cX8_mended 5 = .ok (.invokevirtual 63, 3) := by decide +kernel
theorem dX8_mended_8 : decode cX8_mended 8 = .ok (.ifCond .ne 5, 3) := by decide +kernel
theorem dX8_mended_11 : decode cX8_mended 11 = .ok (.iconst (-1), 1) := by decide +kernel
theorem dX8_mended_12 : decode cX8_mended 12 = .ok (.ireturn, 1) := by decide +kernel
theorem dX8_mended_13 : decode cX8_mended 13 = .ok (.aload_n 0, 1) := by decide +kernel
theorem dX8_mended_14 : decode cX8_mended 14 = .ok (.getfield 33, 3) := by decide +kernel
theorem dX8_mended_17 : decode cX8_mended 17 = .ok (.iload_n 1, 1) := by decide +kernel
theorem dX8_mended_18 : decode cX8_mended 18 = .ok (.invokevirtual 80, 3) := by decide +kernel
theorem dX8_mended_21 : decode cX8_mended 21 = .ok (.istore_n 2, 1) := by decide +kernel
theorem dX8_mended_22 : decode cX8_mended 22 = .ok (.iload_n 2, 1) := by decide +kernel
theorem dX8_mended_23 : decode cX8_mended 23 = .ok (.ifCond .ge 5, 3) := by decide +kernel
theorem dX8_mended_26 : decode cX8_mended 26 = .ok (.iload_n 2, 1) := by decide +kernel
theorem dX8_mended_27 : decode cX8_mended 27 = .ok (.ireturn, 1) := by decide +kernel
theorem dX8_mended_28 : decode cX8_mended 28 = .ok (.aload_n 0, 1) := by decide +kernel
theorem dX8_mended_29 : decode cX8_mended 29 = .ok (.getfield 33, 3) := by decide +kernel
theorem dX8_mended_32 : decode cX8_mended 32 = .ok (.iload_n 1, 1) := by decide +kernel
theorem dX8_mended_33 : decode cX8_mended 33 = .ok (.invokevirtual 89, 3) := by decide +kernel
theorem dX8_mended_36 : decode cX8_mended 36 = .ok (.aload_n 0, 1) := by decide +kernel
theorem dX8_mended_37 : decode cX8_mended 37 = .ok (.getfield 33, 3) := by decide +kernel
theorem dX8_mended_40 : decode cX8_mended 40 = .ok (.iload_n 1, 1) := by decide +kernel
theorem dX8_mended_41 : decode cX8_mended 41 = .ok (.invokevirtual 67, 3) := by decide +kernel
theorem dX8_mended_44 : decode cX8_mended 44 = .ok (.ireturn, 1) := by decide +kernel
theorem dX8_told_0 : decode cX8_told 0 = .ok (.aload_n 0, 1) := by decide +kernel
theorem dX8_told_1 : decode cX8_told 1 = .ok (.getfield 33, 3) := by decide +kernel
theorem dX8_told_4 : decode cX8_told 4 = .ok (.iload_n 1, 1) := by decide +kernel
theorem dX8_told_5 : decode cX8_told 5 = .ok (.iload_n 2, 1) := by decide +kernel
theorem dX8_told_6 : decode cX8_told 6 = .ok (.invokevirtual 92, 3) := by decide +kernel
theorem dX8_told_9 : decode cX8_told 9 = .ok (.ifCond .ne 5, 3) := by decide +kernel
theorem dX8_told_12 : decode cX8_told 12 = .ok (.iconst (-1), 1) := by decide +kernel
theorem dX8_told_13 : decode cX8_told 13 = .ok (.ireturn, 1) := by decide +kernel
theorem dX8_told_14 : decode cX8_told 14 = .ok (.aload_n 0, 1) := by decide +kernel
theorem dX8_told_15 : decode cX8_told 15 = .ok (.getfield 33, 3) := by decide +kernel
theorem dX8_told_18 : decode cX8_told 18 = .ok (.iload_n 1, 1) := by decide +kernel
theorem dX8_told_19 : decode cX8_told 19 = .ok (.iload_n 2, 1) := by decide +kernel
theorem dX8_told_20 : decode cX8_told 20 = .ok (.invokevirtual 96, 3) := by decide +kernel
theorem dX8_told_23 : decode cX8_told 23 = .ok (.astore 4, 2) := by decide +kernel
theorem dX8_told_25 : decode cX8_told 25 = .ok (.iload_n 3, 1) := by decide +kernel
theorem dX8_told_26 : decode cX8_told 26 = .ok (.tableswitch 99 0 3 #[30, 36, 55, 74], 30) := by decide +kernel
theorem dX8_told_56 : decode cX8_told 56 = .ok (.aload 4, 2) := by decide +kernel
theorem dX8_told_58 : decode cX8_told 58 = .ok (.getfield 100, 3) := by decide +kernel
theorem dX8_told_61 : decode cX8_told 61 = .ok (.ireturn, 1) := by decide +kernel
theorem dX8_told_62 : decode cX8_told 62 = .ok (.aload 4, 2) := by decide +kernel
theorem dX8_told_64 : decode cX8_told 64 = .ok (.invokevirtual 105, 3) := by decide +kernel
theorem dX8_told_67 : decode cX8_told 67 = .ok (.ifCond .eq 11, 3) := by decide +kernel
theorem dX8_told_70 : decode cX8_told 70 = .ok (.aload 4, 2) := by decide +kernel
theorem dX8_told_72 : decode cX8_told 72 = .ok (.getfield 109, 3) := by decide +kernel
theorem dX8_told_75 : decode cX8_told 75 = .ok (.goto 5, 3) := by decide +kernel
theorem dX8_told_78 : decode cX8_told 78 = .ok (.bipush (-2), 2) := by decide +kernel
theorem dX8_told_80 : decode cX8_told 80 = .ok (.ireturn, 1) := by decide +kernel
theorem dX8_told_81 : decode cX8_told 81 = .ok (.aload 4, 2) := by decide +kernel
theorem dX8_told_83 : decode cX8_told 83 = .ok (.invokevirtual 112, 3) := by decide +kernel
theorem dX8_told_86 : decode cX8_told 86 = .ok (.ifCond .eq 11, 3) := by decide +kernel
theorem dX8_told_89 : decode cX8_told 89 = .ok (.aload 4, 2) := by decide +kernel
theorem dX8_told_91 : decode cX8_told 91 = .ok (.getfield 115, 3) := by decide +kernel
theorem dX8_told_94 : decode cX8_told 94 = .ok (.goto 5, 3) := by decide +kernel
theorem dX8_told_97 : decode cX8_told 97 = .ok (.bipush (-2), 2) := by decide +kernel
theorem dX8_told_99 : decode cX8_told 99 = .ok (.ireturn, 1) := by decide +kernel
theorem dX8_told_100 : decode cX8_told 100 = .ok (.aload_n 0, 1) := by decide +kernel
theorem dX8_told_101 : decode cX8_told 101 = .ok (.getfield 33, 3) := by decide +kernel
theorem dX8_told_104 : decode cX8_told 104 = .ok (.iload_n 1, 1) := by decide +kernel
theorem dX8_told_105 : decode cX8_told 105 = .ok (.invokevirtual 67, 3) := by decide +kernel
theorem dX8_told_108 : decode cX8_told 108 = .ok (.ifCond .ge 8, 3) := by decide +kernel
theorem dX8_told_111 : decode cX8_told 111 = .ok (.bipush (-6), 2) := by decide +kernel
theorem dX8_told_113 : decode cX8_told 113 = .ok (.goto 11, 3) := by decide +kernel
theorem dX8_told_116 : decode cX8_told 116 = .ok (.aload_n 0, 1) := by decide +kernel
theorem dX8_told_117 : decode cX8_told 117 = .ok (.getfield 33, 3) := by decide +kernel
theorem dX8_told_120 : decode cX8_told 120 = .ok (.iload_n 2, 1) := by decide +kernel
theorem dX8_told_121 : decode cX8_told 121 = .ok (.invokevirtual 118, 3) := by decide +kernel
theorem dX8_told_124 : decode cX8_told 124 = .ok (.ireturn, 1) := by decide +kernel
theorem dX8_told_125 : decode cX8_told 125 = .ok (.iconst (-1), 1) := by decide +kernel
theorem dX8_told_126 : decode cX8_told 126 = .ok (.ireturn, 1) := by decide +kernel
theorem dX8_isStepAsTold_0 : decode cX8_isStepAsTold 0 = .ok (.iload_n 1, 1) := by decide +kernel
theorem dX8_isStepAsTold_1 : decode cX8_isStepAsTold 1 = .ok (.tableswitch 92 0 5 #[39, 62, 67, 69, 77, 69], 39) := by decide +kernel
theorem dX8_isStepAsTold_40 : decode cX8_isStepAsTold 40 = .ok (.iload_n 2, 1) := by decide +kernel
theorem dX8_isStepAsTold_41 : decode cX8_isStepAsTold 41 = .ok (.iconst 1, 1) := by decide +kernel
theorem dX8_isStepAsTold_42 : decode cX8_isStepAsTold 42 = .ok (.bipush 40, 2) := by decide +kernel
theorem dX8_isStepAsTold_44 : decode cX8_isStepAsTold 44 = .ok (.invokestatic 74, 3) := by decide +kernel
theorem dX8_isStepAsTold_47 : decode cX8_isStepAsTold 47 = .ok (.ifCond .eq 14, 3) := by decide +kernel
theorem dX8_isStepAsTold_50 : decode cX8_isStepAsTold 50 = .ok (.iload_n 3, 1) := by decide +kernel
theorem dX8_isStepAsTold_51 : decode cX8_isStepAsTold 51 = .ok (.invokestatic 121, 3) := by decide +kernel
theorem dX8_isStepAsTold_54 : decode cX8_isStepAsTold 54 = .ok (.ifCond .eq 7, 3) := by decide +kernel
theorem dX8_isStepAsTold_57 : decode cX8_isStepAsTold 57 = .ok (.iconst 1, 1) := by decide +kernel
theorem dX8_isStepAsTold_58 : decode cX8_isStepAsTold 58 = .ok (.goto 4, 3) := by decide +kernel
theorem dX8_isStepAsTold_61 : decode cX8_isStepAsTold 61 = .ok (.iconst 0, 1) := by decide +kernel
theorem dX8_isStepAsTold_62 : decode cX8_isStepAsTold 62 = .ok (.ireturn, 1) := by decide +kernel
theorem dX8_isStepAsTold_63 : decode cX8_isStepAsTold 63 = .ok (.iload_n 3, 1) := by decide +kernel
theorem dX8_isStepAsTold_64 : decode cX8_isStepAsTold 64 = .ok (.invokestatic 121, 3) := by decide +kernel
theorem dX8_isStepAsTold_67 : decode cX8_isStepAsTold 67 = .ok (.ireturn, 1) := by decide +kernel
theorem dX8_isStepAsTold_68 : decode cX8_isStepAsTold 68 = .ok (.iconst 1, 1) := by decide +kernel
theorem dX8_isStepAsTold_69 : decode cX8_isStepAsTold 69 = .ok (.ireturn, 1) := by decide +kernel
theorem dX8_isStepAsTold_70 : decode cX8_isStepAsTold 70 = .ok (.iload_n 2, 1) := by decide +kernel
theorem dX8_isStepAsTold_71 : decode cX8_isStepAsTold 71 = .ok (.iconst 1, 1) := by decide +kernel
theorem dX8_isStepAsTold_72 : decode cX8_isStepAsTold 72 = .ok (.bipush 9, 2) := by decide +kernel
theorem dX8_isStepAsTold_74 : decode cX8_isStepAsTold 74 = .ok (.invokestatic 74, 3) := by decide +kernel
theorem dX8_isStepAsTold_77 : decode cX8_isStepAsTold 77 = .ok (.ireturn, 1) := by decide +kernel
theorem dX8_isStepAsTold_78 : decode cX8_isStepAsTold 78 = .ok (.iload_n 2, 1) := by decide +kernel
theorem dX8_isStepAsTold_79 : decode cX8_isStepAsTold 79 = .ok (.iconst 0, 1) := by decide +kernel
theorem dX8_isStepAsTold_80 : decode cX8_isStepAsTold 80 = .ok (.aload_n 0, 1) := by decide +kernel
theorem dX8_isStepAsTold_81 : decode cX8_isStepAsTold 81 = .ok (.getfield 33, 3) := by decide +kernel
theorem dX8_isStepAsTold_84 : decode cX8_isStepAsTold 84 = .ok (.invokevirtual 124, 3) := by decide +kernel
theorem dX8_isStepAsTold_87 : decode cX8_isStepAsTold 87 = .ok (.iconst 2, 1) := by decide +kernel
theorem dX8_isStepAsTold_88 : decode cX8_isStepAsTold 88 = .ok (.isub, 1) := by decide +kernel
theorem dX8_isStepAsTold_89 : decode cX8_isStepAsTold 89 = .ok (.invokestatic 74, 3) := by decide +kernel
theorem dX8_isStepAsTold_92 : decode cX8_isStepAsTold 92 = .ok (.ireturn, 1) := by decide +kernel
theorem dX8_isStepAsTold_93 : decode cX8_isStepAsTold 93 = .ok (.iconst 0, 1) := by decide +kernel
theorem dX8_isStepAsTold_94 : decode cX8_isStepAsTold 94 = .ok (.ireturn, 1) := by decide +kernel
theorem dX8_hand_0 : decode cX8_hand 0 = .ok (.iload_n 1, 1) := by decide +kernel
theorem dX8_hand_1 : decode cX8_hand 1 = .ok (.invokestatic 127, 3) := by decide +kernel
theorem dX8_hand_4 : decode cX8_hand 4 = .ok (.ifCond .eq 23, 3) := by decide +kernel
theorem dX8_hand_7 : decode cX8_hand 7 = .ok (.iload_n 2, 1) := by decide +kernel
theorem dX8_hand_8 : decode cX8_hand 8 = .ok (.iconst 1, 1) := by decide +kernel
theorem dX8_hand_9 : decode cX8_hand 9 = .ok (.bipush 40, 2) := by decide +kernel
theorem dX8_hand_11 : decode cX8_hand 11 = .ok (.invokestatic 74, 3) := by decide +kernel
theorem dX8_hand_14 : decode cX8_hand 14 = .ok (.ifCond .eq 13, 3) := by decide +kernel
theorem dX8_hand_17 : decode cX8_hand 17 = .ok (.iload_n 3, 1) := by decide +kernel
theorem dX8_hand_18 : decode cX8_hand 18 = .ok (.iconst 1, 1) := by decide +kernel
theorem dX8_hand_19 : decode cX8_hand 19 = .ok (.bipush 20, 2) := by decide +kernel
theorem dX8_hand_21 : decode cX8_hand 21 = .ok (.invokestatic 74, 3) := by decide +kernel
theorem dX8_hand_24 : decode cX8_hand 24 = .ok (.ifCond .ne 5, 3) := by decide +kernel
theorem dX8_hand_27 : decode cX8_hand 27 = .ok (.iconst (-1), 1) := by decide +kernel
theorem dX8_hand_28 : decode cX8_hand 28 = .ok (.ireturn, 1) := by decide +kernel
theorem dX8_hand_29 : decode cX8_hand 29 = .ok (.aload_n 0, 1) := by decide +kernel
theorem dX8_hand_30 : decode cX8_hand 30 = .ok (.getfield 24, 3) := by decide +kernel
theorem dX8_hand_33 : decode cX8_hand 33 = .ok (.getfield 130, 3) := by decide +kernel
theorem dX8_hand_36 : decode cX8_hand 36 = .ok (.ifCond .le 6, 3) := by decide +kernel
theorem dX8_hand_39 : decode cX8_hand 39 = .ok (.bipush (-3), 2) := by decide +kernel
theorem dX8_hand_41 : decode cX8_hand 41 = .ok (.ireturn, 1) := by decide +kernel
theorem dX8_hand_42 : decode cX8_hand 42 = .ok (.aload_n 0, 1) := by decide +kernel
theorem dX8_hand_43 : decode cX8_hand 43 = .ok (.getfield 24, 3) := by decide +kernel
theorem dX8_hand_46 : decode cX8_hand 46 = .ok (.iload_n 1, 1) := by decide +kernel
theorem dX8_hand_47 : decode cX8_hand 47 = .ok (.iload_n 2, 1) := by decide +kernel
theorem dX8_hand_48 : decode cX8_hand 48 = .ok (.iload_n 3, 1) := by decide +kernel
theorem dX8_hand_49 : decode cX8_hand 49 = .ok (.invokevirtual 133, 3) := by decide +kernel
theorem dX8_hand_52 : decode cX8_hand 52 = .ok (.ifCond .eq 7, 3) := by decide +kernel
theorem dX8_hand_55 : decode cX8_hand 55 = .ok (.iconst 1, 1) := by decide +kernel
theorem dX8_hand_56 : decode cX8_hand 56 = .ok (.goto 4, 3) := by decide +kernel
theorem dX8_hand_59 : decode cX8_hand 59 = .ok (.iconst 0, 1) := by decide +kernel
theorem dX8_hand_60 : decode cX8_hand 60 = .ok (.ireturn, 1) := by decide +kernel
theorem dX8_dye_0 : decode cX8_dye 0 = .ok (.iload_n 1, 1) := by decide +kernel
theorem dX8_dye_1 : decode cX8_dye 1 = .ok (.invokestatic 121, 3) := by decide +kernel
theorem dX8_dye_4 : decode cX8_dye 4 = .ok (.ifCond .eq 24, 3) := by decide +kernel
theorem dX8_dye_7 : decode cX8_dye 7 = .ok (.iload_n 2, 1) := by decide +kernel
theorem dX8_dye_8 : decode cX8_dye 8 = .ok (.iconst 0, 1) := by decide +kernel
theorem dX8_dye_9 : decode cX8_dye 9 = .ok (.bipush 9, 2) := by decide +kernel
theorem dX8_dye_11 : decode cX8_dye 11 = .ok (.invokestatic 74, 3) := by decide +kernel
theorem dX8_dye_14 : decode cX8_dye 14 = .ok (.ifCond .eq 14, 3) := by decide +kernel
theorem dX8_dye_17 : decode cX8_dye 17 = .ok (.iload_n 3, 1) := by decide +kernel
theorem dX8_dye_18 : decode cX8_dye 18 = .ok (.iconst 1, 1) := by decide +kernel
theorem dX8_dye_19 : decode cX8_dye 19 = .ok (.sipush 1000, 3) := by decide +kernel
theorem dX8_dye_22 : decode cX8_dye 22 = .ok (.invokestatic 74, 3) := by decide +kernel
theorem dX8_dye_25 : decode cX8_dye 25 = .ok (.ifCond .ne 5, 3) := by decide +kernel
theorem dX8_dye_28 : decode cX8_dye 28 = .ok (.iconst (-1), 1) := by decide +kernel
theorem dX8_dye_29 : decode cX8_dye 29 = .ok (.ireturn, 1) := by decide +kernel
theorem dX8_dye_30 : decode cX8_dye 30 = .ok (.aload_n 0, 1) := by decide +kernel
theorem dX8_dye_31 : decode cX8_dye 31 = .ok (.getfield 24, 3) := by decide +kernel
theorem dX8_dye_34 : decode cX8_dye 34 = .ok (.getfield 136, 3) := by decide +kernel
theorem dX8_dye_37 : decode cX8_dye 37 = .ok (.iload_n 1, 1) := by decide +kernel
theorem dX8_dye_38 : decode cX8_dye 38 = .ok (.aaload, 1) := by decide +kernel
theorem dX8_dye_39 : decode cX8_dye 39 = .ok (.iload_n 2, 1) := by decide +kernel
theorem dX8_dye_40 : decode cX8_dye 40 = .ok (.iload_n 3, 1) := by decide +kernel
theorem dX8_dye_41 : decode cX8_dye 41 = .ok (.invokevirtual 140, 3) := by decide +kernel
theorem dX8_dye_44 : decode cX8_dye 44 = .ok (.ireturn, 1) := by decide +kernel
theorem dX8_tie_0 : decode cX8_tie 0 = .ok (.aload_n 0, 1) := by decide +kernel
theorem dX8_tie_1 : decode cX8_tie 1 = .ok (.getfield 33, 3) := by decide +kernel
theorem dX8_tie_4 : decode cX8_tie 4 = .ok (.iload_n 1, 1) := by decide +kernel
theorem dX8_tie_5 : decode cX8_tie 5 = .ok (.invokevirtual 63, 3) := by decide +kernel
theorem dX8_tie_8 : decode cX8_tie 8 = .ok (.ifCond .ne 5, 3) := by decide +kernel
theorem dX8_tie_11 : decode cX8_tie 11 = .ok (.iconst (-1), 1) := by decide +kernel
theorem dX8_tie_12 : decode cX8_tie 12 = .ok (.ireturn, 1) := by decide +kernel
theorem dX8_tie_13 : decode cX8_tie 13 = .ok (.aload_n 0, 1) := by decide +kernel
theorem dX8_tie_14 : decode cX8_tie 14 = .ok (.getfield 33, 3) := by decide +kernel
theorem dX8_tie_17 : decode cX8_tie 17 = .ok (.iload_n 1, 1) := by decide +kernel
theorem dX8_tie_18 : decode cX8_tie 18 = .ok (.invokevirtual 71, 3) := by decide +kernel
theorem dX8_tie_21 : decode cX8_tie 21 = .ok (.istore_n 2, 1) := by decide +kernel
theorem dX8_tie_22 : decode cX8_tie 22 = .ok (.iload_n 2, 1) := by decide +kernel
theorem dX8_tie_23 : decode cX8_tie 23 = .ok (.ifCond .ge 6, 3) := by decide +kernel
theorem dX8_tie_26 : decode cX8_tie 26 = .ok (.bipush (-6), 2) := by decide +kernel
theorem dX8_tie_28 : decode cX8_tie 28 = .ok (.ireturn, 1) := by decide +kernel
theorem dX8_tie_29 : decode cX8_tie 29 = .ok (.iload_n 2, 1) := by decide +kernel
theorem dX8_tie_30 : decode cX8_tie 30 = .ok (.aload_n 0, 1) := by decide +kernel
theorem dX8_tie_31 : decode cX8_tie 31 = .ok (.getfield 15, 3) := by decide +kernel
theorem dX8_tie_34 : decode cX8_tie 34 = .ok (.if_icmp .ne 17, 3) := by decide +kernel
theorem dX8_tie_37 : decode cX8_tie 37 = .ok (.aload_n 0, 1) := by decide +kernel
theorem dX8_tie_38 : decode cX8_tie 38 = .ok (.getfield 24, 3) := by decide +kernel
theorem dX8_tie_41 : decode cX8_tie 41 = .ok (.aload_n 0, 1) := by decide +kernel
theorem dX8_tie_42 : decode cX8_tie 42 = .ok (.getfield 33, 3) := by decide +kernel
theorem dX8_tie_45 : decode cX8_tie 45 = .ok (.invokevirtual 145, 3) := by decide +kernel
theorem dX8_tie_48 : decode cX8_tie 48 = .ok (.goto 5, 3) := by decide +kernel
theorem dX8_tie_51 : decode cX8_tie 51 = .ok (.bipush (-4), 2) := by decide +kernel
theorem dX8_tie_53 : decode cX8_tie 53 = .ok (.ireturn, 1) := by decide +kernel
theorem dX8_knot_0 : decode cX8_knot 0 = .ok (.aload_n 0, 1) := by decide +kernel
theorem dX8_knot_1 : decode cX8_knot 1 = .ok (.getfield 24, 3) := by decide +kernel
theorem dX8_knot_4 : decode cX8_knot 4 = .ok (.iload_n 1, 1) := by decide +kernel
theorem dX8_knot_5 : decode cX8_knot 5 = .ok (.iload_n 2, 1) := by decide +kernel
theorem dX8_knot_6 : decode cX8_knot 6 = .ok (.invokevirtual 149, 3) := by decide +kernel
theorem dX8_knot_9 : decode cX8_knot 9 = .ok (.ifCond .eq 20, 3) := by decide +kernel
theorem dX8_knot_12 : decode cX8_knot 12 = .ok (.aload_n 0, 1) := by decide +kernel
theorem dX8_knot_13 : decode cX8_knot 13 = .ok (.getfield 24, 3) := by decide +kernel
theorem dX8_knot_16 : decode cX8_knot 16 = .ok (.getfield 152, 3) := by decide +kernel
theorem dX8_knot_19 : decode cX8_knot 19 = .ok (.iload_n 1, 1) := by decide +kernel
theorem dX8_knot_20 : decode cX8_knot 20 = .ok (.aaload, 1) := by decide +kernel
theorem dX8_knot_21 : decode cX8_knot 21 = .ok (.getfield 156, 3) := by decide +kernel
theorem dX8_knot_24 : decode cX8_knot 24 = .ok (.iload_n 2, 1) := by decide +kernel
theorem dX8_knot_25 : decode cX8_knot 25 = .ok (.baload, 1) := by decide +kernel
theorem dX8_knot_26 : decode cX8_knot 26 = .ok (.goto 4, 3) := by decide +kernel
theorem dX8_knot_29 : decode cX8_knot 29 = .ok (.iconst (-1), 1) := by decide +kernel
theorem dX8_knot_30 : decode cX8_knot 30 = .ok (.ireturn, 1) := by decide +kernel
theorem dX8_look_0 : decode cX8_look 0 = .ok (.aload_n 0, 1) := by decide +kernel
theorem dX8_look_1 : decode cX8_look 1 = .ok (.getfield 24, 3) := by decide +kernel
theorem dX8_look_4 : decode cX8_look 4 = .ok (.iload_n 1, 1) := by decide +kernel
theorem dX8_look_5 : decode cX8_look 5 = .ok (.iload_n 2, 1) := by decide +kernel
theorem dX8_look_6 : decode cX8_look 6 = .ok (.invokevirtual 149, 3) := by decide +kernel
theorem dX8_look_9 : decode cX8_look 9 = .ok (.ifCond .ne 5, 3) := by decide +kernel
theorem dX8_look_12 : decode cX8_look 12 = .ok (.iconst (-1), 1) := by decide +kernel
theorem dX8_look_13 : decode cX8_look 13 = .ok (.ireturn, 1) := by decide +kernel
theorem dX8_look_14 : decode cX8_look 14 = .ok (.aload_n 0, 1) := by decide +kernel
theorem dX8_look_15 : decode cX8_look 15 = .ok (.getfield 24, 3) := by decide +kernel
theorem dX8_look_18 : decode cX8_look 18 = .ok (.getfield 152, 3) := by decide +kernel
theorem dX8_look_21 : decode cX8_look 21 = .ok (.iload_n 1, 1) := by decide +kernel
theorem dX8_look_22 : decode cX8_look 22 = .ok (.aaload, 1) := by decide +kernel
theorem dX8_look_23 : decode cX8_look 23 = .ok (.astore 4, 2) := by decide +kernel
theorem dX8_look_25 : decode cX8_look 25 = .ok (.iload_n 3, 1) := by decide +kernel
theorem dX8_look_26 : decode cX8_look 26 = .ok (.tableswitch 82 0 4 #[34, 43, 51, 59, 67], 34) := by decide +kernel
theorem dX8_look_60 : decode cX8_look 60 = .ok (.aload_n 0, 1) := by decide +kernel
theorem dX8_look_61 : decode cX8_look 61 = .ok (.getfield 24, 3) := by decide +kernel
theorem dX8_look_64 : decode cX8_look 64 = .ok (.iload_n 2, 1) := by decide +kernel
theorem dX8_look_65 : decode cX8_look 65 = .ok (.invokevirtual 162, 3) := by decide +kernel
theorem dX8_look_68 : decode cX8_look 68 = .ok (.ireturn, 1) := by decide +kernel
theorem dX8_look_69 : decode cX8_look 69 = .ok (.aload 4, 2) := by decide +kernel
theorem dX8_look_71 : decode cX8_look 71 = .ok (.getfield 165, 3) := by decide +kernel
theorem dX8_look_74 : decode cX8_look 74 = .ok (.iload_n 2, 1) := by decide +kernel
theorem dX8_look_75 : decode cX8_look 75 = .ok (.baload, 1) := by decide +kernel
theorem dX8_look_76 : decode cX8_look 76 = .ok (.ireturn, 1) := by decide +kernel
theorem dX8_look_77 : decode cX8_look 77 = .ok (.aload 4, 2) := by decide +kernel
theorem dX8_look_79 : decode cX8_look 79 = .ok (.getfield 168, 3) := by decide +kernel
theorem dX8_look_82 : decode cX8_look 82 = .ok (.iload_n 2, 1) := by decide +kernel
theorem dX8_look_83 : decode cX8_look 83 = .ok (.baload, 1) := by decide +kernel
theorem dX8_look_84 : decode cX8_look 84 = .ok (.ireturn, 1) := by decide +kernel
theorem dX8_look_85 : decode cX8_look 85 = .ok (.aload 4, 2) := by decide +kernel
theorem dX8_look_87 : decode cX8_look 87 = .ok (.getfield 171, 3) := by decide +kernel
theorem dX8_look_90 : decode cX8_look 90 = .ok (.iload_n 2, 1) := by decide +kernel
theorem dX8_look_91 : decode cX8_look 91 = .ok (.baload, 1) := by decide +kernel
theorem dX8_look_92 : decode cX8_look 92 = .ok (.ireturn, 1) := by decide +kernel
theorem dX8_look_93 : decode cX8_look 93 = .ok (.aload 4, 2) := by decide +kernel
theorem dX8_look_95 : decode cX8_look 95 = .ok (.iload_n 2, 1) := by decide +kernel
theorem dX8_look_96 : decode cX8_look 96 = .ok (.invokevirtual 174, 3) := by decide +kernel
theorem dX8_look_99 : decode cX8_look 99 = .ok (.ifCond .eq 7, 3) := by decide +kernel
theorem dX8_look_102 : decode cX8_look 102 = .ok (.iconst 1, 1) := by decide +kernel
theorem dX8_look_103 : decode cX8_look 103 = .ok (.goto 4, 3) := by decide +kernel
theorem dX8_look_106 : decode cX8_look 106 = .ok (.iconst 0, 1) := by decide +kernel
theorem dX8_look_107 : decode cX8_look 107 = .ok (.ireturn, 1) := by decide +kernel
theorem dX8_look_108 : decode cX8_look 108 = .ok (.iconst (-1), 1) := by decide +kernel
theorem dX8_look_109 : decode cX8_look 109 = .ok (.ireturn, 1) := by decide +kernel
theorem dX8_found_0 : decode cX8_found 0 = .ok (.aload_n 0, 1) := by decide +kernel
theorem dX8_found_1 : decode cX8_found 1 = .ok (.getfield 24, 3) := by decide +kernel
theorem dX8_found_4 : decode cX8_found 4 = .ok (.iload_n 1, 1) := by decide +kernel
theorem dX8_found_5 : decode cX8_found 5 = .ok (.iload_n 2, 1) := by decide +kernel
theorem dX8_found_6 : decode cX8_found 6 = .ok (.invokevirtual 149, 3) := by decide +kernel
theorem dX8_found_9 : decode cX8_found 9 = .ok (.ifCond .eq 10, 3) := by decide +kernel
theorem dX8_found_12 : decode cX8_found 12 = .ok (.iload_n 3, 1) := by decide +kernel
theorem dX8_found_13 : decode cX8_found 13 = .ok (.invokestatic 121, 3) := by decide +kernel
theorem dX8_found_16 : decode cX8_found 16 = .ok (.ifCond .ne 5, 3) := by decide +kernel
theorem dX8_found_19 : decode cX8_found 19 = .ok (.iconst (-1), 1) := by decide +kernel
theorem dX8_found_20 : decode cX8_found 20 = .ok (.ireturn, 1) := by decide +kernel
theorem dX8_found_21 : decode cX8_found 21 = .ok (.aload_n 0, 1) := by decide +kernel
theorem dX8_found_22 : decode cX8_found 22 = .ok (.getfield 24, 3) := by decide +kernel
theorem dX8_found_25 : decode cX8_found 25 = .ok (.getfield 152, 3) := by decide +kernel
theorem dX8_found_28 : decode cX8_found 28 = .ok (.iload_n 1, 1) := by decide +kernel
theorem dX8_found_29 : decode cX8_found 29 = .ok (.aaload, 1) := by decide +kernel
theorem dX8_found_30 : decode cX8_found 30 = .ok (.astore 4, 2) := by decide +kernel
theorem dX8_found_32 : decode cX8_found 32 = .ok (.aload 4, 2) := by decide +kernel
theorem dX8_found_34 : decode cX8_found 34 = .ok (.getfield 156, 3) := by decide +kernel
theorem dX8_found_37 : decode cX8_found 37 = .ok (.iload_n 2, 1) := by decide +kernel
theorem dX8_found_38 : decode cX8_found 38 = .ok (.iload_n 3, 1) := by decide +kernel
theorem dX8_found_39 : decode cX8_found 39 = .ok (.i2b, 1) := by decide +kernel
theorem dX8_found_40 : decode cX8_found 40 = .ok (.bastore, 1) := by decide +kernel
theorem dX8_found_41 : decode cX8_found 41 = .ok (.aload 4, 2) := by decide +kernel
theorem dX8_found_43 : decode cX8_found 43 = .ok (.iload_n 2, 1) := by decide +kernel
theorem dX8_found_44 : decode cX8_found 44 = .ok (.invokevirtual 174, 3) := by decide +kernel
theorem dX8_found_47 : decode cX8_found 47 = .ok (.ifCond .eq 7, 3) := by decide +kernel
theorem dX8_found_50 : decode cX8_found 50 = .ok (.iconst 1, 1) := by decide +kernel
theorem dX8_found_51 : decode cX8_found 51 = .ok (.goto 4, 3) := by decide +kernel
theorem dX8_found_54 : decode cX8_found 54 = .ok (.iconst 0, 1) := by decide +kernel
theorem dX8_found_55 : decode cX8_found 55 = .ok (.ireturn, 1) := by decide +kernel
theorem dX8_cut_0 : decode cX8_cut 0 = .ok (.aload_n 0, 1) := by decide +kernel
theorem dX8_cut_1 : decode cX8_cut 1 = .ok (.getfield 24, 3) := by decide +kernel
theorem dX8_cut_4 : decode cX8_cut 4 = .ok (.getfield 130, 3) := by decide +kernel
theorem dX8_cut_7 : decode cX8_cut 7 = .ok (.ifCond .ne 6, 3) := by decide +kernel
theorem dX8_cut_10 : decode cX8_cut 10 = .ok (.bipush (-3), 2) := by decide +kernel
theorem dX8_cut_12 : decode cX8_cut 12 = .ok (.ireturn, 1) := by decide +kernel
theorem dX8_cut_13 : decode cX8_cut 13 = .ok (.aload_n 0, 1) := by decide +kernel
theorem dX8_cut_14 : decode cX8_cut 14 = .ok (.getfield 24, 3) := by decide +kernel
theorem dX8_cut_17 : decode cX8_cut 17 = .ok (.dup, 1) := by decide +kernel
theorem dX8_cut_18 : decode cX8_cut 18 = .ok (.getfield 130, 3) := by decide +kernel
theorem dX8_cut_21 : decode cX8_cut 21 = .ok (.iconst 1, 1) := by decide +kernel
theorem dX8_cut_22 : decode cX8_cut 22 = .ok (.isub, 1) := by decide +kernel
theorem dX8_cut_23 : decode cX8_cut 23 = .ok (.putfield 130, 3) := by decide +kernel
theorem dX8_cut_26 : decode cX8_cut 26 = .ok (.aload_n 0, 1) := by decide +kernel
theorem dX8_cut_27 : decode cX8_cut 27 = .ok (.getfield 24, 3) := by decide +kernel
theorem dX8_cut_30 : decode cX8_cut 30 = .ok (.getfield 130, 3) := by decide +kernel
theorem dX8_cut_33 : decode cX8_cut 33 = .ok (.ireturn, 1) := by decide +kernel
theorem dX8_minutes_0 : decode cX8_minutes 0 = .ok (.aload_n 0, 1) := by decide +kernel
theorem dX8_minutes_1 : decode cX8_minutes 1 = .ok (.getfield 24, 3) := by decide +kernel
theorem dX8_minutes_4 : decode cX8_minutes 4 = .ok (.iload_n 1, 1) := by decide +kernel
theorem dX8_minutes_5 : decode cX8_minutes 5 = .ok (.invokevirtual 177, 3) := by decide +kernel
theorem dX8_minutes_8 : decode cX8_minutes 8 = .ok (.ifCond .eq 18, 3) := by decide +kernel
theorem dX8_minutes_11 : decode cX8_minutes 11 = .ok (.aload_n 0, 1) := by decide +kernel
theorem dX8_minutes_12 : decode cX8_minutes 12 = .ok (.getfield 24, 3) := by decide +kernel
theorem dX8_minutes_15 : decode cX8_minutes 15 = .ok (.getfield 152, 3) := by decide +kernel
theorem dX8_minutes_18 : decode cX8_minutes 18 = .ok (.iload_n 1, 1) := by decide +kernel
theorem dX8_minutes_19 : decode cX8_minutes 19 = .ok (.aaload, 1) := by decide +kernel
theorem dX8_minutes_20 : decode cX8_minutes 20 = .ok (.getfield 180, 3) := by decide +kernel
theorem dX8_minutes_23 : decode cX8_minutes 23 = .ok (.goto 4, 3) := by decide +kernel
theorem dX8_minutes_26 : decode cX8_minutes 26 = .ok (.iconst (-1), 1) := by decide +kernel
theorem dX8_minutes_27 : decode cX8_minutes 27 = .ok (.ireturn, 1) := by decide +kernel
theorem dX8_shifts_0 : decode cX8_shifts 0 = .ok (.iload_n 1, 1) := by decide +kernel
theorem dX8_shifts_1 : decode cX8_shifts 1 = .ok (.iconst 0, 1) := by decide +kernel
theorem dX8_shifts_2 : decode cX8_shifts 2 = .ok (.iconst 1, 1) := by decide +kernel
theorem dX8_shifts_3 : decode cX8_shifts 3 = .ok (.invokestatic 74, 3) := by decide +kernel
theorem dX8_shifts_6 : decode cX8_shifts 6 = .ok (.ifCond .eq 23, 3) := by decide +kernel
theorem dX8_shifts_9 : decode cX8_shifts 9 = .ok (.aload_n 0, 1) := by decide +kernel
theorem dX8_shifts_10 : decode cX8_shifts 10 = .ok (.getfield 24, 3) := by decide +kernel
theorem dX8_shifts_13 : decode cX8_shifts 13 = .ok (.iload_n 1, 1) := by decide +kernel
theorem dX8_shifts_14 : decode cX8_shifts 14 = .ok (.iconst 1, 1) := by decide +kernel
theorem dX8_shifts_15 : decode cX8_shifts 15 = .ok (.if_icmp .ne 7, 3) := by decide +kernel
theorem dX8_shifts_18 : decode cX8_shifts 18 = .ok (.iconst 1, 1) := by decide +kernel
theorem dX8_shifts_19 : decode cX8_shifts 19 = .ok (.goto 4, 3) := by decide +kernel
theorem dX8_shifts_22 : decode cX8_shifts 22 = .ok (.iconst 0, 1) := by decide +kernel
theorem dX8_shifts_23 : decode cX8_shifts 23 = .ok (.invokevirtual 183, 3) := by decide +kernel
theorem dX8_shifts_26 : decode cX8_shifts 26 = .ok (.goto 4, 3) := by decide +kernel
theorem dX8_shifts_29 : decode cX8_shifts 29 = .ok (.iconst (-1), 1) := by decide +kernel
theorem dX8_shifts_30 : decode cX8_shifts 30 = .ok (.ireturn, 1) := by decide +kernel
theorem dX8_wool_0 : decode cX8_wool 0 = .ok (.iload_n 1, 1) := by decide +kernel
theorem dX8_wool_1 : decode cX8_wool 1 = .ok (.invokestatic 121, 3) := by decide +kernel
theorem dX8_wool_4 : decode cX8_wool 4 = .ok (.ifCond .eq 18, 3) := by decide +kernel
theorem dX8_wool_7 : decode cX8_wool 7 = .ok (.aload_n 0, 1) := by decide +kernel
theorem dX8_wool_8 : decode cX8_wool 8 = .ok (.getfield 24, 3) := by decide +kernel
theorem dX8_wool_11 : decode cX8_wool 11 = .ok (.getfield 136, 3) := by decide +kernel
theorem dX8_wool_14 : decode cX8_wool 14 = .ok (.iload_n 1, 1) := by decide +kernel
theorem dX8_wool_15 : decode cX8_wool 15 = .ok (.aaload, 1) := by decide +kernel
theorem dX8_wool_16 : decode cX8_wool 16 = .ok (.invokevirtual 187, 3) := by decide +kernel
theorem dX8_wool_19 : decode cX8_wool 19 = .ok (.goto 4, 3) := by decide +kernel
theorem dX8_wool_22 : decode cX8_wool 22 = .ok (.iconst (-1), 1) := by decide +kernel
theorem dX8_wool_23 : decode cX8_wool 23 = .ok (.ireturn, 1) := by decide +kernel
theorem dX8_hands_0 : decode cX8_hands 0 = .ok (.iload_n 1, 1) := by decide +kernel
theorem dX8_hands_1 : decode cX8_hands 1 = .ok (.invokestatic 127, 3) := by decide +kernel
theorem dX8_hands_4 : decode cX8_hands 4 = .ok (.ifCond .ne 5, 3) := by decide +kernel
theorem dX8_hands_7 : decode cX8_hands 7 = .ok (.iconst (-1), 1) := by decide +kernel
theorem dX8_hands_8 : decode cX8_hands 8 = .ok (.ireturn, 1) := by decide +kernel
theorem dX8_hands_9 : decode cX8_hands 9 = .ok (.iload_n 2, 1) := by decide +kernel
theorem dX8_hands_10 : decode cX8_hands 10 = .ok (.tableswitch 53 0 2 #[26, 35, 44], 26) := by decide +kernel
theorem dX8_hands_36 : decode cX8_hands 36 = .ok (.aload_n 0, 1) := by decide +kernel
theorem dX8_hands_37 : decode cX8_hands 37 = .ok (.getfield 24, 3) := by decide +kernel
theorem dX8_hands_40 : decode cX8_hands 40 = .ok (.iload_n 1, 1) := by decide +kernel
theorem dX8_hands_41 : decode cX8_hands 41 = .ok (.invokevirtual 190, 3) := by decide +kernel
theorem dX8_hands_44 : decode cX8_hands 44 = .ok (.ireturn, 1) := by decide +kernel
theorem dX8_hands_45 : decode cX8_hands 45 = .ok (.aload_n 0, 1) := by decide +kernel
theorem dX8_hands_46 : decode cX8_hands 46 = .ok (.getfield 24, 3) := by decide +kernel
theorem dX8_hands_49 : decode cX8_hands 49 = .ok (.iload_n 1, 1) := by decide +kernel
theorem dX8_hands_50 : decode cX8_hands 50 = .ok (.invokevirtual 193, 3) := by decide +kernel
theorem dX8_hands_53 : decode cX8_hands 53 = .ok (.ireturn, 1) := by decide +kernel
theorem dX8_hands_54 : decode cX8_hands 54 = .ok (.aload_n 0, 1) := by decide +kernel
theorem dX8_hands_55 : decode cX8_hands 55 = .ok (.getfield 24, 3) := by decide +kernel
theorem dX8_hands_58 : decode cX8_hands 58 = .ok (.iload_n 1, 1) := by decide +kernel
theorem dX8_hands_59 : decode cX8_hands 59 = .ok (.invokevirtual 196, 3) := by decide +kernel
theorem dX8_hands_62 : decode cX8_hands 62 = .ok (.ireturn, 1) := by decide +kernel
theorem dX8_hands_63 : decode cX8_hands 63 = .ok (.iconst (-1), 1) := by decide +kernel
theorem dX8_hands_64 : decode cX8_hands 64 = .ok (.ireturn, 1) := by decide +kernel
theorem dX8_unlike_0 : decode cX8_unlike 0 = .ok (.aload_n 0, 1) := by decide +kernel
theorem dX8_unlike_1 : decode cX8_unlike 1 = .ok (.getfield 24, 3) := by decide +kernel
theorem dX8_unlike_4 : decode cX8_unlike 4 = .ok (.iload_n 1, 1) := by decide +kernel
theorem dX8_unlike_5 : decode cX8_unlike 5 = .ok (.invokevirtual 177, 3) := by decide +kernel
theorem dX8_unlike_8 : decode cX8_unlike 8 = .ok (.ifCond .ne 5, 3) := by decide +kernel
theorem dX8_unlike_11 : decode cX8_unlike 11 = .ok (.iconst (-1), 1) := by decide +kernel
theorem dX8_unlike_12 : decode cX8_unlike 12 = .ok (.ireturn, 1) := by decide +kernel
theorem dX8_unlike_13 : decode cX8_unlike 13 = .ok (.iload_n 2, 1) := by decide +kernel
theorem dX8_unlike_14 : decode cX8_unlike 14 = .ok (.iconst (-1), 1) := by decide +kernel
theorem dX8_unlike_15 : decode cX8_unlike 15 = .ok (.if_icmp .ne 12, 3) := by decide +kernel
theorem dX8_unlike_18 : decode cX8_unlike 18 = .ok (.aload_n 0, 1) := by decide +kernel
theorem dX8_unlike_19 : decode cX8_unlike 19 = .ok (.getfield 24, 3) := by decide +kernel
theorem dX8_unlike_22 : decode cX8_unlike 22 = .ok (.iload_n 1, 1) := by decide +kernel
theorem dX8_unlike_23 : decode cX8_unlike 23 = .ok (.invokevirtual 199, 3) := by decide +kernel
theorem dX8_unlike_26 : decode cX8_unlike 26 = .ok (.ireturn, 1) := by decide +kernel
theorem dX8_unlike_27 : decode cX8_unlike 27 = .ok (.aload_n 0, 1) := by decide +kernel
theorem dX8_unlike_28 : decode cX8_unlike 28 = .ok (.getfield 24, 3) := by decide +kernel
theorem dX8_unlike_31 : decode cX8_unlike 31 = .ok (.iload_n 2, 1) := by decide +kernel
theorem dX8_unlike_32 : decode cX8_unlike 32 = .ok (.invokevirtual 177, 3) := by decide +kernel
theorem dX8_unlike_35 : decode cX8_unlike 35 = .ok (.ifCond .eq 15, 3) := by decide +kernel
theorem dX8_unlike_38 : decode cX8_unlike 38 = .ok (.aload_n 0, 1) := by decide +kernel
theorem dX8_unlike_39 : decode cX8_unlike 39 = .ok (.getfield 24, 3) := by decide +kernel
theorem dX8_unlike_42 : decode cX8_unlike 42 = .ok (.iload_n 1, 1) := by decide +kernel
theorem dX8_unlike_43 : decode cX8_unlike 43 = .ok (.iload_n 2, 1) := by decide +kernel
theorem dX8_unlike_44 : decode cX8_unlike 44 = .ok (.invokevirtual 202, 3) := by decide +kernel
theorem dX8_unlike_47 : decode cX8_unlike 47 = .ok (.goto 4, 3) := by decide +kernel
theorem dX8_unlike_50 : decode cX8_unlike 50 = .ok (.iconst (-1), 1) := by decide +kernel
theorem dX8_unlike_51 : decode cX8_unlike 51 = .ok (.ireturn, 1) := by decide +kernel
theorem dX8_side_0 : decode cX8_side 0 = .ok (.iload_n 1, 1) := by decide +kernel
theorem dX8_side_1 : decode cX8_side 1 = .ok (.invokestatic 205, 3) := by decide +kernel
theorem dX8_side_4 : decode cX8_side 4 = .ok (.ifCond .eq 20, 3) := by decide +kernel
theorem dX8_side_7 : decode cX8_side 7 = .ok (.iload_n 2, 1) := by decide +kernel
theorem dX8_side_8 : decode cX8_side 8 = .ok (.iload_n 3, 1) := by decide +kernel
theorem dX8_side_9 : decode cX8_side 9 = .ok (.invokestatic 208, 3) := by decide +kernel
theorem dX8_side_12 : decode cX8_side 12 = .ok (.ifCond .eq 12, 3) := by decide +kernel
theorem dX8_side_15 : decode cX8_side 15 = .ok (.iload_n 1, 1) := by decide +kernel
theorem dX8_side_16 : decode cX8_side 16 = .ok (.iload_n 2, 1) := by decide +kernel
theorem dX8_side_17 : decode cX8_side 17 = .ok (.iload_n 3, 1) := by decide +kernel
theorem dX8_side_18 : decode cX8_side 18 = .ok (.invokestatic 211, 3) := by decide +kernel
theorem dX8_side_21 : decode cX8_side 21 = .ok (.goto 4, 3) := by decide +kernel
theorem dX8_side_24 : decode cX8_side 24 = .ok (.iconst (-1), 1) := by decide +kernel
theorem dX8_side_25 : decode cX8_side 25 = .ok (.ireturn, 1) := by decide +kernel
theorem dX8_corner_0 : decode cX8_corner 0 = .ok (.iload_n 1, 1) := by decide +kernel
theorem dX8_corner_1 : decode cX8_corner 1 = .ok (.invokestatic 205, 3) := by decide +kernel
theorem dX8_corner_4 : decode cX8_corner 4 = .ok (.ifCond .eq 19, 3) := by decide +kernel
theorem dX8_corner_7 : decode cX8_corner 7 = .ok (.iload_n 2, 1) := by decide +kernel
theorem dX8_corner_8 : decode cX8_corner 8 = .ok (.invokestatic 205, 3) := by decide +kernel
theorem dX8_corner_11 : decode cX8_corner 11 = .ok (.ifCond .eq 12, 3) := by decide +kernel
theorem dX8_corner_14 : decode cX8_corner 14 = .ok (.iload_n 3, 1) := by decide +kernel
theorem dX8_corner_15 : decode cX8_corner 15 = .ok (.iload 4, 2) := by decide +kernel
theorem dX8_corner_17 : decode cX8_corner 17 = .ok (.invokestatic 208, 3) := by decide +kernel
theorem dX8_corner_20 : decode cX8_corner 20 = .ok (.ifCond .ne 5, 3) := by decide +kernel
theorem dX8_corner_23 : decode cX8_corner 23 = .ok (.iconst (-1), 1) := by decide +kernel
theorem dX8_corner_24 : decode cX8_corner 24 = .ok (.ireturn, 1) := by decide +kernel
theorem dX8_corner_25 : decode cX8_corner 25 = .ok (.iload_n 1, 1) := by decide +kernel
theorem dX8_corner_26 : decode cX8_corner 26 = .ok (.iload_n 3, 1) := by decide +kernel
theorem dX8_corner_27 : decode cX8_corner 27 = .ok (.iload 4, 2) := by decide +kernel
theorem dX8_corner_29 : decode cX8_corner 29 = .ok (.invokestatic 211, 3) := by decide +kernel
theorem dX8_corner_32 : decode cX8_corner 32 = .ok (.istore 5, 2) := by decide +kernel
theorem dX8_corner_34 : decode cX8_corner 34 = .ok (.iload_n 2, 1) := by decide +kernel
theorem dX8_corner_35 : decode cX8_corner 35 = .ok (.iload_n 3, 1) := by decide +kernel
theorem dX8_corner_36 : decode cX8_corner 36 = .ok (.iload 4, 2) := by decide +kernel
theorem dX8_corner_38 : decode cX8_corner 38 = .ok (.invokestatic 211, 3) := by decide +kernel
theorem dX8_corner_41 : decode cX8_corner 41 = .ok (.istore 6, 2) := by decide +kernel
