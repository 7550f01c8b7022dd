theorem dX8_corner_43 : decode cX8_corner 43 = .ok (.iload 5, 2) := by decide +kernel
theorem dX8_corner_45 : decode cX8_corner 45 = .ok (.ifCond .lt 8, 3) := by decide +kernel
theorem dX8_corner_48 : decode cX8_corner 48 = .ok (.iload 6, 2) := by decide +kernel
theorem dX8_corner_50 : decode cX8_corner 50 = .ok (.ifCond .ge 6, 3) := by decide +kernel
theorem dX8_corner_53 : decode cX8_corner 53 = .ok (.bipush (-4), 2) := by decide +kernel
theorem dX8_corner_55 : decode cX8_corner 55 = .ok (.ireturn, 1) := by decide +kernel
theorem dX8_corner_56 : decode cX8_corner 56 = .ok (.iload 5, 2) := by decide +kernel
theorem dX8_corner_58 : decode cX8_corner 58 = .ok (.iload 6, 2) := by decide +kernel
theorem dX8_corner_60 : decode cX8_corner 60 = .ok (.invokestatic 214, 3) := by decide +kernel
theorem dX8_corner_63 : decode cX8_corner 63 = .ok (.ifCond .eq 7, 3) := by decide +kernel
theorem dX8_corner_66 : decode cX8_corner 66 = .ok (.iconst 1, 1) := by decide +kernel
theorem dX8_corner_67 : decode cX8_corner 67 = .ok (.goto 4, 3) := by decide +kernel
theorem dX8_corner_70 : decode cX8_corner 70 = .ok (.iconst 0, 1) := by decide +kernel
theorem dX8_corner_71 : decode cX8_corner 71 = .ok (.ireturn, 1) := by decide +kernel
theorem dX8_fits_0 : decode cX8_fits 0 = .ok (.iload_n 1, 1) := by decide +kernel
theorem dX8_fits_1 : decode cX8_fits 1 = .ok (.invokestatic 205, 3) := by decide +kernel
theorem dX8_fits_4 : decode cX8_fits 4 = .ok (.ifCond .eq 11, 3) := by decide +kernel
theorem dX8_fits_7 : decode cX8_fits 7 = .ok (.iload_n 2, 1) := by decide +kernel
theorem dX8_fits_8 : decode cX8_fits 8 = .ok (.iload_n 3, 1) := by decide +kernel
theorem dX8_fits_9 : decode cX8_fits 9 = .ok (.invokestatic 208, 3) := by decide +kernel
theorem dX8_fits_12 : decode cX8_fits 12 = .ok (.ifCond .ne 5, 3) := by decide +kernel
theorem dX8_fits_15 : decode cX8_fits 15 = .ok (.iconst (-1), 1) := by decide +kernel
theorem dX8_fits_16 : decode cX8_fits 16 = .ok (.ireturn, 1) := by decide +kernel
theorem dX8_fits_17 : decode cX8_fits 17 = .ok (.iload_n 1, 1) := by decide +kernel
theorem dX8_fits_18 : decode cX8_fits 18 = .ok (.istore 4, 2) := by decide +kernel
theorem dX8_fits_20 : decode cX8_fits 20 = .ok (.iload 4, 2) := by decide +kernel
theorem dX8_fits_22 : decode cX8_fits 22 = .ok (.sipush 400, 3) := by decide +kernel
theorem dX8_fits_25 : decode cX8_fits 25 = .ok (.if_icmp .gt 36, 3) := by decide +kernel
theorem dX8_fits_28 : decode cX8_fits 28 = .ok (.iload 4, 2) := by decide +kernel
theorem dX8_fits_30 : decode cX8_fits 30 = .ok (.iload_n 2, 1) := by decide +kernel
theorem dX8_fits_31 : decode cX8_fits 31 = .ok (.iload_n 3, 1) := by decide +kernel
theorem dX8_fits_32 : decode cX8_fits 32 = .ok (.invokestatic 211, 3) := by decide +kernel
theorem dX8_fits_35 : decode cX8_fits 35 = .ok (.istore 5, 2) := by decide +kernel
theorem dX8_fits_37 : decode cX8_fits 37 = .ok (.iload 5, 2) := by decide +kernel
theorem dX8_fits_39 : decode cX8_fits 39 = .ok (.ifCond .lt 16, 3) := by decide +kernel
theorem dX8_fits_42 : decode cX8_fits 42 = .ok (.iload 5, 2) := by decide +kernel
theorem dX8_fits_44 : decode cX8_fits 44 = .ok (.iload 5, 2) := by decide +kernel
theorem dX8_fits_46 : decode cX8_fits 46 = .ok (.invokestatic 214, 3) := by decide +kernel
theorem dX8_fits_49 : decode cX8_fits 49 = .ok (.ifCond .eq 6, 3) := by decide +kernel
theorem dX8_fits_52 : decode cX8_fits 52 = .ok (.iload 4, 2) := by decide +kernel
theorem dX8_fits_54 : decode cX8_fits 54 = .ok (.ireturn, 1) := by decide +kernel
theorem dX8_fits_55 : decode cX8_fits 55 = .ok (.iinc 4 1, 3) := by decide +kernel
theorem dX8_fits_58 : decode cX8_fits 58 = .ok (.goto (-38), 3) := by decide +kernel
theorem dX8_fits_61 : decode cX8_fits 61 = .ok (.bipush (-4), 2) := by decide +kernel
theorem dX8_fits_63 : decode cX8_fits 63 = .ok (.ireturn, 1) := by decide +kernel
theorem dX8_village_0 : decode cX8_village 0 = .ok (.iload_n 1, 1) := by decide +kernel
theorem dX8_village_1 : decode cX8_village 1 = .ok (.iconst 0, 1) := by decide +kernel
theorem dX8_village_2 : decode cX8_village 2 = .ok (.sipush 255, 3) := by decide +kernel
theorem dX8_village_5 : decode cX8_village 5 = .ok (.invokestatic 74, 3) := by decide +kernel
theorem dX8_village_8 : decode cX8_village 8 = .ok (.ifCond .eq 14, 3) := by decide +kernel
theorem dX8_village_11 : decode cX8_village 11 = .ok (.aload_n 0, 1) := by decide +kernel
theorem dX8_village_12 : decode cX8_village 12 = .ok (.getfield 40, 3) := by decide +kernel
theorem dX8_village_15 : decode cX8_village 15 = .ok (.iload_n 1, 1) := by decide +kernel
theorem dX8_village_16 : decode cX8_village 16 = .ok (.invokevirtual 217, 3) := by decide +kernel
theorem dX8_village_19 : decode cX8_village 19 = .ok (.goto 4, 3) := by decide +kernel
theorem dX8_village_22 : decode cX8_village 22 = .ok (.iconst (-1), 1) := by decide +kernel
theorem dX8_village_23 : decode cX8_village 23 = .ok (.ireturn, 1) := by decide +kernel
theorem dX8_tree_0 : decode cX8_tree 0 = .ok (.aload_n 0, 1) := by decide +kernel
theorem dX8_tree_1 : decode cX8_tree 1 = .ok (.getfield 40, 3) := by decide +kernel
theorem dX8_tree_4 : decode cX8_tree 4 = .ok (.getfield 220, 3) := by decide +kernel
theorem dX8_tree_7 : decode cX8_tree 7 = .ok (.ifCond .ne 8, 3) := by decide +kernel
theorem dX8_tree_10 : decode cX8_tree 10 = .ok (.bipush (-3), 2) := by decide +kernel
theorem dX8_tree_12 : decode cX8_tree 12 = .ok (.goto 10, 3) := by decide +kernel
theorem dX8_tree_15 : decode cX8_tree 15 = .ok (.aload_n 0, 1) := by decide +kernel
theorem dX8_tree_16 : decode cX8_tree 16 = .ok (.getfield 40, 3) := by decide +kernel
theorem dX8_tree_19 : decode cX8_tree 19 = .ok (.getfield 223, 3) := by decide +kernel
theorem dX8_tree_22 : decode cX8_tree 22 = .ok (.ireturn, 1) := by decide +kernel
theorem dX8_link_0 : decode cX8_link 0 = .ok (.iload_n 1, 1) := by decide +kernel
theorem dX8_link_1 : decode cX8_link 1 = .ok (.ifCond .ge 5, 3) := by decide +kernel
theorem dX8_link_4 : decode cX8_link 4 = .ok (.iconst (-1), 1) := by decide +kernel
theorem dX8_link_5 : decode cX8_link 5 = .ok (.ireturn, 1) := by decide +kernel
theorem dX8_link_6 : decode cX8_link 6 = .ok (.iload_n 1, 1) := by decide +kernel
theorem dX8_link_7 : decode cX8_link 7 = .ok (.aload_n 0, 1) := by decide +kernel
theorem dX8_link_8 : decode cX8_link 8 = .ok (.getfield 40, 3) := by decide +kernel
theorem dX8_link_11 : decode cX8_link 11 = .ok (.getfield 226, 3) := by decide +kernel
theorem dX8_link_14 : decode cX8_link 14 = .ok (.if_icmp .ge 15, 3) := by decide +kernel
theorem dX8_link_17 : decode cX8_link 17 = .ok (.aload_n 0, 1) := by decide +kernel
theorem dX8_link_18 : decode cX8_link 18 = .ok (.getfield 40, 3) := by decide +kernel
theorem dX8_link_21 : decode cX8_link 21 = .ok (.getfield 229, 3) := by decide +kernel
theorem dX8_link_24 : decode cX8_link 24 = .ok (.iload_n 1, 1) := by decide +kernel
theorem dX8_link_25 : decode cX8_link 25 = .ok (.iaload, 1) := by decide +kernel
theorem dX8_link_26 : decode cX8_link 26 = .ok (.goto 5, 3) := by decide +kernel
theorem dX8_link_29 : decode cX8_link 29 = .ok (.bipush (-3), 2) := by decide +kernel
theorem dX8_link_31 : decode cX8_link 31 = .ok (.ireturn, 1) := by decide +kernel
theorem dX8_rivals_0 : decode cX8_rivals 0 = .ok (.aload_n 0, 1) := by decide +kernel
theorem dX8_rivals_1 : decode cX8_rivals 1 = .ok (.getfield 40, 3) := by decide +kernel
theorem dX8_rivals_4 : decode cX8_rivals 4 = .ok (.getfield 220, 3) := by decide +kernel
theorem dX8_rivals_7 : decode cX8_rivals 7 = .ok (.ifCond .ne 6, 3) := by decide +kernel
theorem dX8_rivals_10 : decode cX8_rivals 10 = .ok (.bipush (-3), 2) := by decide +kernel
theorem dX8_rivals_12 : decode cX8_rivals 12 = .ok (.ireturn, 1) := by decide +kernel
theorem dX8_rivals_13 : decode cX8_rivals 13 = .ok (.aload_n 0, 1) := by decide +kernel
theorem dX8_rivals_14 : decode cX8_rivals 14 = .ok (.getfield 40, 3) := by decide +kernel
theorem dX8_rivals_17 : decode cX8_rivals 17 = .ok (.getfield 220, 3) := by decide +kernel
theorem dX8_rivals_20 : decode cX8_rivals 20 = .ok (.bipush 6, 2) := by decide +kernel
theorem dX8_rivals_22 : decode cX8_rivals 22 = .ok (.if_icmp .le 8, 3) := by decide +kernel
theorem dX8_rivals_25 : decode cX8_rivals 25 = .ok (.bipush (-5), 2) := by decide +kernel
theorem dX8_rivals_27 : decode cX8_rivals 27 = .ok (.goto 10, 3) := by decide +kernel
theorem dX8_rivals_30 : decode cX8_rivals 30 = .ok (.aload_n 0, 1) := by decide +kernel
theorem dX8_rivals_31 : decode cX8_rivals 31 = .ok (.getfield 40, 3) := by decide +kernel
theorem dX8_rivals_34 : decode cX8_rivals 34 = .ok (.invokevirtual 233, 3) := by decide +kernel
theorem dX8_rivals_37 : decode cX8_rivals 37 = .ok (.ireturn, 1) := by decide +kernel
theorem dX8_count_0 : decode cX8_count 0 = .ok (.iload_n 1, 1) := by decide +kernel
theorem dX8_count_1 : decode cX8_count 1 = .ok (.tableswitch 84 0 5 #[39, 47, 55, 63, 71, 76], 39) := by decide +kernel
theorem dX8_count_40 : decode cX8_count 40 = .ok (.aload_n 0, 1) := by decide +kernel
theorem dX8_count_41 : decode cX8_count 41 = .ok (.getfield 33, 3) := by decide +kernel
theorem dX8_count_44 : decode cX8_count 44 = .ok (.invokevirtual 124, 3) := by decide +kernel
theorem dX8_count_47 : decode cX8_count 47 = .ok (.ireturn, 1) := by decide +kernel
theorem dX8_count_48 : decode cX8_count 48 = .ok (.aload_n 0, 1) := by decide +kernel
theorem dX8_count_49 : decode cX8_count 49 = .ok (.getfield 24, 3) := by decide +kernel
theorem dX8_count_52 : decode cX8_count 52 = .ok (.getfield 130, 3) := by decide +kernel
theorem dX8_count_55 : decode cX8_count 55 = .ok (.ireturn, 1) := by decide +kernel
theorem dX8_count_56 : decode cX8_count 56 = .ok (.aload_n 0, 1) := by decide +kernel
theorem dX8_count_57 : decode cX8_count 57 = .ok (.getfield 24, 3) := by decide +kernel
theorem dX8_count_60 : decode cX8_count 60 = .ok (.invokevirtual 236, 3) := by decide +kernel
theorem dX8_count_63 : decode cX8_count 63 = .ok (.ireturn, 1) := by decide +kernel
theorem dX8_count_64 : decode cX8_count 64 = .ok (.aload_n 0, 1) := by decide +kernel
theorem dX8_count_65 : decode cX8_count 65 = .ok (.getfield 40, 3) := by decide +kernel
theorem dX8_count_68 : decode cX8_count 68 = .ok (.getfield 220, 3) := by decide +kernel
theorem dX8_count_71 : decode cX8_count 71 = .ok (.ireturn, 1) := by decide +kernel
theorem dX8_count_72 : decode cX8_count 72 = .ok (.aload_n 0, 1) := by decide +kernel
theorem dX8_count_73 : decode cX8_count 73 = .ok (.getfield 15, 3) := by decide +kernel
theorem dX8_count_76 : decode cX8_count 76 = .ok (.ireturn, 1) := by decide +kernel
theorem dX8_count_77 : decode cX8_count 77 = .ok (.aload_n 0, 1) := by decide +kernel
theorem dX8_count_78 : decode cX8_count 78 = .ok (.getfield 24, 3) := by decide +kernel
theorem dX8_count_81 : decode cX8_count 81 = .ok (.invokevirtual 239, 3) := by decide +kernel
theorem dX8_count_84 : decode cX8_count 84 = .ok (.ireturn, 1) := by decide +kernel
theorem dX8_count_85 : decode cX8_count 85 = .ok (.iconst (-1), 1) := by decide +kernel
theorem dX8_count_86 : decode cX8_count 86 = .ok (.ireturn, 1) := by decide +kernel
theorem dX8_keep_0 : decode cX8_keep 0 = .ok (.iload_n 1, 1) := by decide +kernel
theorem dX8_keep_1 : decode cX8_keep 1 = .ok (.invokestatic 242, 3) := by decide +kernel
theorem dX8_keep_4 : decode cX8_keep 4 = .ok (.ifCond .ne 5, 3) := by decide +kernel
theorem dX8_keep_7 : decode cX8_keep 7 = .ok (.iconst (-1), 1) := by decide +kernel
theorem dX8_keep_8 : decode cX8_keep 8 = .ok (.ireturn, 1) := by decide +kernel
theorem dX8_keep_9 : decode cX8_keep 9 = .ok (.iload_n 2, 1) := by decide +kernel
theorem dX8_keep_10 : decode cX8_keep 10 = .ok (.tableswitch 82 0 4 #[34, 45, 82, 59, 71], 34) := by decide +kernel
theorem dX8_keep_44 : decode cX8_keep 44 = .ok (.aload_n 0, 1) := by decide +kernel
theorem dX8_keep_45 : decode cX8_keep 45 = .ok (.getfield 46, 3) := by decide +kernel
theorem dX8_keep_48 : decode cX8_keep 48 = .ok (.iload_n 1, 1) := by decide +kernel
theorem dX8_keep_49 : decode cX8_keep 49 = .ok (.aaload, 1) := by decide +kernel
theorem dX8_keep_50 : decode cX8_keep 50 = .ok (.invokevirtual 245, 3) := by decide +kernel
theorem dX8_keep_53 : decode cX8_keep 53 = .ok (.iconst 0, 1) := by decide +kernel
theorem dX8_keep_54 : decode cX8_keep 54 = .ok (.ireturn, 1) := by decide +kernel
theorem dX8_keep_55 : decode cX8_keep 55 = .ok (.aload_n 0, 1) := by decide +kernel
theorem dX8_keep_56 : decode cX8_keep 56 = .ok (.aload_n 0, 1) := by decide +kernel
theorem dX8_keep_57 : decode cX8_keep 57 = .ok (.getfield 46, 3) := by decide +kernel
theorem dX8_keep_60 : decode cX8_keep 60 = .ok (.iload_n 1, 1) := by decide +kernel
theorem dX8_keep_61 : decode cX8_keep 61 = .ok (.aaload, 1) := by decide +kernel
theorem dX8_keep_62 : decode cX8_keep 62 = .ok (.iload_n 3, 1) := by decide +kernel
theorem dX8_keep_63 : decode cX8_keep 63 = .ok (.iload 4, 2) := by decide +kernel
theorem dX8_keep_65 : decode cX8_keep 65 = .ok (.invokevirtual 248, 3) := by decide +kernel
theorem dX8_keep_68 : decode cX8_keep 68 = .ok (.ireturn, 1) := by decide +kernel
theorem dX8_keep_69 : decode cX8_keep 69 = .ok (.aload_n 0, 1) := by decide +kernel
theorem dX8_keep_70 : decode cX8_keep 70 = .ok (.aload_n 0, 1) := by decide +kernel
theorem dX8_keep_71 : decode cX8_keep 71 = .ok (.getfield 46, 3) := by decide +kernel
theorem dX8_keep_74 : decode cX8_keep 74 = .ok (.iload_n 1, 1) := by decide +kernel
theorem dX8_keep_75 : decode cX8_keep 75 = .ok (.aaload, 1) := by decide +kernel
theorem dX8_keep_76 : decode cX8_keep 76 = .ok (.iload_n 3, 1) := by decide +kernel
theorem dX8_keep_77 : decode cX8_keep 77 = .ok (.invokevirtual 252, 3) := by decide +kernel
theorem dX8_keep_80 : decode cX8_keep 80 = .ok (.ireturn, 1) := by decide +kernel
theorem dX8_keep_81 : decode cX8_keep 81 = .ok (.aload_n 0, 1) := by decide +kernel
theorem dX8_keep_82 : decode cX8_keep 82 = .ok (.aload_n 0, 1) := by decide +kernel
theorem dX8_keep_83 : decode cX8_keep 83 = .ok (.getfield 46, 3) := by decide +kernel
theorem dX8_keep_86 : decode cX8_keep 86 = .ok (.iload_n 1, 1) := by decide +kernel
theorem dX8_keep_87 : decode cX8_keep 87 = .ok (.aaload, 1) := by decide +kernel
theorem dX8_keep_88 : decode cX8_keep 88 = .ok (.invokevirtual 256, 3) := by decide +kernel
theorem dX8_keep_91 : decode cX8_keep 91 = .ok (.ireturn, 1) := by decide +kernel
theorem dX8_keep_92 : decode cX8_keep 92 = .ok (.iconst (-1), 1) := by decide +kernel
theorem dX8_keep_93 : decode cX8_keep 93 = .ok (.ireturn, 1) := by decide +kernel
theorem dX8_make_0 : decode cX8_make 0 = .ok (.iload_n 1, 1) := by decide +kernel
theorem dX8_make_1 : decode cX8_make 1 = .ok (.invokestatic 242, 3) := by decide +kernel
theorem dX8_make_4 : decode cX8_make 4 = .ok (.ifCond .eq 19, 3) := by decide +kernel
theorem dX8_make_7 : decode cX8_make 7 = .ok (.iload_n 2, 1) := by decide +kernel
theorem dX8_make_8 : decode cX8_make 8 = .ok (.iconst 3, 1) := by decide +kernel
theorem dX8_make_9 : decode cX8_make 9 = .ok (.if_icmp .eq 8, 3) := by decide +kernel
theorem dX8_make_12 : decode cX8_make 12 = .ok (.iload_n 2, 1) := by decide +kernel
theorem dX8_make_13 : decode cX8_make 13 = .ok (.iconst 4, 1) := by decide +kernel
theorem dX8_make_14 : decode cX8_make 14 = .ok (.if_icmp .ne 9, 3) := by decide +kernel
theorem dX8_make_17 : decode cX8_make 17 = .ok (.iload_n 3, 1) := by decide +kernel
theorem dX8_make_18 : decode cX8_make 18 = .ok (.bipush 60, 2) := by decide +kernel
theorem dX8_make_20 : decode cX8_make 20 = .ok (.if_icmp .le 5, 3) := by decide +kernel
theorem dX8_make_23 : decode cX8_make 23 = .ok (.iconst (-1), 1) := by decide +kernel
theorem dX8_make_24 : decode cX8_make 24 = .ok (.ireturn, 1) := by decide +kernel
theorem dX8_make_25 : decode cX8_make 25 = .ok (.iload_n 3, 1) := by decide +kernel
theorem dX8_make_26 : decode cX8_make 26 = .ok (.ifCond .ge 6, 3) := by decide +kernel
theorem dX8_make_29 : decode cX8_make 29 = .ok (.bipush (-14), 2) := by decide +kernel
theorem dX8_make_31 : decode cX8_make 31 = .ok (.ireturn, 1) := by decide +kernel
theorem dX8_make_32 : decode cX8_make 32 = .ok (.aload_n 0, 1) := by decide +kernel
theorem dX8_make_33 : decode cX8_make 33 = .ok (.getfield 46, 3) := by decide +kernel
theorem dX8_make_36 : decode cX8_make 36 = .ok (.iload_n 1, 1) := by decide +kernel
theorem dX8_make_37 : decode cX8_make 37 = .ok (.aaload, 1) := by decide +kernel
theorem dX8_make_38 : decode cX8_make 38 = .ok (.iload_n 2, 1) := by decide +kernel
theorem dX8_make_39 : decode cX8_make 39 = .ok (.iload_n 3, 1) := by decide +kernel
theorem dX8_make_40 : decode cX8_make 40 = .ok (.invokevirtual 260, 3) := by decide +kernel
theorem dX8_make_43 : decode cX8_make 43 = .ok (.iconst 0, 1) := by decide +kernel
theorem dX8_make_44 : decode cX8_make 44 = .ok (.ireturn, 1) := by decide +kernel
theorem dX8_element_0 : decode cX8_element 0 = .ok (.iload_n 1, 1) := by decide +kernel
theorem dX8_element_1 : decode cX8_element 1 = .ok (.invokestatic 242, 3) := by decide +kernel
theorem dX8_element_4 : decode cX8_element 4 = .ok (.ifCond .ne 14, 3) := by decide +kernel
theorem dX8_element_7 : decode cX8_element 7 = .ok (.new 264, 3) := by decide +kernel
theorem dX8_element_10 : decode cX8_element 10 = .ok (.dup, 1) := by decide +kernel
theorem dX8_element_11 : decode cX8_element 11 = .ok (.ldc_w 266, 3) := by decide +kernel
theorem dX8_element_14 : decode cX8_element 14 = .ok (.invokespecial 268, 3) := by decide +kernel
theorem dX8_element_17 : decode cX8_element 17 = .ok (.athrow, 1) := by decide +kernel
theorem dX8_element_18 : decode cX8_element 18 = .ok (.aload_n 0, 1) := by decide +kernel
theorem dX8_element_19 : decode cX8_element 19 = .ok (.getfield 46, 3) := by decide +kernel
theorem dX8_element_22 : decode cX8_element 22 = .ok (.iload_n 1, 1) := by decide +kernel
theorem dX8_element_23 : decode cX8_element 23 = .ok (.aaload, 1) := by decide +kernel
theorem dX8_element_24 : decode cX8_element 24 = .ok (.astore_n 3, 1) := by decide +kernel
theorem dX8_element_25 : decode cX8_element 25 = .ok (.aload_n 3, 1) := by decide +kernel
theorem dX8_element_26 : decode cX8_element 26 = .ok (.invokevirtual 271, 3) := by decide +kernel
theorem dX8_element_29 : decode cX8_element 29 = .ok (.ifCond .eq 17, 3) := by decide +kernel
theorem dX8_element_32 : decode cX8_element 32 = .ok (.iload_n 2, 1) := by decide +kernel
theorem dX8_element_33 : decode cX8_element 33 = .ok (.iconst 0, 1) := by decide +kernel
theorem dX8_element_34 : decode cX8_element 34 = .ok (.aload_n 3, 1) := by decide +kernel
theorem dX8_element_35 : decode cX8_element 35 = .ok (.getfield 274, 3) := by decide +kernel
theorem dX8_element_38 : decode cX8_element 38 = .ok (.iconst 1, 1) := by decide +kernel
theorem dX8_element_39 : decode cX8_element 39 = .ok (.isub, 1) := by decide +kernel
theorem dX8_element_40 : decode cX8_element 40 = .ok (.invokestatic 74, 3) := by decide +kernel
theorem dX8_element_43 : decode cX8_element 43 = .ok (.ifCond .ne 14, 3) := by decide +kernel
theorem dX8_element_46 : decode cX8_element 46 = .ok (.new 277, 3) := by decide +kernel
theorem dX8_element_49 : decode cX8_element 49 = .ok (.dup, 1) := by decide +kernel
theorem dX8_element_50 : decode cX8_element 50 = .ok (.ldc_w 279, 3) := by decide +kernel
theorem dX8_element_53 : decode cX8_element 53 = .ok (.invokespecial 281, 3) := by decide +kernel
theorem dX8_element_56 : decode cX8_element 56 = .ok (.athrow, 1) := by decide +kernel
theorem dX8_element_57 : decode cX8_element 57 = .ok (.aload_n 3, 1) := by decide +kernel
theorem dX8_element_58 : decode cX8_element 58 = .ok (.getfield 282, 3) := by decide +kernel
theorem dX8_element_61 : decode cX8_element 61 = .ok (.iload_n 2, 1) := by decide +kernel
theorem dX8_element_62 : decode cX8_element 62 = .ok (.saload, 1) := by decide +kernel
theorem dX8_element_63 : decode cX8_element 63 = .ok (.i2l, 1) := by decide +kernel
theorem dX8_element_64 : decode cX8_element 64 = .ok (.lreturn, 1) := by decide +kernel
theorem dX8_copy_0 : decode cX8_copy 0 = .ok (.iload_n 1, 1) := by decide +kernel
theorem dX8_copy_1 : decode cX8_copy 1 = .ok (.invokestatic 242, 3) := by decide +kernel
theorem dX8_copy_4 : decode cX8_copy 4 = .ok (.ifCond .eq 10, 3) := by decide +kernel
theorem dX8_copy_7 : decode cX8_copy 7 = .ok (.iload_n 3, 1) := by decide +kernel
theorem dX8_copy_8 : decode cX8_copy 8 = .ok (.invokestatic 242, 3) := by decide +kernel
theorem dX8_copy_11 : decode cX8_copy 11 = .ok (.ifCond .ne 5, 3) := by decide +kernel
theorem dX8_copy_14 : decode cX8_copy 14 = .ok (.iconst (-1), 1) := by decide +kernel
theorem dX8_copy_15 : decode cX8_copy 15 = .ok (.ireturn, 1) := by decide +kernel
theorem dX8_copy_16 : decode cX8_copy 16 = .ok (.aload_n 0, 1) := by decide +kernel
theorem dX8_copy_17 : decode cX8_copy 17 = .ok (.getfield 46, 3) := by decide +kernel
theorem dX8_copy_20 : decode cX8_copy 20 = .ok (.iload_n 1, 1) := by decide +kernel
theorem dX8_copy_21 : decode cX8_copy 21 = .ok (.aaload, 1) := by decide +kernel
theorem dX8_copy_22 : decode cX8_copy 22 = .ok (.astore 6, 2) := by decide +kernel
theorem dX8_copy_24 : decode cX8_copy 24 = .ok (.aload_n 0, 1) := by decide +kernel
theorem dX8_copy_25 : decode cX8_copy 25 = .ok (.getfield 46, 3) := by decide +kernel
theorem dX8_copy_28 : decode cX8_copy 28 = .ok (.iload_n 3, 1) := by decide +kernel
theorem dX8_copy_29 : decode cX8_copy 29 = .ok (.aaload, 1) := by decide +kernel
theorem dX8_copy_30 : decode cX8_copy 30 = .ok (.astore 7, 2) := by decide +kernel
theorem dX8_copy_32 : decode cX8_copy 32 = .ok (.aload 6, 2) := by decide +kernel
theorem dX8_copy_34 : decode cX8_copy 34 = .ok (.getfield 286, 3) := by decide +kernel
theorem dX8_copy_37 : decode cX8_copy 37 = .ok (.ifCond .eq 11, 3) := by decide +kernel
theorem dX8_copy_40 : decode cX8_copy 40 = .ok (.aload 7, 2) := by decide +kernel
theorem dX8_copy_42 : decode cX8_copy 42 = .ok (.getfield 286, 3) := by decide +kernel
theorem dX8_copy_45 : decode cX8_copy 45 = .ok (.ifCond .ne 6, 3) := by decide +kernel
theorem dX8_copy_48 : decode cX8_copy 48 = .ok (.bipush (-11), 2) := by decide +kernel
theorem dX8_copy_50 : decode cX8_copy 50 = .ok (.ireturn, 1) := by decide +kernel
theorem dX8_copy_51 : decode cX8_copy 51 = .ok (.aload 6, 2) := by decide +kernel
theorem dX8_copy_53 : decode cX8_copy 53 = .ok (.invokevirtual 271, 3) := by decide +kernel
theorem dX8_copy_56 : decode cX8_copy 56 = .ok (.ifCond .eq 16, 3) := by decide +kernel
theorem dX8_copy_59 : decode cX8_copy 59 = .ok (.aload 6, 2) := by decide +kernel
theorem dX8_copy_61 : decode cX8_copy 61 = .ok (.getfield 286, 3) := by decide +kernel
theorem dX8_copy_64 : decode cX8_copy 64 = .ok (.aload 7, 2) := by decide +kernel
theorem dX8_copy_66 : decode cX8_copy 66 = .ok (.getfield 286, 3) := by decide +kernel
theorem dX8_copy_69 : decode cX8_copy 69 = .ok (.if_icmp .eq 6, 3) := by decide +kernel
theorem dX8_copy_72 : decode cX8_copy 72 = .ok (.bipush (-12), 2) := by decide +kernel
theorem dX8_copy_74 : decode cX8_copy 74 = .ok (.ireturn, 1) := by decide +kernel
theorem dX8_copy_75 : decode cX8_copy 75 = .ok (.aload 6, 2) := by decide +kernel
theorem dX8_copy_77 : decode cX8_copy 77 = .ok (.iload_n 2, 1) := by decide +kernel
theorem dX8_copy_78 : decode cX8_copy 78 = .ok (.iload 5, 2) := by decide +kernel
theorem dX8_copy_80 : decode cX8_copy 80 = .ok (.invokevirtual 287, 3) := by decide +kernel
theorem dX8_copy_83 : decode cX8_copy 83 = .ok (.ifCond .eq 15, 3) := by decide +kernel
theorem dX8_copy_86 : decode cX8_copy 86 = .ok (.aload 7, 2) := by decide +kernel
theorem dX8_copy_88 : decode cX8_copy 88 = .ok (.iload 4, 2) := by decide +kernel
theorem dX8_copy_90 : decode cX8_copy 90 = .ok (.iload 5, 2) := by decide +kernel
theorem dX8_copy_92 : decode cX8_copy 92 = .ok (.invokevirtual 287, 3) := by decide +kernel
theorem dX8_copy_95 : decode cX8_copy 95 = .ok (.ifCond .ne 6, 3) := by decide +kernel
theorem dX8_copy_98 : decode cX8_copy 98 = .ok (.bipush (-13), 2) := by decide +kernel
theorem dX8_copy_100 : decode cX8_copy 100 = .ok (.ireturn, 1) := by decide +kernel
theorem dX8_copy_101 : decode cX8_copy 101 = .ok (.aload 6, 2) := by decide +kernel
theorem dX8_copy_103 : decode cX8_copy 103 = .ok (.getfield 282, 3) := by decide +kernel
theorem dX8_copy_106 : decode cX8_copy 106 = .ok (.iload_n 2, 1) := by decide +kernel
theorem dX8_copy_107 : decode cX8_copy 107 = .ok (.aload 7, 2) := by decide +kernel
theorem dX8_copy_109 : decode cX8_copy 109 = .ok (.getfield 282, 3) := by decide +kernel
theorem dX8_copy_112 : decode cX8_copy 112 = .ok (.iload 4, 2) := by decide +kernel
theorem dX8_copy_114 : decode cX8_copy 114 = .ok (.iload 5, 2) := by decide +kernel
theorem dX8_copy_116 : decode cX8_copy 116 = .ok (.invokestatic 290, 3) := by decide +kernel
theorem dX8_copy_119 : decode cX8_copy 119 = .ok (.iload 5, 2) := by decide +kernel
theorem dX8_copy_121 : decode cX8_copy 121 = .ok (.ireturn, 1) := by decide +kernel
theorem dX8_weight_0 : decode cX8_weight 0 = .ok (.aload_n 0, 1) := by decide +kernel
theorem dX8_weight_1 : decode cX8_weight 1 = .ok (.iload_n 1, 1) := by decide +kernel
theorem dX8_weight_2 : decode cX8_weight 2 = .ok (.invokevirtual 296, 3) := by decide +kernel
theorem dX8_weight_5 : decode cX8_weight 5 = .ok (.astore_n 2, 1) := by decide +kernel
theorem dX8_weight_6 : decode cX8_weight 6 = .ok (.aload_n 2, 1) := by decide +kernel
theorem dX8_weight_7 : decode cX8_weight 7 = .ok (.ifnonnull 11, 3) := by decide +kernel
theorem dX8_weight_10 : decode cX8_weight 10 = .ok (.aload_n 0, 1) := by decide +kernel
theorem dX8_weight_11 : decode cX8_weight 11 = .ok (.iload_n 1, 1) := by decide +kernel
theorem dX8_weight_12 : decode cX8_weight 12 = .ok (.invokevirtual 300, 3) := by decide +kernel
theorem dX8_weight_15 : decode cX8_weight 15 = .ok (.goto 7, 3) := by decide +kernel
theorem dX8_weight_18 : decode cX8_weight 18 = .ok (.aload_n 2, 1) := by decide +kernel
theorem dX8_weight_19 : decode cX8_weight 19 = .ok (.invokevirtual 303, 3) := by decide +kernel
theorem dX8_weight_22 : decode cX8_weight 22 = .ok (.ireturn, 1) := by decide +kernel
theorem dX8_toss_0 : decode cX8_toss 0 = .ok (.aload_n 0, 1) := by decide +kernel
theorem dX8_toss_1 : decode cX8_toss 1 = .ok (.iload_n 1, 1) := by decide +kernel
theorem dX8_toss_2 : decode cX8_toss 2 = .ok (.invokevirtual 296, 3) := by decide +kernel
theorem dX8_toss_5 : decode cX8_toss 5 = .ok (.astore_n 2, 1) := by decide +kernel
theorem dX8_toss_6 : decode cX8_toss 6 = .ok (.aload_n 2, 1) := by decide +kernel
theorem dX8_toss_7 : decode cX8_toss 7 = .ok (.ifnonnull 9, 3) := by decide +kernel
theorem dX8_toss_10 : decode cX8_toss 10 = .ok (.aload_n 0, 1) := by decide +kernel
theorem dX8_toss_11 : decode cX8_toss 11 = .ok (.iload_n 1, 1) := by decide +kernel
theorem dX8_toss_12 : decode cX8_toss 12 = .ok (.invokevirtual 300, 3) := by decide +kernel
theorem dX8_toss_15 : decode cX8_toss 15 = .ok (.ireturn, 1) := by decide +kernel
theorem dX8_toss_16 : decode cX8_toss 16 = .ok (.aload_n 2, 1) := by decide +kernel
theorem dX8_toss_17 : decode cX8_toss 17 = .ok (.invokevirtual 306, 3) := by decide +kernel
theorem dX8_toss_20 : decode cX8_toss 20 = .ok (.goto 9, 3) := by decide +kernel
theorem dX8_toss_23 : decode cX8_toss 23 = .ok (.astore_n 3, 1) := by decide +kernel
theorem dX8_toss_24 : decode cX8_toss 24 = .ok (.aload_n 2, 1) := by decide +kernel
theorem dX8_toss_25 : decode cX8_toss 25 = .ok (.getfield 109, 3) := by decide +kernel
theorem dX8_toss_28 : decode cX8_toss 28 = .ok (.ireturn, 1) := by decide +kernel
theorem dX8_toss_29 : decode cX8_toss 29 = .ok (.bipush (-15), 2) := by decide +kernel
theorem dX8_toss_31 : decode cX8_toss 31 = .ok (.ireturn, 1) := by decide +kernel
theorem dX8_isWithin_0 : decode cX8_isWithin 0 = .ok (.iload_n 0, 1) := by decide +kernel
theorem dX8_isWithin_1 : decode cX8_isWithin 1 = .ok (.iload_n 1, 1) := by decide +kernel
theorem dX8_isWithin_2 : decode cX8_isWithin 2 = .ok (.if_icmp .lt 12, 3) := by decide +kernel
theorem dX8_isWithin_5 : decode cX8_isWithin 5 = .ok (.iload_n 0, 1) := by decide +kernel
theorem dX8_isWithin_6 : decode cX8_isWithin 6 = .ok (.iload_n 2, 1) := by decide +kernel
theorem dX8_isWithin_7 : decode cX8_isWithin 7 = .ok (.if_icmp .gt 7, 3) := by decide +kernel
theorem dX8_isWithin_10 : decode cX8_isWithin 10 = .ok (.iconst 1, 1) := by decide +kernel
theorem dX8_isWithin_11 : decode cX8_isWithin 11 = .ok (.goto 4, 3) := by decide +kernel
theorem dX8_isWithin_14 : decode cX8_isWithin 14 = .ok (.iconst 0, 1) := by decide +kernel
theorem dX8_isWithin_15 : decode cX8_isWithin 15 = .ok (.ireturn, 1) := by decide +kernel
theorem dX8_isColour_0 : decode cX8_isColour 0 = .ok (.iload_n 0, 1) := by decide +kernel
theorem dX8_isColour_1 : decode cX8_isColour 1 = .ok (.iconst 0, 1) := by decide +kernel
theorem dX8_isColour_2 : decode cX8_isColour 2 = .ok (.bipush 7, 2) := by decide +kernel
theorem dX8_isColour_4 : decode cX8_isColour 4 = .ok (.invokestatic 74, 3) := by decide +kernel
theorem dX8_isColour_7 : decode cX8_isColour 7 = .ok (.ireturn, 1) := by decide +kernel
theorem dX8_isHand_0 : decode cX8_isHand 0 = .ok (.iload_n 0, 1) := by decide +kernel
theorem dX8_isHand_1 : decode cX8_isHand 1 = .ok (.iconst 0, 1) := by decide +kernel
theorem dX8_isHand_2 : decode cX8_isHand 2 = .ok (.iconst 5, 1) := by decide +kernel
theorem dX8_isHand_3 : decode cX8_isHand 3 = .ok (.invokestatic 74, 3) := by decide +kernel
theorem dX8_isHand_6 : decode cX8_isHand 6 = .ok (.ireturn, 1) := by decide +kernel
theorem dX8_isShelf_0 : decode cX8_isShelf 0 = .ok (.iload_n 0, 1) := by decide +kernel
theorem dX8_isShelf_1 : decode cX8_isShelf 1 = .ok (.iconst 0, 1) := by decide +kernel
theorem dX8_isShelf_2 : decode cX8_isShelf 2 = .ok (.bipush 7, 2) := by decide +kernel
theorem dX8_isShelf_4 : decode cX8_isShelf 4 = .ok (.invokestatic 74, 3) := by decide +kernel
theorem dX8_isShelf_7 : decode cX8_isShelf 7 = .ok (.ireturn, 1) := by decide +kernel
theorem dX8_isSide_0 : decode cX8_isSide 0 = .ok (.iload_n 0, 1) := by decide +kernel
theorem dX8_isSide_1 : decode cX8_isSide 1 = .ok (.iconst 1, 1) := by decide +kernel
theorem dX8_isSide_2 : decode cX8_isSide 2 = .ok (.sipush 400, 3) := by decide +kernel
theorem dX8_isSide_5 : decode cX8_isSide 5 = .ok (.invokestatic 74, 3) := by decide +kernel
theorem dX8_isSide_8 : decode cX8_isSide 8 = .ok (.ireturn, 1) := by decide +kernel
theorem dX8_areUnits_0 : decode cX8_areUnits 0 = .ok (.iload_n 0, 1) := by decide +kernel
theorem dX8_areUnits_1 : decode cX8_areUnits 1 = .ok (.iconst 1, 1) := by decide +kernel
theorem dX8_areUnits_2 : decode cX8_areUnits 2 = .ok (.bipush 40, 2) := by decide +kernel
theorem dX8_areUnits_4 : decode cX8_areUnits 4 = .ok (.invokestatic 74, 3) := by decide +kernel
theorem dX8_areUnits_7 : decode cX8_areUnits 7 = .ok (.ifCond .eq 22, 3) := by decide +kernel
theorem dX8_areUnits_10 : decode cX8_areUnits 10 = .ok (.iload_n 1, 1) := by decide +kernel
theorem dX8_areUnits_11 : decode cX8_areUnits 11 = .ok (.iconst 1, 1) := by decide +kernel
theorem dX8_areUnits_12 : decode cX8_areUnits 12 = .ok (.bipush 40, 2) := by decide +kernel
theorem dX8_areUnits_14 : decode cX8_areUnits 14 = .ok (.invokestatic 74, 3) := by decide +kernel
theorem dX8_areUnits_17 : decode cX8_areUnits 17 = .ok (.ifCond .eq 12, 3) := by decide +kernel
theorem dX8_areUnits_20 : decode cX8_areUnits 20 = .ok (.iload_n 0, 1) := by decide +kernel
theorem dX8_areUnits_21 : decode cX8_areUnits 21 = .ok (.iload_n 1, 1) := by decide +kernel
theorem dX8_areUnits_22 : decode cX8_areUnits 22 = .ok (.if_icmp .eq 7, 3) := by decide +kernel
theorem dX8_areUnits_25 : decode cX8_areUnits 25 = .ok (.iconst 1, 1) := by decide +kernel
theorem dX8_areUnits_26 : decode cX8_areUnits 26 = .ok (.goto 4, 3) := by decide +kernel
theorem dX8_areUnits_29 : decode cX8_areUnits 29 = .ok (.iconst 0, 1) := by decide +kernel
theorem dX8_areUnits_30 : decode cX8_areUnits 30 = .ok (.ireturn, 1) := by decide +kernel
theorem dX8_wayOf_0 : decode cX8_wayOf 0 = .ok (.iload_n 1, 1) := by decide +kernel
theorem dX8_wayOf_1 : decode cX8_wayOf 1 = .ok (.iload_n 2, 1) := by decide +kernel
theorem dX8_wayOf_2 : decode cX8_wayOf 2 = .ok (.invokestatic 309, 3) := by decide +kernel
theorem dX8_wayOf_5 : decode cX8_wayOf 5 = .ok (.istore_n 3, 1) := by decide +kernel
theorem dX8_wayOf_6 : decode cX8_wayOf 6 = .ok (.iload_n 1, 1) := by decide +kernel
theorem dX8_wayOf_7 : decode cX8_wayOf 7 = .ok (.iload_n 2, 1) := by decide +kernel
theorem dX8_wayOf_8 : decode cX8_wayOf 8 = .ok (.invokestatic 312, 3) := by decide +kernel
theorem dX8_wayOf_11 : decode cX8_wayOf 11 = .ok (.istore 4, 2) := by decide +kernel
theorem dX8_wayOf_13 : decode cX8_wayOf 13 = .ok (.iload_n 0, 1) := by decide +kernel
theorem dX8_wayOf_14 : decode cX8_wayOf 14 = .ok (.iload_n 3, 1) := by decide +kernel
theorem dX8_wayOf_15 : decode cX8_wayOf 15 = .ok (.idiv, 1) := by decide +kernel
theorem dX8_wayOf_16 : decode cX8_wayOf 16 = .ok (.istore 5, 2) := by decide +kernel
theorem dX8_wayOf_18 : decode cX8_wayOf 18 = .ok (.iload 5, 2) := by decide +kernel
theorem dX8_wayOf_20 : decode cX8_wayOf 20 = .ok (.ifCond .lt 59, 3) := by decide +kernel
theorem dX8_wayOf_23 : decode cX8_wayOf 23 = .ok (.iload_n 0, 1) := by decide +kernel
theorem dX8_wayOf_24 : decode cX8_wayOf 24 = .ok (.iload 5, 2) := by decide +kernel
theorem dX8_wayOf_26 : decode cX8_wayOf 26 = .ok (.iload_n 3, 1) := by decide +kernel
theorem dX8_wayOf_27 : decode cX8_wayOf 27 = .ok (.imul, 1) := by decide +kernel
theorem dX8_wayOf_28 : decode cX8_wayOf 28 = .ok (.isub, 1) := by decide +kernel
theorem dX8_wayOf_29 : decode cX8_wayOf 29 = .ok (.istore 6, 2) := by decide +kernel
theorem dX8_wayOf_31 : decode cX8_wayOf 31 = .ok (.iload 6, 2) := by decide +kernel
theorem dX8_wayOf_33 : decode cX8_wayOf 33 = .ok (.iload 4, 2) := by decide +kernel
theorem dX8_wayOf_35 : decode cX8_wayOf 35 = .ok (.irem, 1) := by decide +kernel
theorem dX8_wayOf_36 : decode cX8_wayOf 36 = .ok (.ifCond .ne 37, 3) := by decide +kernel
theorem dX8_wayOf_39 : decode cX8_wayOf 39 = .ok (.iload 6, 2) := by decide +kernel
theorem dX8_wayOf_41 : decode cX8_wayOf 41 = .ok (.iload 4, 2) := by decide +kernel
theorem dX8_wayOf_43 : decode cX8_wayOf 43 = .ok (.idiv, 1) := by decide +kernel
theorem dX8_wayOf_44 : decode cX8_wayOf 44 = .ok (.istore 7, 2) := by decide +kernel
theorem dX8_wayOf_46 : decode cX8_wayOf 46 = .ok (.iload_n 1, 1) := by decide +kernel
theorem dX8_wayOf_47 : decode cX8_wayOf 47 = .ok (.iload_n 3, 1) := by decide +kernel
theorem dX8_wayOf_48 : decode cX8_wayOf 48 = .ok (.if_icmp .ne 15, 3) := by decide +kernel
theorem dX8_wayOf_51 : decode cX8_wayOf 51 = .ok (.sipush 1000, 3) := by decide +kernel
theorem dX8_wayOf_54 : decode cX8_wayOf 54 = .ok (.iload 5, 2) := by decide +kernel
theorem dX8_wayOf_56 : decode cX8_wayOf 56 = .ok (.imul, 1) := by decide +kernel
theorem dX8_wayOf_57 : decode cX8_wayOf 57 = .ok (.iload 7, 2) := by decide +kernel
theorem dX8_wayOf_59 : decode cX8_wayOf 59 = .ok (.iadd, 1) := by decide +kernel
theorem dX8_wayOf_60 : decode cX8_wayOf 60 = .ok (.goto 12, 3) := by decide +kernel
theorem dX8_wayOf_63 : decode cX8_wayOf 63 = .ok (.sipush 1000, 3) := by decide +kernel
theorem dX8_wayOf_66 : decode cX8_wayOf 66 = .ok (.iload 7, 2) := by decide +kernel
theorem dX8_wayOf_68 : decode cX8_wayOf 68 = .ok (.imul, 1) := by decide +kernel
theorem dX8_wayOf_69 : decode cX8_wayOf 69 = .ok (.iload 5, 2) := by decide +kernel
theorem dX8_wayOf_71 : decode cX8_wayOf 71 = .ok (.iadd, 1) := by decide +kernel
theorem dX8_wayOf_72 : decode cX8_wayOf 72 = .ok (.ireturn, 1) := by decide +kernel
theorem dX8_wayOf_73 : decode cX8_wayOf 73 = .ok (.iinc 5 (-1), 3) := by decide +kernel
theorem dX8_wayOf_76 : decode cX8_wayOf 76 = .ok (.goto (-58), 3) := by decide +kernel
theorem dX8_wayOf_79 : decode cX8_wayOf 79 = .ok (.bipush (-4), 2) := by decide +kernel
theorem dX8_wayOf_81 : decode cX8_wayOf 81 = .ok (.ireturn, 1) := by decide +kernel
theorem dX8_meet_0 : decode cX8_meet 0 = .ok (.iload_n 0, 1) := by decide +kernel
theorem dX8_meet_1 : decode cX8_meet 1 = .ok (.sipush 1000, 3) := by decide +kernel
theorem dX8_meet_4 : decode cX8_meet 4 = .ok (.irem, 1) := by decide +kernel
theorem dX8_meet_5 : decode cX8_meet 5 = .ok (.ifCond .ne 7, 3) := by decide +kernel
theorem dX8_meet_8 : decode cX8_meet 8 = .ok (.iconst 1, 1) := by decide +kernel
theorem dX8_meet_9 : decode cX8_meet 9 = .ok (.goto 4, 3) := by decide +kernel
theorem dX8_meet_12 : decode cX8_meet 12 = .ok (.iconst 0, 1) := by decide +kernel
theorem dX8_meet_13 : decode cX8_meet 13 = .ok (.istore_n 2, 1) := by decide +kernel
theorem dX8_meet_14 : decode cX8_meet 14 = .ok (.iload_n 1, 1) := by decide +kernel
theorem dX8_meet_15 : decode cX8_meet 15 = .ok (.sipush 1000, 3) := by decide +kernel
theorem dX8_meet_18 : decode cX8_meet 18 = .ok (.idiv, 1) := by decide +kernel
theorem dX8_meet_19 : decode cX8_meet 19 = .ok (.ifCond .le 7, 3) := by decide +kernel
theorem dX8_meet_22 : decode cX8_meet 22 = .ok (.iconst 1, 1) := by decide +kernel
theorem dX8_meet_23 : decode cX8_meet 23 = .ok (.goto 4, 3) := by decide +kernel
theorem dX8_meet_26 : decode cX8_meet 26 = .ok (.iconst 0, 1) := by decide +kernel
theorem dX8_meet_27 : decode cX8_meet 27 = .ok (.istore_n 3, 1) := by decide +kernel
theorem dX8_meet_28 : decode cX8_meet 28 = .ok (.iload_n 2, 1) := by decide +kernel
theorem dX8_meet_29 : decode cX8_meet 29 = .ok (.iload_n 3, 1) := by decide +kernel
theorem dX8_meet_30 : decode cX8_meet 30 = .ok (.if_icmp .ne 7, 3) := by decide +kernel
theorem dX8_meet_33 : decode cX8_meet 33 = .ok (.iconst 1, 1) := by decide +kernel
theorem dX8_meet_34 : decode cX8_meet 34 = .ok (.goto 4, 3) := by decide +kernel
theorem dX8_meet_37 : decode cX8_meet 37 = .ok (.iconst 0, 1) := by decide +kernel
theorem dX8_meet_38 : decode cX8_meet 38 = .ok (.ireturn, 1) := by decide +kernel
theorem dX8_keepStep_0 : decode cX8_keepStep 0 = .ok (.aload_n 0, 1) := by decide +kernel
theorem dX8_keepStep_1 : decode cX8_keepStep 1 = .ok (.getfield 33, 3) := by decide +kernel
theorem dX8_keepStep_4 : decode cX8_keepStep 4 = .ok (.iload_n 2, 1) := by decide +kernel
theorem dX8_keepStep_5 : decode cX8_keepStep 5 = .ok (.iload_n 3, 1) := by decide +kernel
theorem dX8_keepStep_6 : decode cX8_keepStep 6 = .ok (.invokevirtual 92, 3) := by decide +kernel
theorem dX8_keepStep_9 : decode cX8_keepStep 9 = .ok (.ifCond .ne 5, 3) := by decide +kernel
theorem dX8_keepStep_12 : decode cX8_keepStep 12 = .ok (.iconst (-1), 1) := by decide +kernel
theorem dX8_keepStep_13 : decode cX8_keepStep 13 = .ok (.ireturn, 1) := by decide +kernel
theorem dX8_keepStep_14 : decode cX8_keepStep 14 = .ok (.aload_n 0, 1) := by decide +kernel
theorem dX8_keepStep_15 : decode cX8_keepStep 15 = .ok (.getfield 33, 3) := by decide +kernel
theorem dX8_keepStep_18 : decode cX8_keepStep 18 = .ok (.iload_n 2, 1) := by decide +kernel
theorem dX8_keepStep_19 : decode cX8_keepStep 19 = .ok (.iload_n 3, 1) := by decide +kernel
theorem dX8_keepStep_20 : decode cX8_keepStep 20 = .ok (.invokevirtual 96, 3) := by decide +kernel
theorem dX8_keepStep_23 : decode cX8_keepStep 23 = .ok (.astore 4, 2) := by decide +kernel
theorem dX8_keepStep_25 : decode cX8_keepStep 25 = .ok (.aload_n 1, 1) := by decide +kernel
theorem dX8_keepStep_26 : decode cX8_keepStep 26 = .ok (.new 101, 3) := by decide +kernel
theorem dX8_keepStep_29 : decode cX8_keepStep 29 = .ok (.dup, 1) := by decide +kernel
theorem dX8_keepStep_30 : decode cX8_keepStep 30 = .ok (.aload 4, 2) := by decide +kernel
theorem dX8_keepStep_32 : decode cX8_keepStep 32 = .ok (.getfield 100, 3) := by decide +kernel
theorem dX8_keepStep_35 : decode cX8_keepStep 35 = .ok (.aload 4, 2) := by decide +kernel
theorem dX8_keepStep_37 : decode cX8_keepStep 37 = .ok (.getfield 109, 3) := by decide +kernel
theorem dX8_keepStep_40 : decode cX8_keepStep 40 = .ok (.aload 4, 2) := by decide +kernel
theorem dX8_keepStep_42 : decode cX8_keepStep 42 = .ok (.getfield 115, 3) := by decide +kernel
theorem dX8_keepStep_45 : decode cX8_keepStep 45 = .ok (.invokespecial 315, 3) := by decide +kernel
theorem dX8_keepStep_48 : decode cX8_keepStep 48 = .ok (.invokevirtual 318, 3) := by decide +kernel
theorem dX8_keepStep_51 : decode cX8_keepStep 51 = .ok (.iconst 0, 1) := by decide +kernel
theorem dX8_keepStep_52 : decode cX8_keepStep 52 = .ok (.ireturn, 1) := by decide +kernel
theorem dX8_keepColours_0 : decode cX8_keepColours 0 = .ok (.aload_n 0, 1) := by decide +kernel
theorem dX8_keepColours_1 : decode cX8_keepColours 1 = .ok (.getfield 24, 3) := by decide +kernel
theorem dX8_keepColours_4 : decode cX8_keepColours 4 = .ok (.iload_n 2, 1) := by decide +kernel
theorem dX8_keepColours_5 : decode cX8_keepColours 5 = .ok (.invokevirtual 177, 3) := by decide +kernel
theorem dX8_keepColours_8 : decode cX8_keepColours 8 = .ok (.ifCond .ne 5, 3) := by decide +kernel
theorem dX8_keepColours_11 : decode cX8_keepColours 11 = .ok (.iconst (-1), 1) := by decide +kernel
theorem dX8_keepColours_12 : decode cX8_keepColours 12 = .ok (.ireturn, 1) := by decide +kernel
theorem dX8_keepColours_13 : decode cX8_keepColours 13 = .ok (.aload_n 1, 1) := by decide +kernel
theorem dX8_keepColours_14 : decode cX8_keepColours 14 = .ok (.iconst 3, 1) := by decide +kernel
theorem dX8_keepColours_15 : decode cX8_keepColours 15 = .ok (.aload_n 0, 1) := by decide +kernel
theorem dX8_keepColours_16 : decode cX8_keepColours 16 = .ok (.getfield 15, 3) := by decide +kernel
theorem dX8_keepColours_19 : decode cX8_keepColours 19 = .ok (.invokevirtual 260, 3) := by decide +kernel
theorem dX8_keepColours_22 : decode cX8_keepColours 22 = .ok (.iconst 0, 1) := by decide +kernel
theorem dX8_keepColours_23 : decode cX8_keepColours 23 = .ok (.istore_n 3, 1) := by decide +kernel
theorem dX8_keepColours_24 : decode cX8_keepColours 24 = .ok (.iload_n 3, 1) := by decide +kernel
theorem dX8_keepColours_25 : decode cX8_keepColours 25 = .ok (.aload_n 0, 1) := by decide +kernel
theorem dX8_keepColours_26 : decode cX8_keepColours 26 = .ok (.getfield 15, 3) := by decide +kernel
theorem dX8_keepColours_29 : decode cX8_keepColours 29 = .ok (.if_icmp .ge 30, 3) := by decide +kernel
theorem dX8_keepColours_32 : decode cX8_keepColours 32 = .ok (.aload_n 1, 1) := by decide +kernel
theorem dX8_keepColours_33 : decode cX8_keepColours 33 = .ok (.getfield 282, 3) := by decide +kernel
theorem dX8_keepColours_36 : decode cX8_keepColours 36 = .ok (.iload_n 3, 1) := by decide +kernel
theorem dX8_keepColours_37 : decode cX8_keepColours 37 = .ok (.aload_n 0, 1) := by decide +kernel
theorem dX8_keepColours_38 : decode cX8_keepColours 38 = .ok (.getfield 24, 3) := by decide +kernel
theorem dX8_keepColours_41 : decode cX8_keepColours 41 = .ok (.getfield 152, 3) := by decide +kernel
theorem dX8_keepColours_44 : decode cX8_keepColours 44 = .ok (.iload_n 2, 1) := by decide +kernel
theorem dX8_keepColours_45 : decode cX8_keepColours 45 = .ok (.aaload, 1) := by decide +kernel
theorem dX8_keepColours_46 : decode cX8_keepColours 46 = .ok (.getfield 156, 3) := by decide +kernel
theorem dX8_keepColours_49 : decode cX8_keepColours 49 = .ok (.iload_n 3, 1) := by decide +kernel
theorem dX8_keepColours_50 : decode cX8_keepColours 50 = .ok (.baload, 1) := by decide +kernel
theorem dX8_keepColours_51 : decode cX8_keepColours 51 = .ok (.i2s, 1) := by decide +kernel
theorem dX8_keepColours_52 : decode cX8_keepColours 52 = .ok (.sastore, 1) := by decide +kernel
theorem dX8_keepColours_53 : decode cX8_keepColours 53 = .ok (.iinc 3 1, 3) := by decide +kernel
theorem dX8_keepColours_56 : decode cX8_keepColours 56 = .ok (.goto (-32), 3) := by decide +kernel
theorem dX8_keepColours_59 : decode cX8_keepColours 59 = .ok (.iconst 0, 1) := by decide +kernel
theorem dX8_keepColours_60 : decode cX8_keepColours 60 = .ok (.ireturn, 1) := by decide +kernel
theorem dX8_keepMinutes_0 : decode cX8_keepMinutes 0 = .ok (.aload_n 1, 1) := by decide +kernel
theorem dX8_keepMinutes_1 : decode cX8_keepMinutes 1 = .ok (.iconst 4, 1) := by decide +kernel
theorem dX8_keepMinutes_2 : decode cX8_keepMinutes 2 = .ok (.aload_n 0, 1) := by decide +kernel
theorem dX8_keepMinutes_3 : decode cX8_keepMinutes 3 = .ok (.getfield 24, 3) := by decide +kernel
theorem dX8_keepMinutes_6 : decode cX8_keepMinutes 6 = .ok (.getfield 130, 3) := by decide +kernel
theorem dX8_keepMinutes_9 : decode cX8_keepMinutes 9 = .ok (.invokevirtual 260, 3) := by decide +kernel
theorem dX8_keepMinutes_12 : decode cX8_keepMinutes 12 = .ok (.iconst 0, 1) := by decide +kernel
theorem dX8_keepMinutes_13 : decode cX8_keepMinutes 13 = .ok (.istore_n 2, 1) := by decide +kernel
theorem dX8_keepMinutes_14 : decode cX8_keepMinutes 14 = .ok (.iload_n 2, 1) := by decide +kernel
theorem dX8_keepMinutes_15 : decode cX8_keepMinutes 15 = .ok (.aload_n 0, 1) := by decide +kernel
theorem dX8_keepMinutes_16 : decode cX8_keepMinutes 16 = .ok (.getfield 24, 3) := by decide +kernel
theorem dX8_keepMinutes_19 : decode cX8_keepMinutes 19 = .ok (.getfield 130, 3) := by decide +kernel
theorem dX8_keepMinutes_22 : decode cX8_keepMinutes 22 = .ok (.if_icmp .ge 28, 3) := by decide +kernel
theorem dX8_keepMinutes_25 : decode cX8_keepMinutes 25 = .ok (.aload_n 1, 1) := by decide +kernel
theorem dX8_keepMinutes_26 : decode cX8_keepMinutes 26 = .ok (.getfield 282, 3) := by decide +kernel
theorem dX8_keepMinutes_29 : decode cX8_keepMinutes 29 = .ok (.iload_n 2, 1) := by decide +kernel
theorem dX8_keepMinutes_30 : decode cX8_keepMinutes 30 = .ok (.aload_n 0, 1) := by decide +kernel
theorem dX8_keepMinutes_31 : decode cX8_keepMinutes 31 = .ok (.getfield 24, 3) := by decide +kernel
theorem dX8_keepMinutes_34 : decode cX8_keepMinutes 34 = .ok (.getfield 152, 3) := by decide +kernel
theorem dX8_keepMinutes_37 : decode cX8_keepMinutes 37 = .ok (.iload_n 2, 1) := by decide +kernel
theorem dX8_keepMinutes_38 : decode cX8_keepMinutes 38 = .ok (.aaload, 1) := by decide +kernel
theorem dX8_keepMinutes_39 : decode cX8_keepMinutes 39 = .ok (.getfield 180, 3) := by decide +kernel
theorem dX8_keepMinutes_42 : decode cX8_keepMinutes 42 = .ok (.i2s, 1) := by decide +kernel
theorem dX8_keepMinutes_43 : decode cX8_keepMinutes 43 = .ok (.sastore, 1) := by decide +kernel
theorem dX8_keepMinutes_44 : decode cX8_keepMinutes 44 = .ok (.iinc 2 1, 3) := by decide +kernel
theorem dX8_keepMinutes_47 : decode cX8_keepMinutes 47 = .ok (.goto (-33), 3) := by decide +kernel
theorem dX8_keepMinutes_50 : decode cX8_keepMinutes 50 = .ok (.iconst 0, 1) := by decide +kernel
theorem dX8_keepMinutes_51 : decode cX8_keepMinutes 51 = .ok (.ireturn, 1) := by decide +kernel
theorem dX8_stepOn_0 : decode cX8_stepOn 0 = .ok (.iload_n 1, 1) := by decide +kernel
theorem dX8_stepOn_1 : decode cX8_stepOn 1 = .ok (.invokestatic 242, 3) := by decide +kernel
theorem dX8_stepOn_4 : decode cX8_stepOn 4 = .ok (.ifCond .eq 15, 3) := by decide +kernel
theorem dX8_stepOn_7 : decode cX8_stepOn 7 = .ok (.aload_n 0, 1) := by decide +kernel
theorem dX8_stepOn_8 : decode cX8_stepOn 8 = .ok (.getfield 46, 3) := by decide +kernel
theorem dX8_stepOn_11 : decode cX8_stepOn 11 = .ok (.iload_n 1, 1) := by decide +kernel
theorem dX8_stepOn_12 : decode cX8_stepOn 12 = .ok (.aaload, 1) := by decide +kernel
theorem dX8_stepOn_13 : decode cX8_stepOn 13 = .ok (.getfield 322, 3) := by decide +kernel
theorem dX8_stepOn_16 : decode cX8_stepOn 16 = .ok (.goto 4, 3) := by decide +kernel
theorem dX8_stepOn_19 : decode cX8_stepOn 19 = .ok (.aconst_null, 1) := by decide +kernel
theorem dX8_stepOn_20 : decode cX8_stepOn 20 = .ok (.areturn, 1) := by decide +kernel
theorem dX8_whyNoStepOn_0 : decode cX8_whyNoStepOn 0 = .ok (.iload_n 1, 1) := by decide +kernel
theorem dX8_whyNoStepOn_1 : decode cX8_whyNoStepOn 1 = .ok (.invokestatic 242, 3) := by decide +kernel
theorem dX8_whyNoStepOn_4 : decode cX8_whyNoStepOn 4 = .ok (.ifCond .ne 5, 3) := by decide +kernel
theorem dX8_whyNoStepOn_7 : decode cX8_whyNoStepOn 7 = .ok (.iconst (-1), 1) := by decide +kernel
theorem dX8_whyNoStepOn_8 : decode cX8_whyNoStepOn 8 = .ok (.ireturn, 1) := by decide +kernel
theorem dX8_whyNoStepOn_9 : decode cX8_whyNoStepOn 9 = .ok (.aload_n 0, 1) := by decide +kernel
theorem dX8_whyNoStepOn_10 : decode cX8_whyNoStepOn 10 = .ok (.getfield 46, 3) := by decide +kernel
theorem dX8_whyNoStepOn_13 : decode cX8_whyNoStepOn 13 = .ok (.iload_n 1, 1) := by decide +kernel
theorem dX8_whyNoStepOn_14 : decode cX8_whyNoStepOn 14 = .ok (.aaload, 1) := by decide +kernel
theorem dX8_whyNoStepOn_15 : decode cX8_whyNoStepOn 15 = .ok (.getfield 286, 3) := by decide +kernel
theorem dX8_whyNoStepOn_18 : decode cX8_whyNoStepOn 18 = .ok (.ifCond .ne 8, 3) := by decide +kernel
theorem dX8_whyNoStepOn_21 : decode cX8_whyNoStepOn 21 = .ok (.bipush (-11), 2) := by decide +kernel
theorem dX8_whyNoStepOn_23 : decode cX8_whyNoStepOn 23 = .ok (.goto 5, 3) := by decide +kernel
theorem dX8_whyNoStepOn_26 : decode cX8_whyNoStepOn 26 = .ok (.bipush (-12), 2) := by decide +kernel
theorem dX8_whyNoStepOn_28 : decode cX8_whyNoStepOn 28 = .ok (.ireturn, 1) := by decide +kernel
