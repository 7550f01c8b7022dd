theorem dX9_unlike_8 : decode cX9_unlike 8 = .ok (.isub, 1) := by decide +kernel
theorem dX9_unlike_9 : decode cX9_unlike 9 = .ok (.invokevirtual 137, 3) := by decide +kernel
theorem dX9_unlike_12 : decode cX9_unlike 12 = .ok (.ifCond .eq 18, 3) := by decide +kernel
theorem dX9_unlike_15 : decode cX9_unlike 15 = .ok (.aload_n 0, 1) := by decide +kernel
theorem dX9_unlike_16 : decode cX9_unlike 16 = .ok (.iload_n 2, 1) := by decide +kernel
theorem dX9_unlike_17 : decode cX9_unlike 17 = .ok (.iconst (-1), 1) := by decide +kernel
theorem dX9_unlike_18 : decode cX9_unlike 18 = .ok (.aload_n 0, 1) := by decide +kernel
theorem dX9_unlike_19 : decode cX9_unlike 19 = .ok (.getfield 71, 3) := by decide +kernel
theorem dX9_unlike_22 : decode cX9_unlike 22 = .ok (.iconst 1, 1) := by decide +kernel
theorem dX9_unlike_23 : decode cX9_unlike 23 = .ok (.isub, 1) := by decide +kernel
theorem dX9_unlike_24 : decode cX9_unlike 24 = .ok (.invokevirtual 137, 3) := by decide +kernel
theorem dX9_unlike_27 : decode cX9_unlike 27 = .ok (.ifCond .ne 5, 3) := by decide +kernel
theorem dX9_unlike_30 : decode cX9_unlike 30 = .ok (.iconst (-1), 1) := by decide +kernel
theorem dX9_unlike_31 : decode cX9_unlike 31 = .ok (.ireturn, 1) := by decide +kernel
theorem dX9_unlike_32 : decode cX9_unlike 32 = .ok (.iconst 0, 1) := by decide +kernel
theorem dX9_unlike_33 : decode cX9_unlike 33 = .ok (.istore_n 3, 1) := by decide +kernel
theorem dX9_unlike_34 : decode cX9_unlike 34 = .ok (.iconst 0, 1) := by decide +kernel
theorem dX9_unlike_35 : decode cX9_unlike 35 = .ok (.istore 4, 2) := by decide +kernel
theorem dX9_unlike_37 : decode cX9_unlike 37 = .ok (.iload 4, 2) := by decide +kernel
theorem dX9_unlike_39 : decode cX9_unlike 39 = .ok (.aload_n 0, 1) := by decide +kernel
theorem dX9_unlike_40 : decode cX9_unlike 40 = .ok (.getfield 134, 3) := by decide +kernel
theorem dX9_unlike_43 : decode cX9_unlike 43 = .ok (.if_icmp .ge 70, 3) := by decide +kernel
theorem dX9_unlike_46 : decode cX9_unlike 46 = .ok (.iload_n 3, 1) := by decide +kernel
theorem dX9_unlike_47 : decode cX9_unlike 47 = .ok (.aload_n 0, 1) := by decide +kernel
theorem dX9_unlike_48 : decode cX9_unlike 48 = .ok (.getfield 77, 3) := by decide +kernel
theorem dX9_unlike_51 : decode cX9_unlike 51 = .ok (.bipush 40, 2) := by decide +kernel
theorem dX9_unlike_53 : decode cX9_unlike 53 = .ok (.iload_n 1, 1) := by decide +kernel
theorem dX9_unlike_54 : decode cX9_unlike 54 = .ok (.imul, 1) := by decide +kernel
theorem dX9_unlike_55 : decode cX9_unlike 55 = .ok (.iload 4, 2) := by decide +kernel
theorem dX9_unlike_57 : decode cX9_unlike 57 = .ok (.iadd, 1) := by decide +kernel
theorem dX9_unlike_58 : decode cX9_unlike 58 = .ok (.iaload, 1) := by decide +kernel
theorem dX9_unlike_59 : decode cX9_unlike 59 = .ok (.iload_n 2, 1) := by decide +kernel
theorem dX9_unlike_60 : decode cX9_unlike 60 = .ok (.ifCond .ge 25, 3) := by decide +kernel
theorem dX9_unlike_63 : decode cX9_unlike 63 = .ok (.aload_n 0, 1) := by decide +kernel
theorem dX9_unlike_64 : decode cX9_unlike 64 = .ok (.getfield 77, 3) := by decide +kernel
theorem dX9_unlike_67 : decode cX9_unlike 67 = .ok (.bipush 40, 2) := by decide +kernel
theorem dX9_unlike_69 : decode cX9_unlike 69 = .ok (.iload_n 1, 1) := by decide +kernel
theorem dX9_unlike_70 : decode cX9_unlike 70 = .ok (.imul, 1) := by decide +kernel
theorem dX9_unlike_71 : decode cX9_unlike 71 = .ok (.aload_n 0, 1) := by decide +kernel
theorem dX9_unlike_72 : decode cX9_unlike 72 = .ok (.getfield 134, 3) := by decide +kernel
theorem dX9_unlike_75 : decode cX9_unlike 75 = .ok (.iadd, 1) := by decide +kernel
theorem dX9_unlike_76 : decode cX9_unlike 76 = .ok (.iconst 1, 1) := by decide +kernel
theorem dX9_unlike_77 : decode cX9_unlike 77 = .ok (.isub, 1) := by decide +kernel
theorem dX9_unlike_78 : decode cX9_unlike 78 = .ok (.iload 4, 2) := by decide +kernel
theorem dX9_unlike_80 : decode cX9_unlike 80 = .ok (.isub, 1) := by decide +kernel
theorem dX9_unlike_81 : decode cX9_unlike 81 = .ok (.iaload, 1) := by decide +kernel
theorem dX9_unlike_82 : decode cX9_unlike 82 = .ok (.goto 15, 3) := by decide +kernel
theorem dX9_unlike_85 : decode cX9_unlike 85 = .ok (.aload_n 0, 1) := by decide +kernel
theorem dX9_unlike_86 : decode cX9_unlike 86 = .ok (.getfield 77, 3) := by decide +kernel
theorem dX9_unlike_89 : decode cX9_unlike 89 = .ok (.bipush 40, 2) := by decide +kernel
theorem dX9_unlike_91 : decode cX9_unlike 91 = .ok (.iload_n 2, 1) := by decide +kernel
theorem dX9_unlike_92 : decode cX9_unlike 92 = .ok (.imul, 1) := by decide +kernel
theorem dX9_unlike_93 : decode cX9_unlike 93 = .ok (.iload 4, 2) := by decide +kernel
theorem dX9_unlike_95 : decode cX9_unlike 95 = .ok (.iadd, 1) := by decide +kernel
theorem dX9_unlike_96 : decode cX9_unlike 96 = .ok (.iaload, 1) := by decide +kernel
theorem dX9_unlike_97 : decode cX9_unlike 97 = .ok (.if_icmp .eq 7, 3) := by decide +kernel
theorem dX9_unlike_100 : decode cX9_unlike 100 = .ok (.iconst 1, 1) := by decide +kernel
theorem dX9_unlike_101 : decode cX9_unlike 101 = .ok (.goto 4, 3) := by decide +kernel
theorem dX9_unlike_104 : decode cX9_unlike 104 = .ok (.iconst 0, 1) := by decide +kernel
theorem dX9_unlike_105 : decode cX9_unlike 105 = .ok (.iadd, 1) := by decide +kernel
theorem dX9_unlike_106 : decode cX9_unlike 106 = .ok (.istore_n 3, 1) := by decide +kernel
theorem dX9_unlike_107 : decode cX9_unlike 107 = .ok (.iinc 4 1, 3) := by decide +kernel
theorem dX9_unlike_110 : decode cX9_unlike 110 = .ok (.goto (-73), 3) := by decide +kernel
theorem dX9_unlike_113 : decode cX9_unlike 113 = .ok (.iload_n 3, 1) := by decide +kernel
theorem dX9_unlike_114 : decode cX9_unlike 114 = .ok (.ireturn, 1) := by decide +kernel
theorem dX9_areUnits_0 : decode cX9_areUnits 0 = .ok (.aload_n 0, 1) := by decide +kernel
theorem dX9_areUnits_1 : decode cX9_areUnits 1 = .ok (.iload_n 1, 1) := by decide +kernel
theorem dX9_areUnits_2 : decode cX9_areUnits 2 = .ok (.iconst 1, 1) := by decide +kernel
theorem dX9_areUnits_3 : decode cX9_areUnits 3 = .ok (.bipush 40, 2) := by decide +kernel
theorem dX9_areUnits_5 : decode cX9_areUnits 5 = .ok (.invokevirtual 137, 3) := by decide +kernel
theorem dX9_areUnits_8 : decode cX9_areUnits 8 = .ok (.ifCond .eq 23, 3) := by decide +kernel
theorem dX9_areUnits_11 : decode cX9_areUnits 11 = .ok (.aload_n 0, 1) := by decide +kernel
theorem dX9_areUnits_12 : decode cX9_areUnits 12 = .ok (.iload_n 2, 1) := by decide +kernel
theorem dX9_areUnits_13 : decode cX9_areUnits 13 = .ok (.iconst 1, 1) := by decide +kernel
theorem dX9_areUnits_14 : decode cX9_areUnits 14 = .ok (.bipush 40, 2) := by decide +kernel
theorem dX9_areUnits_16 : decode cX9_areUnits 16 = .ok (.invokevirtual 137, 3) := by decide +kernel
theorem dX9_areUnits_19 : decode cX9_areUnits 19 = .ok (.ifCond .eq 12, 3) := by decide +kernel
theorem dX9_areUnits_22 : decode cX9_areUnits 22 = .ok (.iload_n 1, 1) := by decide +kernel
theorem dX9_areUnits_23 : decode cX9_areUnits 23 = .ok (.iload_n 2, 1) := by decide +kernel
theorem dX9_areUnits_24 : decode cX9_areUnits 24 = .ok (.if_icmp .eq 7, 3) := by decide +kernel
theorem dX9_areUnits_27 : decode cX9_areUnits 27 = .ok (.iconst 1, 1) := by decide +kernel
theorem dX9_areUnits_28 : decode cX9_areUnits 28 = .ok (.goto 4, 3) := by decide +kernel
theorem dX9_areUnits_31 : decode cX9_areUnits 31 = .ok (.iconst 0, 1) := by decide +kernel
theorem dX9_areUnits_32 : decode cX9_areUnits 32 = .ok (.ireturn, 1) := by decide +kernel
theorem dX9_wayOf_0 : decode cX9_wayOf 0 = .ok (.bipush (-4), 2) := by decide +kernel
theorem dX9_wayOf_2 : decode cX9_wayOf 2 = .ok (.istore 4, 2) := by decide +kernel
theorem dX9_wayOf_4 : decode cX9_wayOf 4 = .ok (.sipush 1000, 3) := by decide +kernel
theorem dX9_wayOf_7 : decode cX9_wayOf 7 = .ok (.istore 5, 2) := by decide +kernel
theorem dX9_wayOf_9 : decode cX9_wayOf 9 = .ok (.iload_n 1, 1) := by decide +kernel
theorem dX9_wayOf_10 : decode cX9_wayOf 10 = .ok (.iload_n 2, 1) := by decide +kernel
theorem dX9_wayOf_11 : decode cX9_wayOf 11 = .ok (.idiv, 1) := by decide +kernel
theorem dX9_wayOf_12 : decode cX9_wayOf 12 = .ok (.istore 6, 2) := by decide +kernel
theorem dX9_wayOf_14 : decode cX9_wayOf 14 = .ok (.iload 6, 2) := by decide +kernel
theorem dX9_wayOf_16 : decode cX9_wayOf 16 = .ok (.ifCond .lt 61, 3) := by decide +kernel
theorem dX9_wayOf_19 : decode cX9_wayOf 19 = .ok (.iload_n 1, 1) := by decide +kernel
theorem dX9_wayOf_20 : decode cX9_wayOf 20 = .ok (.iload 6, 2) := by decide +kernel
theorem dX9_wayOf_22 : decode cX9_wayOf 22 = .ok (.iload_n 2, 1) := by decide +kernel
theorem dX9_wayOf_23 : decode cX9_wayOf 23 = .ok (.imul, 1) := by decide +kernel
theorem dX9_wayOf_24 : decode cX9_wayOf 24 = .ok (.isub, 1) := by decide +kernel
theorem dX9_wayOf_25 : decode cX9_wayOf 25 = .ok (.istore 7, 2) := by decide +kernel
theorem dX9_wayOf_27 : decode cX9_wayOf 27 = .ok (.iload 7, 2) := by decide +kernel
theorem dX9_wayOf_29 : decode cX9_wayOf 29 = .ok (.iload_n 3, 1) := by decide +kernel
theorem dX9_wayOf_30 : decode cX9_wayOf 30 = .ok (.irem, 1) := by decide +kernel
theorem dX9_wayOf_31 : decode cX9_wayOf 31 = .ok (.ifCond .ne 40, 3) := by decide +kernel
theorem dX9_wayOf_34 : decode cX9_wayOf 34 = .ok (.iload 6, 2) := by decide +kernel
theorem dX9_wayOf_36 : decode cX9_wayOf 36 = .ok (.iload 7, 2) := by decide +kernel
theorem dX9_wayOf_38 : decode cX9_wayOf 38 = .ok (.iload_n 3, 1) := by decide +kernel
theorem dX9_wayOf_39 : decode cX9_wayOf 39 = .ok (.idiv, 1) := by decide +kernel
theorem dX9_wayOf_40 : decode cX9_wayOf 40 = .ok (.iadd, 1) := by decide +kernel
theorem dX9_wayOf_41 : decode cX9_wayOf 41 = .ok (.iload 5, 2) := by decide +kernel
theorem dX9_wayOf_43 : decode cX9_wayOf 43 = .ok (.if_icmp .lt 6, 3) := by decide +kernel
theorem dX9_wayOf_46 : decode cX9_wayOf 46 = .ok (.goto 25, 3) := by decide +kernel
theorem dX9_wayOf_49 : decode cX9_wayOf 49 = .ok (.iload 6, 2) := by decide +kernel
theorem dX9_wayOf_51 : decode cX9_wayOf 51 = .ok (.iload 7, 2) := by decide +kernel
theorem dX9_wayOf_53 : decode cX9_wayOf 53 = .ok (.iload_n 3, 1) := by decide +kernel
theorem dX9_wayOf_54 : decode cX9_wayOf 54 = .ok (.idiv, 1) := by decide +kernel
theorem dX9_wayOf_55 : decode cX9_wayOf 55 = .ok (.iadd, 1) := by decide +kernel
theorem dX9_wayOf_56 : decode cX9_wayOf 56 = .ok (.istore 5, 2) := by decide +kernel
theorem dX9_wayOf_58 : decode cX9_wayOf 58 = .ok (.sipush 1000, 3) := by decide +kernel
theorem dX9_wayOf_61 : decode cX9_wayOf 61 = .ok (.iload 6, 2) := by decide +kernel
theorem dX9_wayOf_63 : decode cX9_wayOf 63 = .ok (.imul, 1) := by decide +kernel
theorem dX9_wayOf_64 : decode cX9_wayOf 64 = .ok (.iload 7, 2) := by decide +kernel
theorem dX9_wayOf_66 : decode cX9_wayOf 66 = .ok (.iload_n 3, 1) := by decide +kernel
theorem dX9_wayOf_67 : decode cX9_wayOf 67 = .ok (.idiv, 1) := by decide +kernel
theorem dX9_wayOf_68 : decode cX9_wayOf 68 = .ok (.iadd, 1) := by decide +kernel
theorem dX9_wayOf_69 : decode cX9_wayOf 69 = .ok (.istore 4, 2) := by decide +kernel
theorem dX9_wayOf_71 : decode cX9_wayOf 71 = .ok (.iinc 6 (-1), 3) := by decide +kernel
theorem dX9_wayOf_74 : decode cX9_wayOf 74 = .ok (.goto (-60), 3) := by decide +kernel
theorem dX9_wayOf_77 : decode cX9_wayOf 77 = .ok (.iload 4, 2) := by decide +kernel
theorem dX9_wayOf_79 : decode cX9_wayOf 79 = .ok (.ireturn, 1) := by decide +kernel
theorem dX9_side_0 : decode cX9_side 0 = .ok (.aload_n 0, 1) := by decide +kernel
theorem dX9_side_1 : decode cX9_side 1 = .ok (.iload_n 1, 1) := by decide +kernel
theorem dX9_side_2 : decode cX9_side 2 = .ok (.iconst 1, 1) := by decide +kernel
theorem dX9_side_3 : decode cX9_side 3 = .ok (.sipush 400, 3) := by decide +kernel
theorem dX9_side_6 : decode cX9_side 6 = .ok (.invokevirtual 137, 3) := by decide +kernel
theorem dX9_side_9 : decode cX9_side 9 = .ok (.ifCond .eq 22, 3) := by decide +kernel
theorem dX9_side_12 : decode cX9_side 12 = .ok (.aload_n 0, 1) := by decide +kernel
theorem dX9_side_13 : decode cX9_side 13 = .ok (.iload_n 2, 1) := by decide +kernel
theorem dX9_side_14 : decode cX9_side 14 = .ok (.iload_n 3, 1) := by decide +kernel
theorem dX9_side_15 : decode cX9_side 15 = .ok (.invokevirtual 195, 3) := by decide +kernel
theorem dX9_side_18 : decode cX9_side 18 = .ok (.ifCond .eq 13, 3) := by decide +kernel
theorem dX9_side_21 : decode cX9_side 21 = .ok (.aload_n 0, 1) := by decide +kernel
theorem dX9_side_22 : decode cX9_side 22 = .ok (.iload_n 1, 1) := by decide +kernel
theorem dX9_side_23 : decode cX9_side 23 = .ok (.iload_n 2, 1) := by decide +kernel
theorem dX9_side_24 : decode cX9_side 24 = .ok (.iload_n 3, 1) := by decide +kernel
theorem dX9_side_25 : decode cX9_side 25 = .ok (.invokevirtual 198, 3) := by decide +kernel
theorem dX9_side_28 : decode cX9_side 28 = .ok (.goto 4, 3) := by decide +kernel
theorem dX9_side_31 : decode cX9_side 31 = .ok (.iconst (-1), 1) := by decide +kernel
theorem dX9_side_32 : decode cX9_side 32 = .ok (.ireturn, 1) := by decide +kernel
theorem dX9_meets_0 : decode cX9_meets 0 = .ok (.iload_n 1, 1) := by decide +kernel
theorem dX9_meets_1 : decode cX9_meets 1 = .ok (.sipush 1000, 3) := by decide +kernel
theorem dX9_meets_4 : decode cX9_meets 4 = .ok (.irem, 1) := by decide +kernel
theorem dX9_meets_5 : decode cX9_meets 5 = .ok (.ifCond .le 7, 3) := by decide +kernel
theorem dX9_meets_8 : decode cX9_meets 8 = .ok (.iconst 1, 1) := by decide +kernel
theorem dX9_meets_9 : decode cX9_meets 9 = .ok (.goto 4, 3) := by decide +kernel
theorem dX9_meets_12 : decode cX9_meets 12 = .ok (.iconst 0, 1) := by decide +kernel
theorem dX9_meets_13 : decode cX9_meets 13 = .ok (.iload_n 2, 1) := by decide +kernel
theorem dX9_meets_14 : decode cX9_meets 14 = .ok (.sipush 1000, 3) := by decide +kernel
theorem dX9_meets_17 : decode cX9_meets 17 = .ok (.idiv, 1) := by decide +kernel
theorem dX9_meets_18 : decode cX9_meets 18 = .ok (.ifCond .le 7, 3) := by decide +kernel
theorem dX9_meets_21 : decode cX9_meets 21 = .ok (.iconst 1, 1) := by decide +kernel
theorem dX9_meets_22 : decode cX9_meets 22 = .ok (.goto 4, 3) := by decide +kernel
theorem dX9_meets_25 : decode cX9_meets 25 = .ok (.iconst 0, 1) := by decide +kernel
theorem dX9_meets_26 : decode cX9_meets 26 = .ok (.if_icmp .eq 7, 3) := by decide +kernel
theorem dX9_meets_29 : decode cX9_meets 29 = .ok (.iconst 1, 1) := by decide +kernel
theorem dX9_meets_30 : decode cX9_meets 30 = .ok (.goto 4, 3) := by decide +kernel
theorem dX9_meets_33 : decode cX9_meets 33 = .ok (.iconst 0, 1) := by decide +kernel
theorem dX9_meets_34 : decode cX9_meets 34 = .ok (.ireturn, 1) := by decide +kernel
theorem dX9_corner_0 : decode cX9_corner 0 = .ok (.aload_n 0, 1) := by decide +kernel
theorem dX9_corner_1 : decode cX9_corner 1 = .ok (.iload_n 1, 1) := by decide +kernel
theorem dX9_corner_2 : decode cX9_corner 2 = .ok (.iconst 1, 1) := by decide +kernel
theorem dX9_corner_3 : decode cX9_corner 3 = .ok (.sipush 400, 3) := by decide +kernel
theorem dX9_corner_6 : decode cX9_corner 6 = .ok (.invokevirtual 137, 3) := by decide +kernel
theorem dX9_corner_9 : decode cX9_corner 9 = .ok (.ifCond .eq 25, 3) := by decide +kernel
theorem dX9_corner_12 : decode cX9_corner 12 = .ok (.aload_n 0, 1) := by decide +kernel
theorem dX9_corner_13 : decode cX9_corner 13 = .ok (.iload_n 2, 1) := by decide +kernel
theorem dX9_corner_14 : decode cX9_corner 14 = .ok (.iconst 1, 1) := by decide +kernel
theorem dX9_corner_15 : decode cX9_corner 15 = .ok (.sipush 400, 3) := by decide +kernel
theorem dX9_corner_18 : decode cX9_corner 18 = .ok (.invokevirtual 137, 3) := by decide +kernel
theorem dX9_corner_21 : decode cX9_corner 21 = .ok (.ifCond .eq 13, 3) := by decide +kernel
theorem dX9_corner_24 : decode cX9_corner 24 = .ok (.aload_n 0, 1) := by decide +kernel
theorem dX9_corner_25 : decode cX9_corner 25 = .ok (.iload_n 3, 1) := by decide +kernel
theorem dX9_corner_26 : decode cX9_corner 26 = .ok (.iload 4, 2) := by decide +kernel
theorem dX9_corner_28 : decode cX9_corner 28 = .ok (.invokevirtual 195, 3) := by decide +kernel
theorem dX9_corner_31 : decode cX9_corner 31 = .ok (.ifCond .ne 5, 3) := by decide +kernel
theorem dX9_corner_34 : decode cX9_corner 34 = .ok (.iconst (-1), 1) := by decide +kernel
theorem dX9_corner_35 : decode cX9_corner 35 = .ok (.ireturn, 1) := by decide +kernel
theorem dX9_corner_36 : decode cX9_corner 36 = .ok (.aload_n 0, 1) := by decide +kernel
theorem dX9_corner_37 : decode cX9_corner 37 = .ok (.iload_n 1, 1) := by decide +kernel
theorem dX9_corner_38 : decode cX9_corner 38 = .ok (.iload_n 3, 1) := by decide +kernel
theorem dX9_corner_39 : decode cX9_corner 39 = .ok (.iload 4, 2) := by decide +kernel
theorem dX9_corner_41 : decode cX9_corner 41 = .ok (.invokevirtual 198, 3) := by decide +kernel
theorem dX9_corner_44 : decode cX9_corner 44 = .ok (.istore 5, 2) := by decide +kernel
theorem dX9_corner_46 : decode cX9_corner 46 = .ok (.aload_n 0, 1) := by decide +kernel
theorem dX9_corner_47 : decode cX9_corner 47 = .ok (.iload_n 2, 1) := by decide +kernel
theorem dX9_corner_48 : decode cX9_corner 48 = .ok (.iload_n 3, 1) := by decide +kernel
theorem dX9_corner_49 : decode cX9_corner 49 = .ok (.iload 4, 2) := by decide +kernel
theorem dX9_corner_51 : decode cX9_corner 51 = .ok (.invokevirtual 198, 3) := by decide +kernel
theorem dX9_corner_54 : decode cX9_corner 54 = .ok (.istore 6, 2) := by decide +kernel
theorem dX9_corner_56 : decode cX9_corner 56 = .ok (.iload 5, 2) := by decide +kernel
theorem dX9_corner_58 : decode cX9_corner 58 = .ok (.ifCond .lt 8, 3) := by decide +kernel
theorem dX9_corner_61 : decode cX9_corner 61 = .ok (.iload 6, 2) := by decide +kernel
theorem dX9_corner_63 : decode cX9_corner 63 = .ok (.ifCond .ge 8, 3) := by decide +kernel
theorem dX9_corner_66 : decode cX9_corner 66 = .ok (.bipush (-4), 2) := by decide +kernel
theorem dX9_corner_68 : decode cX9_corner 68 = .ok (.goto 19, 3) := by decide +kernel
theorem dX9_corner_71 : decode cX9_corner 71 = .ok (.aload_n 0, 1) := by decide +kernel
theorem dX9_corner_72 : decode cX9_corner 72 = .ok (.iload 5, 2) := by decide +kernel
theorem dX9_corner_74 : decode cX9_corner 74 = .ok (.iload 6, 2) := by decide +kernel
theorem dX9_corner_76 : decode cX9_corner 76 = .ok (.invokevirtual 202, 3) := by decide +kernel
theorem dX9_corner_79 : decode cX9_corner 79 = .ok (.ifCond .eq 7, 3) := by decide +kernel
theorem dX9_corner_82 : decode cX9_corner 82 = .ok (.iconst 1, 1) := by decide +kernel
theorem dX9_corner_83 : decode cX9_corner 83 = .ok (.goto 4, 3) := by decide +kernel
theorem dX9_corner_86 : decode cX9_corner 86 = .ok (.iconst 0, 1) := by decide +kernel
theorem dX9_corner_87 : decode cX9_corner 87 = .ok (.ireturn, 1) := by decide +kernel
theorem dX9_fits_0 : decode cX9_fits 0 = .ok (.aload_n 0, 1) := by decide +kernel
theorem dX9_fits_1 : decode cX9_fits 1 = .ok (.iload_n 1, 1) := by decide +kernel
theorem dX9_fits_2 : decode cX9_fits 2 = .ok (.iconst 1, 1) := by decide +kernel
theorem dX9_fits_3 : decode cX9_fits 3 = .ok (.sipush 400, 3) := by decide +kernel
theorem dX9_fits_6 : decode cX9_fits 6 = .ok (.invokevirtual 137, 3) := by decide +kernel
theorem dX9_fits_9 : decode cX9_fits 9 = .ok (.ifCond .eq 12, 3) := by decide +kernel
theorem dX9_fits_12 : decode cX9_fits 12 = .ok (.aload_n 0, 1) := by decide +kernel
theorem dX9_fits_13 : decode cX9_fits 13 = .ok (.iload_n 2, 1) := by decide +kernel
theorem dX9_fits_14 : decode cX9_fits 14 = .ok (.iload_n 3, 1) := by decide +kernel
theorem dX9_fits_15 : decode cX9_fits 15 = .ok (.invokevirtual 195, 3) := by decide +kernel
theorem dX9_fits_18 : decode cX9_fits 18 = .ok (.ifCond .ne 5, 3) := by decide +kernel
theorem dX9_fits_21 : decode cX9_fits 21 = .ok (.iconst (-1), 1) := by decide +kernel
theorem dX9_fits_22 : decode cX9_fits 22 = .ok (.ireturn, 1) := by decide +kernel
theorem dX9_fits_23 : decode cX9_fits 23 = .ok (.iload_n 1, 1) := by decide +kernel
theorem dX9_fits_24 : decode cX9_fits 24 = .ok (.istore 4, 2) := by decide +kernel
theorem dX9_fits_26 : decode cX9_fits 26 = .ok (.iload 4, 2) := by decide +kernel
theorem dX9_fits_28 : decode cX9_fits 28 = .ok (.sipush 400, 3) := by decide +kernel
theorem dX9_fits_31 : decode cX9_fits 31 = .ok (.if_icmp .gt 38, 3) := by decide +kernel
theorem dX9_fits_34 : decode cX9_fits 34 = .ok (.aload_n 0, 1) := by decide +kernel
theorem dX9_fits_35 : decode cX9_fits 35 = .ok (.iload 4, 2) := by decide +kernel
theorem dX9_fits_37 : decode cX9_fits 37 = .ok (.iload_n 2, 1) := by decide +kernel
theorem dX9_fits_38 : decode cX9_fits 38 = .ok (.iload_n 3, 1) := by decide +kernel
theorem dX9_fits_39 : decode cX9_fits 39 = .ok (.invokevirtual 198, 3) := by decide +kernel
theorem dX9_fits_42 : decode cX9_fits 42 = .ok (.istore 5, 2) := by decide +kernel
theorem dX9_fits_44 : decode cX9_fits 44 = .ok (.iload 5, 2) := by decide +kernel
theorem dX9_fits_46 : decode cX9_fits 46 = .ok (.ifCond .lt 17, 3) := by decide +kernel
theorem dX9_fits_49 : decode cX9_fits 49 = .ok (.aload_n 0, 1) := by decide +kernel
theorem dX9_fits_50 : decode cX9_fits 50 = .ok (.iload 5, 2) := by decide +kernel
theorem dX9_fits_52 : decode cX9_fits 52 = .ok (.iload 5, 2) := by decide +kernel
theorem dX9_fits_54 : decode cX9_fits 54 = .ok (.invokevirtual 202, 3) := by decide +kernel
theorem dX9_fits_57 : decode cX9_fits 57 = .ok (.ifCond .eq 6, 3) := by decide +kernel
theorem dX9_fits_60 : decode cX9_fits 60 = .ok (.iload 4, 2) := by decide +kernel
theorem dX9_fits_62 : decode cX9_fits 62 = .ok (.ireturn, 1) := by decide +kernel
theorem dX9_fits_63 : decode cX9_fits 63 = .ok (.iinc 4 1, 3) := by decide +kernel
theorem dX9_fits_66 : decode cX9_fits 66 = .ok (.goto (-40), 3) := by decide +kernel
theorem dX9_fits_69 : decode cX9_fits 69 = .ok (.bipush (-4), 2) := by decide +kernel
theorem dX9_fits_71 : decode cX9_fits 71 = .ok (.ireturn, 1) := by decide +kernel
theorem dX9_village_0 : decode cX9_village 0 = .ok (.aload_n 0, 1) := by decide +kernel
theorem dX9_village_1 : decode cX9_village 1 = .ok (.iload_n 1, 1) := by decide +kernel
theorem dX9_village_2 : decode cX9_village 2 = .ok (.iconst 0, 1) := by decide +kernel
theorem dX9_village_3 : decode cX9_village 3 = .ok (.sipush 255, 3) := by decide +kernel
theorem dX9_village_6 : decode cX9_village 6 = .ok (.invokevirtual 137, 3) := by decide +kernel
theorem dX9_village_9 : decode cX9_village 9 = .ok (.ifCond .ne 5, 3) := by decide +kernel
theorem dX9_village_12 : decode cX9_village 12 = .ok (.iconst (-1), 1) := by decide +kernel
theorem dX9_village_13 : decode cX9_village 13 = .ok (.ireturn, 1) := by decide +kernel
theorem dX9_village_14 : decode cX9_village 14 = .ok (.aload_n 0, 1) := by decide +kernel
theorem dX9_village_15 : decode cX9_village 15 = .ok (.getfield 89, 3) := by decide +kernel
theorem dX9_village_18 : decode cX9_village 18 = .ok (.bipush 8, 2) := by decide +kernel
theorem dX9_village_20 : decode cX9_village 20 = .ok (.if_icmp .ne 6, 3) := by decide +kernel
theorem dX9_village_23 : decode cX9_village 23 = .ok (.bipush (-2), 2) := by decide +kernel
theorem dX9_village_25 : decode cX9_village 25 = .ok (.ireturn, 1) := by decide +kernel
theorem dX9_village_26 : decode cX9_village 26 = .ok (.aload_n 0, 1) := by decide +kernel
theorem dX9_village_27 : decode cX9_village 27 = .ok (.getfield 98, 3) := by decide +kernel
theorem dX9_village_30 : decode cX9_village 30 = .ok (.aload_n 0, 1) := by decide +kernel
theorem dX9_village_31 : decode cX9_village 31 = .ok (.getfield 89, 3) := by decide +kernel
theorem dX9_village_34 : decode cX9_village 34 = .ok (.iload_n 1, 1) := by decide +kernel
theorem dX9_village_35 : decode cX9_village 35 = .ok (.iastore, 1) := by decide +kernel
theorem dX9_village_36 : decode cX9_village 36 = .ok (.aload_n 0, 1) := by decide +kernel
theorem dX9_village_37 : decode cX9_village 37 = .ok (.dup, 1) := by decide +kernel
theorem dX9_village_38 : decode cX9_village 38 = .ok (.getfield 89, 3) := by decide +kernel
theorem dX9_village_41 : decode cX9_village 41 = .ok (.iconst 1, 1) := by decide +kernel
theorem dX9_village_42 : decode cX9_village 42 = .ok (.iadd, 1) := by decide +kernel
theorem dX9_village_43 : decode cX9_village 43 = .ok (.putfield 89, 3) := by decide +kernel
theorem dX9_village_46 : decode cX9_village 46 = .ok (.aload_n 0, 1) := by decide +kernel
theorem dX9_village_47 : decode cX9_village 47 = .ok (.getfield 89, 3) := by decide +kernel
theorem dX9_village_50 : decode cX9_village 50 = .ok (.iconst 1, 1) := by decide +kernel
theorem dX9_village_51 : decode cX9_village 51 = .ok (.isub, 1) := by decide +kernel
theorem dX9_village_52 : decode cX9_village 52 = .ok (.ireturn, 1) := by decide +kernel
theorem dX9_apart_0 : decode cX9_apart 0 = .ok (.iconst 0, 1) := by decide +kernel
theorem dX9_apart_1 : decode cX9_apart 1 = .ok (.istore_n 3, 1) := by decide +kernel
theorem dX9_apart_2 : decode cX9_apart 2 = .ok (.iconst 0, 1) := by decide +kernel
theorem dX9_apart_3 : decode cX9_apart 3 = .ok (.istore 4, 2) := by decide +kernel
theorem dX9_apart_5 : decode cX9_apart 5 = .ok (.iload 4, 2) := by decide +kernel
theorem dX9_apart_7 : decode cX9_apart 7 = .ok (.bipush 8, 2) := by decide +kernel
theorem dX9_apart_9 : decode cX9_apart 9 = .ok (.if_icmp .ge 30, 3) := by decide +kernel
theorem dX9_apart_12 : decode cX9_apart 12 = .ok (.iload_n 3, 1) := by decide +kernel
theorem dX9_apart_13 : decode cX9_apart 13 = .ok (.aload_n 0, 1) := by decide +kernel
theorem dX9_apart_14 : decode cX9_apart 14 = .ok (.getfield 98, 3) := by decide +kernel
theorem dX9_apart_17 : decode cX9_apart 17 = .ok (.iload_n 1, 1) := by decide +kernel
theorem dX9_apart_18 : decode cX9_apart 18 = .ok (.iaload, 1) := by decide +kernel
theorem dX9_apart_19 : decode cX9_apart 19 = .ok (.aload_n 0, 1) := by decide +kernel
theorem dX9_apart_20 : decode cX9_apart 20 = .ok (.getfield 98, 3) := by decide +kernel
theorem dX9_apart_23 : decode cX9_apart 23 = .ok (.iload_n 2, 1) := by decide +kernel
theorem dX9_apart_24 : decode cX9_apart 24 = .ok (.iaload, 1) := by decide +kernel
theorem dX9_apart_25 : decode cX9_apart 25 = .ok (.ixor, 1) := by decide +kernel
theorem dX9_apart_26 : decode cX9_apart 26 = .ok (.iload 4, 2) := by decide +kernel
theorem dX9_apart_28 : decode cX9_apart 28 = .ok (.ishr, 1) := by decide +kernel
theorem dX9_apart_29 : decode cX9_apart 29 = .ok (.iconst 1, 1) := by decide +kernel
theorem dX9_apart_30 : decode cX9_apart 30 = .ok (.iand, 1) := by decide +kernel
theorem dX9_apart_31 : decode cX9_apart 31 = .ok (.iadd, 1) := by decide +kernel
theorem dX9_apart_32 : decode cX9_apart 32 = .ok (.istore_n 3, 1) := by decide +kernel
theorem dX9_apart_33 : decode cX9_apart 33 = .ok (.iinc 4 1, 3) := by decide +kernel
theorem dX9_apart_36 : decode cX9_apart 36 = .ok (.goto (-31), 3) := by decide +kernel
theorem dX9_apart_39 : decode cX9_apart 39 = .ok (.iload_n 3, 1) := by decide +kernel
theorem dX9_apart_40 : decode cX9_apart 40 = .ok (.ireturn, 1) := by decide +kernel
theorem dX9_join_0 : decode cX9_join 0 = .ok (.aload_n 0, 1) := by decide +kernel
theorem dX9_join_1 : decode cX9_join 1 = .ok (.getfield 101, 3) := by decide +kernel
theorem dX9_join_4 : decode cX9_join 4 = .ok (.iload_n 2, 1) := by decide +kernel
theorem dX9_join_5 : decode cX9_join 5 = .ok (.iaload, 1) := by decide +kernel
theorem dX9_join_6 : decode cX9_join 6 = .ok (.istore_n 3, 1) := by decide +kernel
theorem dX9_join_7 : decode cX9_join 7 = .ok (.aload_n 0, 1) := by decide +kernel
theorem dX9_join_8 : decode cX9_join 8 = .ok (.getfield 101, 3) := by decide +kernel
theorem dX9_join_11 : decode cX9_join 11 = .ok (.iload_n 1, 1) := by decide +kernel
theorem dX9_join_12 : decode cX9_join 12 = .ok (.iaload, 1) := by decide +kernel
theorem dX9_join_13 : decode cX9_join 13 = .ok (.istore 4, 2) := by decide +kernel
theorem dX9_join_15 : decode cX9_join 15 = .ok (.iconst 0, 1) := by decide +kernel
theorem dX9_join_16 : decode cX9_join 16 = .ok (.istore 5, 2) := by decide +kernel
theorem dX9_join_18 : decode cX9_join 18 = .ok (.iload 5, 2) := by decide +kernel
theorem dX9_join_20 : decode cX9_join 20 = .ok (.aload_n 0, 1) := by decide +kernel
theorem dX9_join_21 : decode cX9_join 21 = .ok (.getfield 89, 3) := by decide +kernel
theorem dX9_join_24 : decode cX9_join 24 = .ok (.if_icmp .ge 29, 3) := by decide +kernel
theorem dX9_join_27 : decode cX9_join 27 = .ok (.aload_n 0, 1) := by decide +kernel
theorem dX9_join_28 : decode cX9_join 28 = .ok (.getfield 101, 3) := by decide +kernel
theorem dX9_join_31 : decode cX9_join 31 = .ok (.iload 5, 2) := by decide +kernel
theorem dX9_join_33 : decode cX9_join 33 = .ok (.iaload, 1) := by decide +kernel
theorem dX9_join_34 : decode cX9_join 34 = .ok (.iload_n 3, 1) := by decide +kernel
theorem dX9_join_35 : decode cX9_join 35 = .ok (.if_icmp .ne 12, 3) := by decide +kernel
theorem dX9_join_38 : decode cX9_join 38 = .ok (.aload_n 0, 1) := by decide +kernel
theorem dX9_join_39 : decode cX9_join 39 = .ok (.getfield 101, 3) := by decide +kernel
theorem dX9_join_42 : decode cX9_join 42 = .ok (.iload 5, 2) := by decide +kernel
theorem dX9_join_44 : decode cX9_join 44 = .ok (.iload 4, 2) := by decide +kernel
theorem dX9_join_46 : decode cX9_join 46 = .ok (.iastore, 1) := by decide +kernel
theorem dX9_join_47 : decode cX9_join 47 = .ok (.iinc 5 1, 3) := by decide +kernel
theorem dX9_join_50 : decode cX9_join 50 = .ok (.goto (-32), 3) := by decide +kernel
theorem dX9_join_53 : decode cX9_join 53 = .ok (.return_, 1) := by decide +kernel
theorem dX9_makeTree_0 : decode cX9_makeTree 0 = .ok (.aload_n 0, 1) := by decide +kernel
theorem dX9_makeTree_1 : decode cX9_makeTree 1 = .ok (.iconst 0, 1) := by decide +kernel
theorem dX9_makeTree_2 : decode cX9_makeTree 2 = .ok (.putfield 92, 3) := by decide +kernel
theorem dX9_makeTree_5 : decode cX9_makeTree 5 = .ok (.aload_n 0, 1) := by decide +kernel
theorem dX9_makeTree_6 : decode cX9_makeTree 6 = .ok (.iconst 0, 1) := by decide +kernel
theorem dX9_makeTree_7 : decode cX9_makeTree 7 = .ok (.putfield 95, 3) := by decide +kernel
theorem dX9_makeTree_10 : decode cX9_makeTree 10 = .ok (.iconst 0, 1) := by decide +kernel
theorem dX9_makeTree_11 : decode cX9_makeTree 11 = .ok (.istore_n 1, 1) := by decide +kernel
theorem dX9_makeTree_12 : decode cX9_makeTree 12 = .ok (.iload_n 1, 1) := by decide +kernel
theorem dX9_makeTree_13 : decode cX9_makeTree 13 = .ok (.aload_n 0, 1) := by decide +kernel
theorem dX9_makeTree_14 : decode cX9_makeTree 14 = .ok (.getfield 89, 3) := by decide +kernel
theorem dX9_makeTree_17 : decode cX9_makeTree 17 = .ok (.if_icmp .ge 16, 3) := by decide +kernel
theorem dX9_makeTree_20 : decode cX9_makeTree 20 = .ok (.aload_n 0, 1) := by decide +kernel
theorem dX9_makeTree_21 : decode cX9_makeTree 21 = .ok (.getfield 101, 3) := by decide +kernel
theorem dX9_makeTree_24 : decode cX9_makeTree 24 = .ok (.iload_n 1, 1) := by decide +kernel
theorem dX9_makeTree_25 : decode cX9_makeTree 25 = .ok (.iload_n 1, 1) := by decide +kernel
theorem dX9_makeTree_26 : decode cX9_makeTree 26 = .ok (.iastore, 1) := by decide +kernel
theorem dX9_makeTree_27 : decode cX9_makeTree 27 = .ok (.iinc 1 1, 3) := by decide +kernel
theorem dX9_makeTree_30 : decode cX9_makeTree 30 = .ok (.goto (-18), 3) := by decide +kernel
theorem dX9_makeTree_33 : decode cX9_makeTree 33 = .ok (.iconst 0, 1) := by decide +kernel
theorem dX9_makeTree_34 : decode cX9_makeTree 34 = .ok (.istore_n 1, 1) := by decide +kernel
theorem dX9_makeTree_35 : decode cX9_makeTree 35 = .ok (.iload_n 1, 1) := by decide +kernel
theorem dX9_makeTree_36 : decode cX9_makeTree 36 = .ok (.bipush 9, 2) := by decide +kernel
theorem dX9_makeTree_38 : decode cX9_makeTree 38 = .ok (.if_icmp .ge 112, 3) := by decide +kernel
theorem dX9_makeTree_41 : decode cX9_makeTree 41 = .ok (.iconst 0, 1) := by decide +kernel
theorem dX9_makeTree_42 : decode cX9_makeTree 42 = .ok (.istore_n 2, 1) := by decide +kernel
theorem dX9_makeTree_43 : decode cX9_makeTree 43 = .ok (.iload_n 2, 1) := by decide +kernel
theorem dX9_makeTree_44 : decode cX9_makeTree 44 = .ok (.aload_n 0, 1) := by decide +kernel
theorem dX9_makeTree_45 : decode cX9_makeTree 45 = .ok (.getfield 89, 3) := by decide +kernel
theorem dX9_makeTree_48 : decode cX9_makeTree 48 = .ok (.if_icmp .ge 96, 3) := by decide +kernel
theorem dX9_makeTree_51 : decode cX9_makeTree 51 = .ok (.iload_n 2, 1) := by decide +kernel
theorem dX9_makeTree_52 : decode cX9_makeTree 52 = .ok (.iconst 1, 1) := by decide +kernel
theorem dX9_makeTree_53 : decode cX9_makeTree 53 = .ok (.iadd, 1) := by decide +kernel
theorem dX9_makeTree_54 : decode cX9_makeTree 54 = .ok (.istore_n 3, 1) := by decide +kernel
theorem dX9_makeTree_55 : decode cX9_makeTree 55 = .ok (.iload_n 3, 1) := by decide +kernel
theorem dX9_makeTree_56 : decode cX9_makeTree 56 = .ok (.aload_n 0, 1) := by decide +kernel
theorem dX9_makeTree_57 : decode cX9_makeTree 57 = .ok (.getfield 89, 3) := by decide +kernel
theorem dX9_makeTree_60 : decode cX9_makeTree 60 = .ok (.if_icmp .ge 78, 3) := by decide +kernel
theorem dX9_makeTree_63 : decode cX9_makeTree 63 = .ok (.aload_n 0, 1) := by decide +kernel
theorem dX9_makeTree_64 : decode cX9_makeTree 64 = .ok (.iload_n 2, 1) := by decide +kernel
theorem dX9_makeTree_65 : decode cX9_makeTree 65 = .ok (.iload_n 3, 1) := by decide +kernel
theorem dX9_makeTree_66 : decode cX9_makeTree 66 = .ok (.invokevirtual 205, 3) := by decide +kernel
theorem dX9_makeTree_69 : decode cX9_makeTree 69 = .ok (.iload_n 1, 1) := by decide +kernel
theorem dX9_makeTree_70 : decode cX9_makeTree 70 = .ok (.if_icmp .ne 62, 3) := by decide +kernel
theorem dX9_makeTree_73 : decode cX9_makeTree 73 = .ok (.aload_n 0, 1) := by decide +kernel
theorem dX9_makeTree_74 : decode cX9_makeTree 74 = .ok (.getfield 101, 3) := by decide +kernel
theorem dX9_makeTree_77 : decode cX9_makeTree 77 = .ok (.iload_n 2, 1) := by decide +kernel
theorem dX9_makeTree_78 : decode cX9_makeTree 78 = .ok (.iaload, 1) := by decide +kernel
theorem dX9_makeTree_79 : decode cX9_makeTree 79 = .ok (.aload_n 0, 1) := by decide +kernel
theorem dX9_makeTree_80 : decode cX9_makeTree 80 = .ok (.getfield 101, 3) := by decide +kernel
theorem dX9_makeTree_83 : decode cX9_makeTree 83 = .ok (.iload_n 3, 1) := by decide +kernel
theorem dX9_makeTree_84 : decode cX9_makeTree 84 = .ok (.iaload, 1) := by decide +kernel
theorem dX9_makeTree_85 : decode cX9_makeTree 85 = .ok (.if_icmp .ne 6, 3) := by decide +kernel
theorem dX9_makeTree_88 : decode cX9_makeTree 88 = .ok (.goto 44, 3) := by decide +kernel
theorem dX9_makeTree_91 : decode cX9_makeTree 91 = .ok (.aload_n 0, 1) := by decide +kernel
theorem dX9_makeTree_92 : decode cX9_makeTree 92 = .ok (.iload_n 2, 1) := by decide +kernel
theorem dX9_makeTree_93 : decode cX9_makeTree 93 = .ok (.iload_n 3, 1) := by decide +kernel
theorem dX9_makeTree_94 : decode cX9_makeTree 94 = .ok (.invokevirtual 208, 3) := by decide +kernel
theorem dX9_makeTree_97 : decode cX9_makeTree 97 = .ok (.aload_n 0, 1) := by decide +kernel
theorem dX9_makeTree_98 : decode cX9_makeTree 98 = .ok (.getfield 104, 3) := by decide +kernel
theorem dX9_makeTree_101 : decode cX9_makeTree 101 = .ok (.aload_n 0, 1) := by decide +kernel
theorem dX9_makeTree_102 : decode cX9_makeTree 102 = .ok (.getfield 92, 3) := by decide +kernel
theorem dX9_makeTree_105 : decode cX9_makeTree 105 = .ok (.bipush 10, 2) := by decide +kernel
theorem dX9_makeTree_107 : decode cX9_makeTree 107 = .ok (.iload_n 2, 1) := by decide +kernel
theorem dX9_makeTree_108 : decode cX9_makeTree 108 = .ok (.imul, 1) := by decide +kernel
theorem dX9_makeTree_109 : decode cX9_makeTree 109 = .ok (.iload_n 3, 1) := by decide +kernel
theorem dX9_makeTree_110 : decode cX9_makeTree 110 = .ok (.iadd, 1) := by decide +kernel
theorem dX9_makeTree_111 : decode cX9_makeTree 111 = .ok (.iastore, 1) := by decide +kernel
theorem dX9_makeTree_112 : decode cX9_makeTree 112 = .ok (.aload_n 0, 1) := by decide +kernel
theorem dX9_makeTree_113 : decode cX9_makeTree 113 = .ok (.dup, 1) := by decide +kernel
theorem dX9_makeTree_114 : decode cX9_makeTree 114 = .ok (.getfield 92, 3) := by decide +kernel
theorem dX9_makeTree_117 : decode cX9_makeTree 117 = .ok (.iconst 1, 1) := by decide +kernel
theorem dX9_makeTree_118 : decode cX9_makeTree 118 = .ok (.iadd, 1) := by decide +kernel
theorem dX9_makeTree_119 : decode cX9_makeTree 119 = .ok (.putfield 92, 3) := by decide +kernel
theorem dX9_makeTree_122 : decode cX9_makeTree 122 = .ok (.aload_n 0, 1) := by decide +kernel
theorem dX9_makeTree_123 : decode cX9_makeTree 123 = .ok (.dup, 1) := by decide +kernel
theorem dX9_makeTree_124 : decode cX9_makeTree 124 = .ok (.getfield 95, 3) := by decide +kernel
theorem dX9_makeTree_127 : decode cX9_makeTree 127 = .ok (.iload_n 1, 1) := by decide +kernel
theorem dX9_makeTree_128 : decode cX9_makeTree 128 = .ok (.iadd, 1) := by decide +kernel
theorem dX9_makeTree_129 : decode cX9_makeTree 129 = .ok (.putfield 95, 3) := by decide +kernel
theorem dX9_makeTree_132 : decode cX9_makeTree 132 = .ok (.iinc 3 1, 3) := by decide +kernel
theorem dX9_makeTree_135 : decode cX9_makeTree 135 = .ok (.goto (-80), 3) := by decide +kernel
theorem dX9_makeTree_138 : decode cX9_makeTree 138 = .ok (.iinc 2 1, 3) := by decide +kernel
theorem dX9_makeTree_141 : decode cX9_makeTree 141 = .ok (.goto (-98), 3) := by decide +kernel
theorem dX9_makeTree_144 : decode cX9_makeTree 144 = .ok (.iinc 1 1, 3) := by decide +kernel
theorem dX9_makeTree_147 : decode cX9_makeTree 147 = .ok (.goto (-112), 3) := by decide +kernel
theorem dX9_makeTree_150 : decode cX9_makeTree 150 = .ok (.return_, 1) := by decide +kernel
theorem dX9_tree_0 : decode cX9_tree 0 = .ok (.aload_n 0, 1) := by decide +kernel
theorem dX9_tree_1 : decode cX9_tree 1 = .ok (.getfield 89, 3) := by decide +kernel
theorem dX9_tree_4 : decode cX9_tree 4 = .ok (.ifCond .ne 6, 3) := by decide +kernel
theorem dX9_tree_7 : decode cX9_tree 7 = .ok (.bipush (-3), 2) := by decide +kernel
theorem dX9_tree_9 : decode cX9_tree 9 = .ok (.ireturn, 1) := by decide +kernel
theorem dX9_tree_10 : decode cX9_tree 10 = .ok (.aload_n 0, 1) := by decide +kernel
theorem dX9_tree_11 : decode cX9_tree 11 = .ok (.invokevirtual 212, 3) := by decide +kernel
theorem dX9_tree_14 : decode cX9_tree 14 = .ok (.aload_n 0, 1) := by decide +kernel
theorem dX9_tree_15 : decode cX9_tree 15 = .ok (.getfield 95, 3) := by decide +kernel
theorem dX9_tree_18 : decode cX9_tree 18 = .ok (.ireturn, 1) := by decide +kernel
theorem dX9_link_0 : decode cX9_link 0 = .ok (.iload_n 1, 1) := by decide +kernel
theorem dX9_link_1 : decode cX9_link 1 = .ok (.ifCond .ge 5, 3) := by decide +kernel
theorem dX9_link_4 : decode cX9_link 4 = .ok (.iconst (-1), 1) := by decide +kernel
theorem dX9_link_5 : decode cX9_link 5 = .ok (.ireturn, 1) := by decide +kernel
theorem dX9_link_6 : decode cX9_link 6 = .ok (.aload_n 0, 1) := by decide +kernel
theorem dX9_link_7 : decode cX9_link 7 = .ok (.invokevirtual 212, 3) := by decide +kernel
theorem dX9_link_10 : decode cX9_link 10 = .ok (.iload_n 1, 1) := by decide +kernel
theorem dX9_link_11 : decode cX9_link 11 = .ok (.aload_n 0, 1) := by decide +kernel
theorem dX9_link_12 : decode cX9_link 12 = .ok (.getfield 92, 3) := by decide +kernel
theorem dX9_link_15 : decode cX9_link 15 = .ok (.if_icmp .ge 12, 3) := by decide +kernel
theorem dX9_link_18 : decode cX9_link 18 = .ok (.aload_n 0, 1) := by decide +kernel
theorem dX9_link_19 : decode cX9_link 19 = .ok (.getfield 104, 3) := by decide +kernel
theorem dX9_link_22 : decode cX9_link 22 = .ok (.iload_n 1, 1) := by decide +kernel
theorem dX9_link_23 : decode cX9_link 23 = .ok (.iaload, 1) := by decide +kernel
theorem dX9_link_24 : decode cX9_link 24 = .ok (.goto 5, 3) := by decide +kernel
theorem dX9_link_27 : decode cX9_link 27 = .ok (.bipush (-3), 2) := by decide +kernel
theorem dX9_link_29 : decode cX9_link 29 = .ok (.ireturn, 1) := by decide +kernel
theorem dX9_isTree_0 : decode cX9_isTree 0 = .ok (.iconst 0, 1) := by decide +kernel
theorem dX9_isTree_1 : decode cX9_isTree 1 = .ok (.istore 4, 2) := by decide +kernel
theorem dX9_isTree_3 : decode cX9_isTree 3 = .ok (.iload 4, 2) := by decide +kernel
theorem dX9_isTree_5 : decode cX9_isTree 5 = .ok (.aload_n 0, 1) := by decide +kernel
theorem dX9_isTree_6 : decode cX9_isTree 6 = .ok (.getfield 89, 3) := by decide +kernel
theorem dX9_isTree_9 : decode cX9_isTree 9 = .ok (.if_icmp .ge 18, 3) := by decide +kernel
theorem dX9_isTree_12 : decode cX9_isTree 12 = .ok (.aload_n 0, 1) := by decide +kernel
theorem dX9_isTree_13 : decode cX9_isTree 13 = .ok (.getfield 101, 3) := by decide +kernel
theorem dX9_isTree_16 : decode cX9_isTree 16 = .ok (.iload 4, 2) := by decide +kernel
theorem dX9_isTree_18 : decode cX9_isTree 18 = .ok (.iload 4, 2) := by decide +kernel
theorem dX9_isTree_20 : decode cX9_isTree 20 = .ok (.iastore, 1) := by decide +kernel
theorem dX9_isTree_21 : decode cX9_isTree 21 = .ok (.iinc 4 1, 3) := by decide +kernel
theorem dX9_isTree_24 : decode cX9_isTree 24 = .ok (.goto (-21), 3) := by decide +kernel
theorem dX9_isTree_27 : decode cX9_isTree 27 = .ok (.iload_n 3, 1) := by decide +kernel
theorem dX9_isTree_28 : decode cX9_isTree 28 = .ok (.istore 4, 2) := by decide +kernel
theorem dX9_isTree_30 : decode cX9_isTree 30 = .ok (.iconst 0, 1) := by decide +kernel
theorem dX9_isTree_31 : decode cX9_isTree 31 = .ok (.istore 5, 2) := by decide +kernel
theorem dX9_isTree_33 : decode cX9_isTree 33 = .ok (.iload 5, 2) := by decide +kernel
theorem dX9_isTree_35 : decode cX9_isTree 35 = .ok (.iload_n 2, 1) := by decide +kernel
theorem dX9_isTree_36 : decode cX9_isTree 36 = .ok (.if_icmp .ge 91, 3) := by decide +kernel
theorem dX9_isTree_39 : decode cX9_isTree 39 = .ok (.iload_n 1, 1) := by decide +kernel
theorem dX9_isTree_40 : decode cX9_isTree 40 = .ok (.iload 5, 2) := by decide +kernel
theorem dX9_isTree_42 : decode cX9_isTree 42 = .ok (.ishr, 1) := by decide +kernel
theorem dX9_isTree_43 : decode cX9_isTree 43 = .ok (.iconst 1, 1) := by decide +kernel
theorem dX9_isTree_44 : decode cX9_isTree 44 = .ok (.iand, 1) := by decide +kernel
theorem dX9_isTree_45 : decode cX9_isTree 45 = .ok (.ifCond .ne 6, 3) := by decide +kernel
theorem dX9_isTree_48 : decode cX9_isTree 48 = .ok (.goto 73, 3) := by decide +kernel
theorem dX9_isTree_51 : decode cX9_isTree 51 = .ok (.aload_n 0, 1) := by decide +kernel
theorem dX9_isTree_52 : decode cX9_isTree 52 = .ok (.getfield 101, 3) := by decide +kernel
theorem dX9_isTree_55 : decode cX9_isTree 55 = .ok (.aload_n 0, 1) := by decide +kernel
theorem dX9_isTree_56 : decode cX9_isTree 56 = .ok (.getfield 107, 3) := by decide +kernel
theorem dX9_isTree_59 : decode cX9_isTree 59 = .ok (.iload 5, 2) := by decide +kernel
theorem dX9_isTree_61 : decode cX9_isTree 61 = .ok (.iaload, 1) := by decide +kernel
theorem dX9_isTree_62 : decode cX9_isTree 62 = .ok (.iaload, 1) := by decide +kernel
theorem dX9_isTree_63 : decode cX9_isTree 63 = .ok (.aload_n 0, 1) := by decide +kernel
theorem dX9_isTree_64 : decode cX9_isTree 64 = .ok (.getfield 101, 3) := by decide +kernel
theorem dX9_isTree_67 : decode cX9_isTree 67 = .ok (.aload_n 0, 1) := by decide +kernel
theorem dX9_isTree_68 : decode cX9_isTree 68 = .ok (.getfield 110, 3) := by decide +kernel
theorem dX9_isTree_71 : decode cX9_isTree 71 = .ok (.iload 5, 2) := by decide +kernel
theorem dX9_isTree_73 : decode cX9_isTree 73 = .ok (.iaload, 1) := by decide +kernel
theorem dX9_isTree_74 : decode cX9_isTree 74 = .ok (.iaload, 1) := by decide +kernel
theorem dX9_isTree_75 : decode cX9_isTree 75 = .ok (.if_icmp .ne 5, 3) := by decide +kernel
theorem dX9_isTree_78 : decode cX9_isTree 78 = .ok (.iconst 0, 1) := by decide +kernel
theorem dX9_isTree_79 : decode cX9_isTree 79 = .ok (.ireturn, 1) := by decide +kernel
theorem dX9_isTree_80 : decode cX9_isTree 80 = .ok (.aload_n 0, 1) := by decide +kernel
theorem dX9_isTree_81 : decode cX9_isTree 81 = .ok (.aload_n 0, 1) := by decide +kernel
theorem dX9_isTree_82 : decode cX9_isTree 82 = .ok (.getfield 107, 3) := by decide +kernel
theorem dX9_isTree_85 : decode cX9_isTree 85 = .ok (.iload 5, 2) := by decide +kernel
theorem dX9_isTree_87 : decode cX9_isTree 87 = .ok (.iaload, 1) := by decide +kernel
theorem dX9_isTree_88 : decode cX9_isTree 88 = .ok (.aload_n 0, 1) := by decide +kernel
theorem dX9_isTree_89 : decode cX9_isTree 89 = .ok (.getfield 110, 3) := by decide +kernel
theorem dX9_isTree_92 : decode cX9_isTree 92 = .ok (.iload 5, 2) := by decide +kernel
theorem dX9_isTree_94 : decode cX9_isTree 94 = .ok (.iaload, 1) := by decide +kernel
theorem dX9_isTree_95 : decode cX9_isTree 95 = .ok (.invokevirtual 208, 3) := by decide +kernel
theorem dX9_isTree_98 : decode cX9_isTree 98 = .ok (.iload 4, 2) := by decide +kernel
theorem dX9_isTree_100 : decode cX9_isTree 100 = .ok (.aload_n 0, 1) := by decide +kernel
theorem dX9_isTree_101 : decode cX9_isTree 101 = .ok (.aload_n 0, 1) := by decide +kernel
theorem dX9_isTree_102 : decode cX9_isTree 102 = .ok (.getfield 107, 3) := by decide +kernel
theorem dX9_isTree_105 : decode cX9_isTree 105 = .ok (.iload 5, 2) := by decide +kernel
theorem dX9_isTree_107 : decode cX9_isTree 107 = .ok (.iaload, 1) := by decide +kernel
theorem dX9_isTree_108 : decode cX9_isTree 108 = .ok (.aload_n 0, 1) := by decide +kernel
theorem dX9_isTree_109 : decode cX9_isTree 109 = .ok (.getfield 110, 3) := by decide +kernel
theorem dX9_isTree_112 : decode cX9_isTree 112 = .ok (.iload 5, 2) := by decide +kernel
theorem dX9_isTree_114 : decode cX9_isTree 114 = .ok (.iaload, 1) := by decide +kernel
theorem dX9_isTree_115 : decode cX9_isTree 115 = .ok (.invokevirtual 205, 3) := by decide +kernel
theorem dX9_isTree_118 : decode cX9_isTree 118 = .ok (.isub, 1) := by decide +kernel
theorem dX9_isTree_119 : decode cX9_isTree 119 = .ok (.istore 4, 2) := by decide +kernel
theorem dX9_isTree_121 : decode cX9_isTree 121 = .ok (.iinc 5 1, 3) := by decide +kernel
theorem dX9_isTree_124 : decode cX9_isTree 124 = .ok (.goto (-91), 3) := by decide +kernel
theorem dX9_isTree_127 : decode cX9_isTree 127 = .ok (.iload 4, 2) := by decide +kernel
theorem dX9_isTree_129 : decode cX9_isTree 129 = .ok (.ifCond .ne 7, 3) := by decide +kernel
theorem dX9_isTree_132 : decode cX9_isTree 132 = .ok (.iconst 1, 1) := by decide +kernel
theorem dX9_isTree_133 : decode cX9_isTree 133 = .ok (.goto 4, 3) := by decide +kernel
theorem dX9_isTree_136 : decode cX9_isTree 136 = .ok (.iconst 0, 1) := by decide +kernel
theorem dX9_isTree_137 : decode cX9_isTree 137 = .ok (.ireturn, 1) := by decide +kernel
theorem dX9_rivals_0 : decode cX9_rivals 0 = .ok (.aload_n 0, 1) := by decide +kernel
theorem dX9_rivals_1 : decode cX9_rivals 1 = .ok (.getfield 89, 3) := by decide +kernel
theorem dX9_rivals_4 : decode cX9_rivals 4 = .ok (.ifCond .ne 6, 3) := by decide +kernel
theorem dX9_rivals_7 : decode cX9_rivals 7 = .ok (.bipush (-3), 2) := by decide +kernel
theorem dX9_rivals_9 : decode cX9_rivals 9 = .ok (.ireturn, 1) := by decide +kernel
theorem dX9_rivals_10 : decode cX9_rivals 10 = .ok (.aload_n 0, 1) := by decide +kernel
theorem dX9_rivals_11 : decode cX9_rivals 11 = .ok (.getfield 89, 3) := by decide +kernel
theorem dX9_rivals_14 : decode cX9_rivals 14 = .ok (.bipush 6, 2) := by decide +kernel
theorem dX9_rivals_16 : decode cX9_rivals 16 = .ok (.if_icmp .le 6, 3) := by decide +kernel
theorem dX9_rivals_19 : decode cX9_rivals 19 = .ok (.bipush (-5), 2) := by decide +kernel
theorem dX9_rivals_21 : decode cX9_rivals 21 = .ok (.ireturn, 1) := by decide +kernel
theorem dX9_rivals_22 : decode cX9_rivals 22 = .ok (.aload_n 0, 1) := by decide +kernel
theorem dX9_rivals_23 : decode cX9_rivals 23 = .ok (.invokevirtual 212, 3) := by decide +kernel
theorem dX9_rivals_26 : decode cX9_rivals 26 = .ok (.aload_n 0, 1) := by decide +kernel
theorem dX9_rivals_27 : decode cX9_rivals 27 = .ok (.getfield 95, 3) := by decide +kernel
theorem dX9_rivals_30 : decode cX9_rivals 30 = .ok (.istore_n 1, 1) := by decide +kernel
theorem dX9_rivals_31 : decode cX9_rivals 31 = .ok (.iconst 0, 1) := by decide +kernel
theorem dX9_rivals_32 : decode cX9_rivals 32 = .ok (.istore_n 2, 1) := by decide +kernel
theorem dX9_rivals_33 : decode cX9_rivals 33 = .ok (.iconst 0, 1) := by decide +kernel
theorem dX9_rivals_34 : decode cX9_rivals 34 = .ok (.istore_n 3, 1) := by decide +kernel
theorem dX9_rivals_35 : decode cX9_rivals 35 = .ok (.iload_n 3, 1) := by decide +kernel
theorem dX9_rivals_36 : decode cX9_rivals 36 = .ok (.aload_n 0, 1) := by decide +kernel
theorem dX9_rivals_37 : decode cX9_rivals 37 = .ok (.getfield 89, 3) := by decide +kernel
theorem dX9_rivals_40 : decode cX9_rivals 40 = .ok (.if_icmp .ge 47, 3) := by decide +kernel
theorem dX9_rivals_43 : decode cX9_rivals 43 = .ok (.iload_n 3, 1) := by decide +kernel
theorem dX9_rivals_44 : decode cX9_rivals 44 = .ok (.iconst 1, 1) := by decide +kernel
theorem dX9_rivals_45 : decode cX9_rivals 45 = .ok (.iadd, 1) := by decide +kernel
theorem dX9_rivals_46 : decode cX9_rivals 46 = .ok (.istore 4, 2) := by decide +kernel
theorem dX9_rivals_48 : decode cX9_rivals 48 = .ok (.iload 4, 2) := by decide +kernel
theorem dX9_rivals_50 : decode cX9_rivals 50 = .ok (.aload_n 0, 1) := by decide +kernel
theorem dX9_rivals_51 : decode cX9_rivals 51 = .ok (.getfield 89, 3) := by decide +kernel
theorem dX9_rivals_54 : decode cX9_rivals 54 = .ok (.if_icmp .ge 27, 3) := by decide +kernel
theorem dX9_rivals_57 : decode cX9_rivals 57 = .ok (.aload_n 0, 1) := by decide +kernel
theorem dX9_rivals_58 : decode cX9_rivals 58 = .ok (.getfield 107, 3) := by decide +kernel
theorem dX9_rivals_61 : decode cX9_rivals 61 = .ok (.iload_n 2, 1) := by decide +kernel
theorem dX9_rivals_62 : decode cX9_rivals 62 = .ok (.iload_n 3, 1) := by decide +kernel
theorem dX9_rivals_63 : decode cX9_rivals 63 = .ok (.iastore, 1) := by decide +kernel
theorem dX9_rivals_64 : decode cX9_rivals 64 = .ok (.aload_n 0, 1) := by decide +kernel
theorem dX9_rivals_65 : decode cX9_rivals 65 = .ok (.getfield 110, 3) := by decide +kernel
theorem dX9_rivals_68 : decode cX9_rivals 68 = .ok (.iload_n 2, 1) := by decide +kernel
theorem dX9_rivals_69 : decode cX9_rivals 69 = .ok (.iload 4, 2) := by decide +kernel
theorem dX9_rivals_71 : decode cX9_rivals 71 = .ok (.iastore, 1) := by decide +kernel
theorem dX9_rivals_72 : decode cX9_rivals 72 = .ok (.iinc 2 1, 3) := by decide +kernel
theorem dX9_rivals_75 : decode cX9_rivals 75 = .ok (.iinc 4 1, 3) := by decide +kernel
theorem dX9_rivals_78 : decode cX9_rivals 78 = .ok (.goto (-30), 3) := by decide +kernel
theorem dX9_rivals_81 : decode cX9_rivals 81 = .ok (.iinc 3 1, 3) := by decide +kernel
theorem dX9_rivals_84 : decode cX9_rivals 84 = .ok (.goto (-49), 3) := by decide +kernel
theorem dX9_rivals_87 : decode cX9_rivals 87 = .ok (.iconst 0, 1) := by decide +kernel
theorem dX9_rivals_88 : decode cX9_rivals 88 = .ok (.istore_n 3, 1) := by decide +kernel
theorem dX9_rivals_89 : decode cX9_rivals 89 = .ok (.iconst 0, 1) := by decide +kernel
theorem dX9_rivals_90 : decode cX9_rivals 90 = .ok (.istore 4, 2) := by decide +kernel
theorem dX9_rivals_92 : decode cX9_rivals 92 = .ok (.iload 4, 2) := by decide +kernel
theorem dX9_rivals_94 : decode cX9_rivals 94 = .ok (.iconst 1, 1) := by decide +kernel
theorem dX9_rivals_95 : decode cX9_rivals 95 = .ok (.iload_n 2, 1) := by decide +kernel
theorem dX9_rivals_96 : decode cX9_rivals 96 = .ok (.ishl, 1) := by decide +kernel
theorem dX9_rivals_97 : decode cX9_rivals 97 = .ok (.if_icmp .ge 69, 3) := by decide +kernel
theorem dX9_rivals_100 : decode cX9_rivals 100 = .ok (.iconst 0, 1) := by decide +kernel
theorem dX9_rivals_101 : decode cX9_rivals 101 = .ok (.istore 5, 2) := by decide +kernel
theorem dX9_rivals_103 : decode cX9_rivals 103 = .ok (.iload 4, 2) := by decide +kernel
theorem dX9_rivals_105 : decode cX9_rivals 105 = .ok (.istore 6, 2) := by decide +kernel
theorem dX9_rivals_107 : decode cX9_rivals 107 = .ok (.iload 6, 2) := by decide +kernel
theorem dX9_rivals_109 : decode cX9_rivals 109 = .ok (.ifCond .le 21, 3) := by decide +kernel
theorem dX9_rivals_112 : decode cX9_rivals 112 = .ok (.iload 5, 2) := by decide +kernel
theorem dX9_rivals_114 : decode cX9_rivals 114 = .ok (.iload 6, 2) := by decide +kernel
theorem dX9_rivals_116 : decode cX9_rivals 116 = .ok (.iconst 1, 1) := by decide +kernel
theorem dX9_rivals_117 : decode cX9_rivals 117 = .ok (.iand, 1) := by decide +kernel
theorem dX9_rivals_118 : decode cX9_rivals 118 = .ok (.iadd, 1) := by decide +kernel
theorem dX9_rivals_119 : decode cX9_rivals 119 = .ok (.istore 5, 2) := by decide +kernel
theorem dX9_rivals_121 : decode cX9_rivals 121 = .ok (.iload 6, 2) := by decide +kernel
theorem dX9_rivals_123 : decode cX9_rivals 123 = .ok (.iconst 1, 1) := by decide +kernel
theorem dX9_rivals_124 : decode cX9_rivals 124 = .ok (.ishr, 1) := by decide +kernel
theorem dX9_rivals_125 : decode cX9_rivals 125 = .ok (.istore 6, 2) := by decide +kernel
