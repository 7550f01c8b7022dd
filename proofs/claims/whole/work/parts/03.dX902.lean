theorem dX9_isEnough_3 : decode cX9_isEnough 3 = .ok (.istore_n 2, 1) := by decide +kernel
theorem dX9_isEnough_4 : decode cX9_isEnough 4 = .ok (.iload_n 2, 1) := by decide +kernel
theorem dX9_isEnough_5 : decode cX9_isEnough 5 = .ok (.bipush 8, 2) := by decide +kernel
theorem dX9_isEnough_7 : decode cX9_isEnough 7 = .ok (.if_icmp .ge 67, 3) := by decide +kernel
theorem dX9_isEnough_10 : decode cX9_isEnough 10 = .ok (.iconst 0, 1) := by decide +kernel
theorem dX9_isEnough_11 : decode cX9_isEnough 11 = .ok (.istore_n 3, 1) := by decide +kernel
theorem dX9_isEnough_12 : decode cX9_isEnough 12 = .ok (.iconst 0, 1) := by decide +kernel
theorem dX9_isEnough_13 : decode cX9_isEnough 13 = .ok (.istore 4, 2) := by decide +kernel
theorem dX9_isEnough_15 : decode cX9_isEnough 15 = .ok (.iload 4, 2) := by decide +kernel
theorem dX9_isEnough_17 : decode cX9_isEnough 17 = .ok (.aload_n 0, 1) := by decide +kernel
theorem dX9_isEnough_18 : decode cX9_isEnough 18 = .ok (.getfield 134, 3) := by decide +kernel
theorem dX9_isEnough_21 : decode cX9_isEnough 21 = .ok (.if_icmp .ge 28, 3) := by decide +kernel
theorem dX9_isEnough_24 : decode cX9_isEnough 24 = .ok (.iload_n 3, 1) := by decide +kernel
theorem dX9_isEnough_25 : decode cX9_isEnough 25 = .ok (.aload_n 0, 1) := by decide +kernel
theorem dX9_isEnough_26 : decode cX9_isEnough 26 = .ok (.getfield 29, 3) := by decide +kernel
theorem dX9_isEnough_29 : decode cX9_isEnough 29 = .ok (.iload 4, 2) := by decide +kernel
theorem dX9_isEnough_31 : decode cX9_isEnough 31 = .ok (.iaload, 1) := by decide +kernel
theorem dX9_isEnough_32 : decode cX9_isEnough 32 = .ok (.iload_n 2, 1) := by decide +kernel
theorem dX9_isEnough_33 : decode cX9_isEnough 33 = .ok (.if_icmp .ne 7, 3) := by decide +kernel
theorem dX9_isEnough_36 : decode cX9_isEnough 36 = .ok (.iconst 1, 1) := by decide +kernel
theorem dX9_isEnough_37 : decode cX9_isEnough 37 = .ok (.goto 4, 3) := by decide +kernel
theorem dX9_isEnough_40 : decode cX9_isEnough 40 = .ok (.iconst 0, 1) := by decide +kernel
theorem dX9_isEnough_41 : decode cX9_isEnough 41 = .ok (.iadd, 1) := by decide +kernel
theorem dX9_isEnough_42 : decode cX9_isEnough 42 = .ok (.istore_n 3, 1) := by decide +kernel
theorem dX9_isEnough_43 : decode cX9_isEnough 43 = .ok (.iinc 4 1, 3) := by decide +kernel
theorem dX9_isEnough_46 : decode cX9_isEnough 46 = .ok (.goto (-31), 3) := by decide +kernel
theorem dX9_isEnough_49 : decode cX9_isEnough 49 = .ok (.iload_n 1, 1) := by decide +kernel
theorem dX9_isEnough_50 : decode cX9_isEnough 50 = .ok (.ifCond .eq 16, 3) := by decide +kernel
theorem dX9_isEnough_53 : decode cX9_isEnough 53 = .ok (.iload_n 3, 1) := by decide +kernel
theorem dX9_isEnough_54 : decode cX9_isEnough 54 = .ok (.aload_n 0, 1) := by decide +kernel
theorem dX9_isEnough_55 : decode cX9_isEnough 55 = .ok (.iload_n 2, 1) := by decide +kernel
theorem dX9_isEnough_56 : decode cX9_isEnough 56 = .ok (.invokevirtual 175, 3) := by decide +kernel
theorem dX9_isEnough_59 : decode cX9_isEnough 59 = .ok (.if_icmp .gt 7, 3) := by decide +kernel
theorem dX9_isEnough_62 : decode cX9_isEnough 62 = .ok (.iconst 1, 1) := by decide +kernel
theorem dX9_isEnough_63 : decode cX9_isEnough 63 = .ok (.goto 4, 3) := by decide +kernel
theorem dX9_isEnough_66 : decode cX9_isEnough 66 = .ok (.iconst 0, 1) := by decide +kernel
theorem dX9_isEnough_67 : decode cX9_isEnough 67 = .ok (.istore_n 1, 1) := by decide +kernel
theorem dX9_isEnough_68 : decode cX9_isEnough 68 = .ok (.iinc 2 1, 3) := by decide +kernel
theorem dX9_isEnough_71 : decode cX9_isEnough 71 = .ok (.goto (-67), 3) := by decide +kernel
theorem dX9_isEnough_74 : decode cX9_isEnough 74 = .ok (.iload_n 1, 1) := by decide +kernel
theorem dX9_isEnough_75 : decode cX9_isEnough 75 = .ok (.ireturn, 1) := by decide +kernel
theorem dX9_takeWool_0 : decode cX9_takeWool 0 = .ok (.iconst 0, 1) := by decide +kernel
theorem dX9_takeWool_1 : decode cX9_takeWool 1 = .ok (.istore_n 2, 1) := by decide +kernel
theorem dX9_takeWool_2 : decode cX9_takeWool 2 = .ok (.aload_n 0, 1) := by decide +kernel
theorem dX9_takeWool_3 : decode cX9_takeWool 3 = .ok (.getfield 68, 3) := by decide +kernel
theorem dX9_takeWool_6 : decode cX9_takeWool 6 = .ok (.bipush 10, 2) := by decide +kernel
theorem dX9_takeWool_8 : decode cX9_takeWool 8 = .ok (.iload_n 1, 1) := by decide +kernel
theorem dX9_takeWool_9 : decode cX9_takeWool 9 = .ok (.imul, 1) := by decide +kernel
theorem dX9_takeWool_10 : decode cX9_takeWool 10 = .ok (.iload_n 2, 1) := by decide +kernel
theorem dX9_takeWool_11 : decode cX9_takeWool 11 = .ok (.iadd, 1) := by decide +kernel
theorem dX9_takeWool_12 : decode cX9_takeWool 12 = .ok (.iaload, 1) := by decide +kernel
theorem dX9_takeWool_13 : decode cX9_takeWool 13 = .ok (.ifCond .ne 9, 3) := by decide +kernel
theorem dX9_takeWool_16 : decode cX9_takeWool 16 = .ok (.iinc 2 1, 3) := by decide +kernel
theorem dX9_takeWool_19 : decode cX9_takeWool 19 = .ok (.goto (-17), 3) := by decide +kernel
theorem dX9_takeWool_22 : decode cX9_takeWool 22 = .ok (.aload_n 0, 1) := by decide +kernel
theorem dX9_takeWool_23 : decode cX9_takeWool 23 = .ok (.getfield 68, 3) := by decide +kernel
theorem dX9_takeWool_26 : decode cX9_takeWool 26 = .ok (.bipush 10, 2) := by decide +kernel
theorem dX9_takeWool_28 : decode cX9_takeWool 28 = .ok (.iload_n 1, 1) := by decide +kernel
theorem dX9_takeWool_29 : decode cX9_takeWool 29 = .ok (.imul, 1) := by decide +kernel
theorem dX9_takeWool_30 : decode cX9_takeWool 30 = .ok (.iload_n 2, 1) := by decide +kernel
theorem dX9_takeWool_31 : decode cX9_takeWool 31 = .ok (.iadd, 1) := by decide +kernel
theorem dX9_takeWool_32 : decode cX9_takeWool 32 = .ok (.dup2, 1) := by decide +kernel
theorem dX9_takeWool_33 : decode cX9_takeWool 33 = .ok (.iaload, 1) := by decide +kernel
theorem dX9_takeWool_34 : decode cX9_takeWool 34 = .ok (.iconst 1, 1) := by decide +kernel
theorem dX9_takeWool_35 : decode cX9_takeWool 35 = .ok (.isub, 1) := by decide +kernel
theorem dX9_takeWool_36 : decode cX9_takeWool 36 = .ok (.iastore, 1) := by decide +kernel
theorem dX9_takeWool_37 : decode cX9_takeWool 37 = .ok (.aload_n 0, 1) := by decide +kernel
theorem dX9_takeWool_38 : decode cX9_takeWool 38 = .ok (.getfield 65, 3) := by decide +kernel
theorem dX9_takeWool_41 : decode cX9_takeWool 41 = .ok (.bipush 10, 2) := by decide +kernel
theorem dX9_takeWool_43 : decode cX9_takeWool 43 = .ok (.iload_n 1, 1) := by decide +kernel
theorem dX9_takeWool_44 : decode cX9_takeWool 44 = .ok (.imul, 1) := by decide +kernel
theorem dX9_takeWool_45 : decode cX9_takeWool 45 = .ok (.iload_n 2, 1) := by decide +kernel
theorem dX9_takeWool_46 : decode cX9_takeWool 46 = .ok (.iadd, 1) := by decide +kernel
theorem dX9_takeWool_47 : decode cX9_takeWool 47 = .ok (.iaload, 1) := by decide +kernel
theorem dX9_takeWool_48 : decode cX9_takeWool 48 = .ok (.ireturn, 1) := by decide +kernel
theorem dX9_minutesOf_0 : decode cX9_minutesOf 0 = .ok (.iconst 0, 1) := by decide +kernel
theorem dX9_minutesOf_1 : decode cX9_minutesOf 1 = .ok (.istore_n 2, 1) := by decide +kernel
theorem dX9_minutesOf_2 : decode cX9_minutesOf 2 = .ok (.iconst 0, 1) := by decide +kernel
theorem dX9_minutesOf_3 : decode cX9_minutesOf 3 = .ok (.istore_n 3, 1) := by decide +kernel
theorem dX9_minutesOf_4 : decode cX9_minutesOf 4 = .ok (.iconst (-1), 1) := by decide +kernel
theorem dX9_minutesOf_5 : decode cX9_minutesOf 5 = .ok (.istore 4, 2) := by decide +kernel
theorem dX9_minutesOf_7 : decode cX9_minutesOf 7 = .ok (.iconst 0, 1) := by decide +kernel
theorem dX9_minutesOf_8 : decode cX9_minutesOf 8 = .ok (.istore 5, 2) := by decide +kernel
theorem dX9_minutesOf_10 : decode cX9_minutesOf 10 = .ok (.iload 5, 2) := by decide +kernel
theorem dX9_minutesOf_12 : decode cX9_minutesOf 12 = .ok (.aload_n 0, 1) := by decide +kernel
theorem dX9_minutesOf_13 : decode cX9_minutesOf 13 = .ok (.getfield 134, 3) := by decide +kernel
theorem dX9_minutesOf_16 : decode cX9_minutesOf 16 = .ok (.if_icmp .ge 59, 3) := by decide +kernel
theorem dX9_minutesOf_19 : decode cX9_minutesOf 19 = .ok (.aload_n 0, 1) := by decide +kernel
theorem dX9_minutesOf_20 : decode cX9_minutesOf 20 = .ok (.iload 5, 2) := by decide +kernel
theorem dX9_minutesOf_22 : decode cX9_minutesOf 22 = .ok (.invokevirtual 178, 3) := by decide +kernel
theorem dX9_minutesOf_25 : decode cX9_minutesOf 25 = .ok (.iload_n 1, 1) := by decide +kernel
theorem dX9_minutesOf_26 : decode cX9_minutesOf 26 = .ok (.if_icmp .eq 6, 3) := by decide +kernel
theorem dX9_minutesOf_29 : decode cX9_minutesOf 29 = .ok (.goto 40, 3) := by decide +kernel
theorem dX9_minutesOf_32 : decode cX9_minutesOf 32 = .ok (.iinc 2 1, 3) := by decide +kernel
theorem dX9_minutesOf_35 : decode cX9_minutesOf 35 = .ok (.iload_n 3, 1) := by decide +kernel
theorem dX9_minutesOf_36 : decode cX9_minutesOf 36 = .ok (.iload 4, 2) := by decide +kernel
theorem dX9_minutesOf_38 : decode cX9_minutesOf 38 = .ok (.ifCond .lt 19, 3) := by decide +kernel
theorem dX9_minutesOf_41 : decode cX9_minutesOf 41 = .ok (.aload_n 0, 1) := by decide +kernel
theorem dX9_minutesOf_42 : decode cX9_minutesOf 42 = .ok (.getfield 29, 3) := by decide +kernel
theorem dX9_minutesOf_45 : decode cX9_minutesOf 45 = .ok (.iload 5, 2) := by decide +kernel
theorem dX9_minutesOf_47 : decode cX9_minutesOf 47 = .ok (.iaload, 1) := by decide +kernel
theorem dX9_minutesOf_48 : decode cX9_minutesOf 48 = .ok (.iload 4, 2) := by decide +kernel
theorem dX9_minutesOf_50 : decode cX9_minutesOf 50 = .ok (.if_icmp .eq 7, 3) := by decide +kernel
theorem dX9_minutesOf_53 : decode cX9_minutesOf 53 = .ok (.iconst 1, 1) := by decide +kernel
theorem dX9_minutesOf_54 : decode cX9_minutesOf 54 = .ok (.goto 4, 3) := by decide +kernel
theorem dX9_minutesOf_57 : decode cX9_minutesOf 57 = .ok (.iconst 0, 1) := by decide +kernel
theorem dX9_minutesOf_58 : decode cX9_minutesOf 58 = .ok (.iadd, 1) := by decide +kernel
theorem dX9_minutesOf_59 : decode cX9_minutesOf 59 = .ok (.istore_n 3, 1) := by decide +kernel
theorem dX9_minutesOf_60 : decode cX9_minutesOf 60 = .ok (.aload_n 0, 1) := by decide +kernel
theorem dX9_minutesOf_61 : decode cX9_minutesOf 61 = .ok (.getfield 29, 3) := by decide +kernel
theorem dX9_minutesOf_64 : decode cX9_minutesOf 64 = .ok (.iload 5, 2) := by decide +kernel
theorem dX9_minutesOf_66 : decode cX9_minutesOf 66 = .ok (.iaload, 1) := by decide +kernel
theorem dX9_minutesOf_67 : decode cX9_minutesOf 67 = .ok (.istore 4, 2) := by decide +kernel
theorem dX9_minutesOf_69 : decode cX9_minutesOf 69 = .ok (.iinc 5 1, 3) := by decide +kernel
theorem dX9_minutesOf_72 : decode cX9_minutesOf 72 = .ok (.goto (-62), 3) := by decide +kernel
theorem dX9_minutesOf_75 : decode cX9_minutesOf 75 = .ok (.iload_n 2, 1) := by decide +kernel
theorem dX9_minutesOf_76 : decode cX9_minutesOf 76 = .ok (.aload_n 0, 1) := by decide +kernel
theorem dX9_minutesOf_77 : decode cX9_minutesOf 77 = .ok (.getfield 59, 3) := by decide +kernel
theorem dX9_minutesOf_80 : decode cX9_minutesOf 80 = .ok (.iload_n 1, 1) := by decide +kernel
theorem dX9_minutesOf_81 : decode cX9_minutesOf 81 = .ok (.iaload, 1) := by decide +kernel
theorem dX9_minutesOf_82 : decode cX9_minutesOf 82 = .ok (.iadd, 1) := by decide +kernel
theorem dX9_minutesOf_83 : decode cX9_minutesOf 83 = .ok (.iconst 1, 1) := by decide +kernel
theorem dX9_minutesOf_84 : decode cX9_minutesOf 84 = .ok (.isub, 1) := by decide +kernel
theorem dX9_minutesOf_85 : decode cX9_minutesOf 85 = .ok (.aload_n 0, 1) := by decide +kernel
theorem dX9_minutesOf_86 : decode cX9_minutesOf 86 = .ok (.getfield 59, 3) := by decide +kernel
theorem dX9_minutesOf_89 : decode cX9_minutesOf 89 = .ok (.iload_n 1, 1) := by decide +kernel
theorem dX9_minutesOf_90 : decode cX9_minutesOf 90 = .ok (.iaload, 1) := by decide +kernel
theorem dX9_minutesOf_91 : decode cX9_minutesOf 91 = .ok (.idiv, 1) := by decide +kernel
theorem dX9_minutesOf_92 : decode cX9_minutesOf 92 = .ok (.iload_n 3, 1) := by decide +kernel
theorem dX9_minutesOf_93 : decode cX9_minutesOf 93 = .ok (.iadd, 1) := by decide +kernel
theorem dX9_minutesOf_94 : decode cX9_minutesOf 94 = .ok (.ireturn, 1) := by decide +kernel
theorem dX9_tie_0 : decode cX9_tie 0 = .ok (.aload_n 0, 1) := by decide +kernel
theorem dX9_tie_1 : decode cX9_tie 1 = .ok (.iload_n 1, 1) := by decide +kernel
theorem dX9_tie_2 : decode cX9_tie 2 = .ok (.invokevirtual 165, 3) := by decide +kernel
theorem dX9_tie_5 : decode cX9_tie 5 = .ok (.ifCond .ne 5, 3) := by decide +kernel
theorem dX9_tie_8 : decode cX9_tie 8 = .ok (.iconst (-1), 1) := by decide +kernel
theorem dX9_tie_9 : decode cX9_tie 9 = .ok (.ireturn, 1) := by decide +kernel
theorem dX9_tie_10 : decode cX9_tie 10 = .ok (.aload_n 0, 1) := by decide +kernel
theorem dX9_tie_11 : decode cX9_tie 11 = .ok (.iload_n 1, 1) := by decide +kernel
theorem dX9_tie_12 : decode cX9_tie 12 = .ok (.invokevirtual 168, 3) := by decide +kernel
theorem dX9_tie_15 : decode cX9_tie 15 = .ok (.istore_n 2, 1) := by decide +kernel
theorem dX9_tie_16 : decode cX9_tie 16 = .ok (.iload_n 2, 1) := by decide +kernel
theorem dX9_tie_17 : decode cX9_tie 17 = .ok (.ifCond .ge 6, 3) := by decide +kernel
theorem dX9_tie_20 : decode cX9_tie 20 = .ok (.bipush (-6), 2) := by decide +kernel
theorem dX9_tie_22 : decode cX9_tie 22 = .ok (.ireturn, 1) := by decide +kernel
theorem dX9_tie_23 : decode cX9_tie 23 = .ok (.iload_n 2, 1) := by decide +kernel
theorem dX9_tie_24 : decode cX9_tie 24 = .ok (.aload_n 0, 1) := by decide +kernel
theorem dX9_tie_25 : decode cX9_tie 25 = .ok (.getfield 134, 3) := by decide +kernel
theorem dX9_tie_28 : decode cX9_tie 28 = .ok (.if_icmp .eq 6, 3) := by decide +kernel
theorem dX9_tie_31 : decode cX9_tie 31 = .ok (.bipush (-4), 2) := by decide +kernel
theorem dX9_tie_33 : decode cX9_tie 33 = .ok (.ireturn, 1) := by decide +kernel
theorem dX9_tie_34 : decode cX9_tie 34 = .ok (.aload_n 0, 1) := by decide +kernel
theorem dX9_tie_35 : decode cX9_tie 35 = .ok (.getfield 71, 3) := by decide +kernel
theorem dX9_tie_38 : decode cX9_tie 38 = .ok (.bipush 40, 2) := by decide +kernel
theorem dX9_tie_40 : decode cX9_tie 40 = .ok (.if_icmp .ne 6, 3) := by decide +kernel
theorem dX9_tie_43 : decode cX9_tie 43 = .ok (.bipush (-2), 2) := by decide +kernel
theorem dX9_tie_45 : decode cX9_tie 45 = .ok (.ireturn, 1) := by decide +kernel
theorem dX9_tie_46 : decode cX9_tie 46 = .ok (.aload_n 0, 1) := by decide +kernel
theorem dX9_tie_47 : decode cX9_tie 47 = .ok (.invokevirtual 181, 3) := by decide +kernel
theorem dX9_tie_50 : decode cX9_tie 50 = .ok (.ifCond .ne 6, 3) := by decide +kernel
theorem dX9_tie_53 : decode cX9_tie 53 = .ok (.bipush (-5), 2) := by decide +kernel
theorem dX9_tie_55 : decode cX9_tie 55 = .ok (.ireturn, 1) := by decide +kernel
theorem dX9_tie_56 : decode cX9_tie 56 = .ok (.iconst 0, 1) := by decide +kernel
theorem dX9_tie_57 : decode cX9_tie 57 = .ok (.istore_n 3, 1) := by decide +kernel
theorem dX9_tie_58 : decode cX9_tie 58 = .ok (.iconst 0, 1) := by decide +kernel
theorem dX9_tie_59 : decode cX9_tie 59 = .ok (.istore 4, 2) := by decide +kernel
theorem dX9_tie_61 : decode cX9_tie 61 = .ok (.iload 4, 2) := by decide +kernel
theorem dX9_tie_63 : decode cX9_tie 63 = .ok (.bipush 6, 2) := by decide +kernel
theorem dX9_tie_65 : decode cX9_tie 65 = .ok (.if_icmp .ge 30, 3) := by decide +kernel
theorem dX9_tie_68 : decode cX9_tie 68 = .ok (.aload_n 0, 1) := by decide +kernel
theorem dX9_tie_69 : decode cX9_tie 69 = .ok (.iload 4, 2) := by decide +kernel
theorem dX9_tie_71 : decode cX9_tie 71 = .ok (.invokevirtual 185, 3) := by decide +kernel
theorem dX9_tie_74 : decode cX9_tie 74 = .ok (.iload_n 3, 1) := by decide +kernel
theorem dX9_tie_75 : decode cX9_tie 75 = .ok (.if_icmp .le 12, 3) := by decide +kernel
theorem dX9_tie_78 : decode cX9_tie 78 = .ok (.aload_n 0, 1) := by decide +kernel
theorem dX9_tie_79 : decode cX9_tie 79 = .ok (.iload 4, 2) := by decide +kernel
theorem dX9_tie_81 : decode cX9_tie 81 = .ok (.invokevirtual 185, 3) := by decide +kernel
theorem dX9_tie_84 : decode cX9_tie 84 = .ok (.goto 4, 3) := by decide +kernel
theorem dX9_tie_87 : decode cX9_tie 87 = .ok (.iload_n 3, 1) := by decide +kernel
theorem dX9_tie_88 : decode cX9_tie 88 = .ok (.istore_n 3, 1) := by decide +kernel
theorem dX9_tie_89 : decode cX9_tie 89 = .ok (.iinc 4 1, 3) := by decide +kernel
theorem dX9_tie_92 : decode cX9_tie 92 = .ok (.goto (-31), 3) := by decide +kernel
theorem dX9_tie_95 : decode cX9_tie 95 = .ok (.iconst 0, 1) := by decide +kernel
theorem dX9_tie_96 : decode cX9_tie 96 = .ok (.istore 4, 2) := by decide +kernel
theorem dX9_tie_98 : decode cX9_tie 98 = .ok (.iconst 0, 1) := by decide +kernel
theorem dX9_tie_99 : decode cX9_tie 99 = .ok (.istore 5, 2) := by decide +kernel
theorem dX9_tie_101 : decode cX9_tie 101 = .ok (.iload 5, 2) := by decide +kernel
theorem dX9_tie_103 : decode cX9_tie 103 = .ok (.aload_n 0, 1) := by decide +kernel
theorem dX9_tie_104 : decode cX9_tie 104 = .ok (.getfield 134, 3) := by decide +kernel
theorem dX9_tie_107 : decode cX9_tie 107 = .ok (.if_icmp .ge 94, 3) := by decide +kernel
theorem dX9_tie_110 : decode cX9_tie 110 = .ok (.bipush 40, 2) := by decide +kernel
theorem dX9_tie_112 : decode cX9_tie 112 = .ok (.aload_n 0, 1) := by decide +kernel
theorem dX9_tie_113 : decode cX9_tie 113 = .ok (.getfield 71, 3) := by decide +kernel
theorem dX9_tie_116 : decode cX9_tie 116 = .ok (.imul, 1) := by decide +kernel
theorem dX9_tie_117 : decode cX9_tie 117 = .ok (.iload 5, 2) := by decide +kernel
theorem dX9_tie_119 : decode cX9_tie 119 = .ok (.iadd, 1) := by decide +kernel
theorem dX9_tie_120 : decode cX9_tie 120 = .ok (.istore 6, 2) := by decide +kernel
theorem dX9_tie_122 : decode cX9_tie 122 = .ok (.aload_n 0, 1) := by decide +kernel
theorem dX9_tie_123 : decode cX9_tie 123 = .ok (.getfield 32, 3) := by decide +kernel
theorem dX9_tie_126 : decode cX9_tie 126 = .ok (.iload 4, 2) := by decide +kernel
theorem dX9_tie_128 : decode cX9_tie 128 = .ok (.iaload, 1) := by decide +kernel
theorem dX9_tie_129 : decode cX9_tie 129 = .ok (.iload 5, 2) := by decide +kernel
theorem dX9_tie_131 : decode cX9_tie 131 = .ok (.if_icmp .gt 9, 3) := by decide +kernel
theorem dX9_tie_134 : decode cX9_tie 134 = .ok (.iinc 4 1, 3) := by decide +kernel
theorem dX9_tie_137 : decode cX9_tie 137 = .ok (.goto (-15), 3) := by decide +kernel
theorem dX9_tie_140 : decode cX9_tie 140 = .ok (.aload_n 0, 1) := by decide +kernel
theorem dX9_tie_141 : decode cX9_tie 141 = .ok (.getfield 74, 3) := by decide +kernel
theorem dX9_tie_144 : decode cX9_tie 144 = .ok (.iload 6, 2) := by decide +kernel
theorem dX9_tie_146 : decode cX9_tie 146 = .ok (.aload_n 0, 1) := by decide +kernel
theorem dX9_tie_147 : decode cX9_tie 147 = .ok (.getfield 29, 3) := by decide +kernel
theorem dX9_tie_150 : decode cX9_tie 150 = .ok (.iload 5, 2) := by decide +kernel
theorem dX9_tie_152 : decode cX9_tie 152 = .ok (.iaload, 1) := by decide +kernel
theorem dX9_tie_153 : decode cX9_tie 153 = .ok (.iastore, 1) := by decide +kernel
theorem dX9_tie_154 : decode cX9_tie 154 = .ok (.aload_n 0, 1) := by decide +kernel
theorem dX9_tie_155 : decode cX9_tie 155 = .ok (.getfield 77, 3) := by decide +kernel
theorem dX9_tie_158 : decode cX9_tie 158 = .ok (.iload 6, 2) := by decide +kernel
theorem dX9_tie_160 : decode cX9_tie 160 = .ok (.aload_n 0, 1) := by decide +kernel
theorem dX9_tie_161 : decode cX9_tie 161 = .ok (.getfield 29, 3) := by decide +kernel
theorem dX9_tie_164 : decode cX9_tie 164 = .ok (.iload 5, 2) := by decide +kernel
theorem dX9_tie_166 : decode cX9_tie 166 = .ok (.iaload, 1) := by decide +kernel
theorem dX9_tie_167 : decode cX9_tie 167 = .ok (.iastore, 1) := by decide +kernel
theorem dX9_tie_168 : decode cX9_tie 168 = .ok (.aload_n 0, 1) := by decide +kernel
theorem dX9_tie_169 : decode cX9_tie 169 = .ok (.getfield 80, 3) := by decide +kernel
theorem dX9_tie_172 : decode cX9_tie 172 = .ok (.iload 6, 2) := by decide +kernel
theorem dX9_tie_174 : decode cX9_tie 174 = .ok (.aload_n 0, 1) := by decide +kernel
theorem dX9_tie_175 : decode cX9_tie 175 = .ok (.aload_n 0, 1) := by decide +kernel
theorem dX9_tie_176 : decode cX9_tie 176 = .ok (.getfield 29, 3) := by decide +kernel
theorem dX9_tie_179 : decode cX9_tie 179 = .ok (.iload 5, 2) := by decide +kernel
theorem dX9_tie_181 : decode cX9_tie 181 = .ok (.iaload, 1) := by decide +kernel
theorem dX9_tie_182 : decode cX9_tie 182 = .ok (.invokevirtual 188, 3) := by decide +kernel
theorem dX9_tie_185 : decode cX9_tie 185 = .ok (.iastore, 1) := by decide +kernel
theorem dX9_tie_186 : decode cX9_tie 186 = .ok (.aload_n 0, 1) := by decide +kernel
theorem dX9_tie_187 : decode cX9_tie 187 = .ok (.getfield 83, 3) := by decide +kernel
theorem dX9_tie_190 : decode cX9_tie 190 = .ok (.iload 6, 2) := by decide +kernel
theorem dX9_tie_192 : decode cX9_tie 192 = .ok (.iload 4, 2) := by decide +kernel
theorem dX9_tie_194 : decode cX9_tie 194 = .ok (.iastore, 1) := by decide +kernel
theorem dX9_tie_195 : decode cX9_tie 195 = .ok (.iinc 5 1, 3) := by decide +kernel
theorem dX9_tie_198 : decode cX9_tie 198 = .ok (.goto (-97), 3) := by decide +kernel
theorem dX9_tie_201 : decode cX9_tie 201 = .ok (.aload_n 0, 1) := by decide +kernel
theorem dX9_tie_202 : decode cX9_tie 202 = .ok (.getfield 86, 3) := by decide +kernel
theorem dX9_tie_205 : decode cX9_tie 205 = .ok (.aload_n 0, 1) := by decide +kernel
theorem dX9_tie_206 : decode cX9_tie 206 = .ok (.getfield 71, 3) := by decide +kernel
theorem dX9_tie_209 : decode cX9_tie 209 = .ok (.iload_n 3, 1) := by decide +kernel
theorem dX9_tie_210 : decode cX9_tie 210 = .ok (.iastore, 1) := by decide +kernel
theorem dX9_tie_211 : decode cX9_tie 211 = .ok (.aload_n 0, 1) := by decide +kernel
theorem dX9_tie_212 : decode cX9_tie 212 = .ok (.dup, 1) := by decide +kernel
theorem dX9_tie_213 : decode cX9_tie 213 = .ok (.getfield 71, 3) := by decide +kernel
theorem dX9_tie_216 : decode cX9_tie 216 = .ok (.iconst 1, 1) := by decide +kernel
theorem dX9_tie_217 : decode cX9_tie 217 = .ok (.iadd, 1) := by decide +kernel
theorem dX9_tie_218 : decode cX9_tie 218 = .ok (.putfield 71, 3) := by decide +kernel
theorem dX9_tie_221 : decode cX9_tie 221 = .ok (.aload_n 0, 1) := by decide +kernel
theorem dX9_tie_222 : decode cX9_tie 222 = .ok (.getfield 71, 3) := by decide +kernel
theorem dX9_tie_225 : decode cX9_tie 225 = .ok (.iconst 1, 1) := by decide +kernel
theorem dX9_tie_226 : decode cX9_tie 226 = .ok (.isub, 1) := by decide +kernel
theorem dX9_tie_227 : decode cX9_tie 227 = .ok (.ireturn, 1) := by decide +kernel
theorem dX9_isKnot_0 : decode cX9_isKnot 0 = .ok (.aload_n 0, 1) := by decide +kernel
theorem dX9_isKnot_1 : decode cX9_isKnot 1 = .ok (.iload_n 1, 1) := by decide +kernel
theorem dX9_isKnot_2 : decode cX9_isKnot 2 = .ok (.iconst 0, 1) := by decide +kernel
theorem dX9_isKnot_3 : decode cX9_isKnot 3 = .ok (.aload_n 0, 1) := by decide +kernel
theorem dX9_isKnot_4 : decode cX9_isKnot 4 = .ok (.getfield 71, 3) := by decide +kernel
theorem dX9_isKnot_7 : decode cX9_isKnot 7 = .ok (.iconst 1, 1) := by decide +kernel
theorem dX9_isKnot_8 : decode cX9_isKnot 8 = .ok (.isub, 1) := by decide +kernel
theorem dX9_isKnot_9 : decode cX9_isKnot 9 = .ok (.invokevirtual 137, 3) := by decide +kernel
theorem dX9_isKnot_12 : decode cX9_isKnot 12 = .ok (.ifCond .eq 22, 3) := by decide +kernel
theorem dX9_isKnot_15 : decode cX9_isKnot 15 = .ok (.aload_n 0, 1) := by decide +kernel
theorem dX9_isKnot_16 : decode cX9_isKnot 16 = .ok (.iload_n 2, 1) := by decide +kernel
theorem dX9_isKnot_17 : decode cX9_isKnot 17 = .ok (.iconst 0, 1) := by decide +kernel
theorem dX9_isKnot_18 : decode cX9_isKnot 18 = .ok (.aload_n 0, 1) := by decide +kernel
theorem dX9_isKnot_19 : decode cX9_isKnot 19 = .ok (.getfield 134, 3) := by decide +kernel
theorem dX9_isKnot_22 : decode cX9_isKnot 22 = .ok (.iconst 1, 1) := by decide +kernel
theorem dX9_isKnot_23 : decode cX9_isKnot 23 = .ok (.isub, 1) := by decide +kernel
theorem dX9_isKnot_24 : decode cX9_isKnot 24 = .ok (.invokevirtual 137, 3) := by decide +kernel
theorem dX9_isKnot_27 : decode cX9_isKnot 27 = .ok (.ifCond .eq 7, 3) := by decide +kernel
theorem dX9_isKnot_30 : decode cX9_isKnot 30 = .ok (.iconst 1, 1) := by decide +kernel
theorem dX9_isKnot_31 : decode cX9_isKnot 31 = .ok (.goto 4, 3) := by decide +kernel
theorem dX9_isKnot_34 : decode cX9_isKnot 34 = .ok (.iconst 0, 1) := by decide +kernel
theorem dX9_isKnot_35 : decode cX9_isKnot 35 = .ok (.ireturn, 1) := by decide +kernel
theorem dX9_knot_0 : decode cX9_knot 0 = .ok (.aload_n 0, 1) := by decide +kernel
theorem dX9_knot_1 : decode cX9_knot 1 = .ok (.iload_n 1, 1) := by decide +kernel
theorem dX9_knot_2 : decode cX9_knot 2 = .ok (.iload_n 2, 1) := by decide +kernel
theorem dX9_knot_3 : decode cX9_knot 3 = .ok (.invokevirtual 191, 3) := by decide +kernel
theorem dX9_knot_6 : decode cX9_knot 6 = .ok (.ifCond .eq 17, 3) := by decide +kernel
theorem dX9_knot_9 : decode cX9_knot 9 = .ok (.aload_n 0, 1) := by decide +kernel
theorem dX9_knot_10 : decode cX9_knot 10 = .ok (.getfield 77, 3) := by decide +kernel
theorem dX9_knot_13 : decode cX9_knot 13 = .ok (.bipush 40, 2) := by decide +kernel
theorem dX9_knot_15 : decode cX9_knot 15 = .ok (.iload_n 1, 1) := by decide +kernel
theorem dX9_knot_16 : decode cX9_knot 16 = .ok (.imul, 1) := by decide +kernel
theorem dX9_knot_17 : decode cX9_knot 17 = .ok (.iload_n 2, 1) := by decide +kernel
theorem dX9_knot_18 : decode cX9_knot 18 = .ok (.iadd, 1) := by decide +kernel
theorem dX9_knot_19 : decode cX9_knot 19 = .ok (.iaload, 1) := by decide +kernel
theorem dX9_knot_20 : decode cX9_knot 20 = .ok (.goto 4, 3) := by decide +kernel
theorem dX9_knot_23 : decode cX9_knot 23 = .ok (.iconst (-1), 1) := by decide +kernel
theorem dX9_knot_24 : decode cX9_knot 24 = .ok (.ireturn, 1) := by decide +kernel
theorem dX9_look_0 : decode cX9_look 0 = .ok (.aload_n 0, 1) := by decide +kernel
theorem dX9_look_1 : decode cX9_look 1 = .ok (.iload_n 1, 1) := by decide +kernel
theorem dX9_look_2 : decode cX9_look 2 = .ok (.iload_n 2, 1) := by decide +kernel
theorem dX9_look_3 : decode cX9_look 3 = .ok (.invokevirtual 191, 3) := by decide +kernel
theorem dX9_look_6 : decode cX9_look 6 = .ok (.ifCond .eq 13, 3) := by decide +kernel
theorem dX9_look_9 : decode cX9_look 9 = .ok (.aload_n 0, 1) := by decide +kernel
theorem dX9_look_10 : decode cX9_look 10 = .ok (.iload_n 3, 1) := by decide +kernel
theorem dX9_look_11 : decode cX9_look 11 = .ok (.iconst 0, 1) := by decide +kernel
theorem dX9_look_12 : decode cX9_look 12 = .ok (.iconst 4, 1) := by decide +kernel
theorem dX9_look_13 : decode cX9_look 13 = .ok (.invokevirtual 137, 3) := by decide +kernel
theorem dX9_look_16 : decode cX9_look 16 = .ok (.ifCond .ne 5, 3) := by decide +kernel
theorem dX9_look_19 : decode cX9_look 19 = .ok (.iconst (-1), 1) := by decide +kernel
theorem dX9_look_20 : decode cX9_look 20 = .ok (.ireturn, 1) := by decide +kernel
theorem dX9_look_21 : decode cX9_look 21 = .ok (.bipush 40, 2) := by decide +kernel
theorem dX9_look_23 : decode cX9_look 23 = .ok (.iload_n 1, 1) := by decide +kernel
theorem dX9_look_24 : decode cX9_look 24 = .ok (.imul, 1) := by decide +kernel
theorem dX9_look_25 : decode cX9_look 25 = .ok (.iload_n 2, 1) := by decide +kernel
theorem dX9_look_26 : decode cX9_look 26 = .ok (.iadd, 1) := by decide +kernel
theorem dX9_look_27 : decode cX9_look 27 = .ok (.istore 4, 2) := by decide +kernel
theorem dX9_look_29 : decode cX9_look 29 = .ok (.iload_n 3, 1) := by decide +kernel
theorem dX9_look_30 : decode cX9_look 30 = .ok (.ifCond .ne 11, 3) := by decide +kernel
theorem dX9_look_33 : decode cX9_look 33 = .ok (.aload_n 0, 1) := by decide +kernel
theorem dX9_look_34 : decode cX9_look 34 = .ok (.iload_n 2, 1) := by decide +kernel
theorem dX9_look_35 : decode cX9_look 35 = .ok (.invokevirtual 178, 3) := by decide +kernel
theorem dX9_look_38 : decode cX9_look 38 = .ok (.goto 70, 3) := by decide +kernel
theorem dX9_look_41 : decode cX9_look 41 = .ok (.iload_n 3, 1) := by decide +kernel
theorem dX9_look_42 : decode cX9_look 42 = .ok (.iconst 1, 1) := by decide +kernel
theorem dX9_look_43 : decode cX9_look 43 = .ok (.if_icmp .ne 13, 3) := by decide +kernel
theorem dX9_look_46 : decode cX9_look 46 = .ok (.aload_n 0, 1) := by decide +kernel
theorem dX9_look_47 : decode cX9_look 47 = .ok (.getfield 80, 3) := by decide +kernel
theorem dX9_look_50 : decode cX9_look 50 = .ok (.iload 4, 2) := by decide +kernel
theorem dX9_look_52 : decode cX9_look 52 = .ok (.iaload, 1) := by decide +kernel
theorem dX9_look_53 : decode cX9_look 53 = .ok (.goto 55, 3) := by decide +kernel
theorem dX9_look_56 : decode cX9_look 56 = .ok (.iload_n 3, 1) := by decide +kernel
theorem dX9_look_57 : decode cX9_look 57 = .ok (.iconst 2, 1) := by decide +kernel
theorem dX9_look_58 : decode cX9_look 58 = .ok (.if_icmp .ne 13, 3) := by decide +kernel
theorem dX9_look_61 : decode cX9_look 61 = .ok (.aload_n 0, 1) := by decide +kernel
theorem dX9_look_62 : decode cX9_look 62 = .ok (.getfield 74, 3) := by decide +kernel
theorem dX9_look_65 : decode cX9_look 65 = .ok (.iload 4, 2) := by decide +kernel
theorem dX9_look_67 : decode cX9_look 67 = .ok (.iaload, 1) := by decide +kernel
theorem dX9_look_68 : decode cX9_look 68 = .ok (.goto 40, 3) := by decide +kernel
theorem dX9_look_71 : decode cX9_look 71 = .ok (.iload_n 3, 1) := by decide +kernel
theorem dX9_look_72 : decode cX9_look 72 = .ok (.iconst 3, 1) := by decide +kernel
theorem dX9_look_73 : decode cX9_look 73 = .ok (.if_icmp .ne 13, 3) := by decide +kernel
theorem dX9_look_76 : decode cX9_look 76 = .ok (.aload_n 0, 1) := by decide +kernel
theorem dX9_look_77 : decode cX9_look 77 = .ok (.getfield 83, 3) := by decide +kernel
theorem dX9_look_80 : decode cX9_look 80 = .ok (.iload 4, 2) := by decide +kernel
theorem dX9_look_82 : decode cX9_look 82 = .ok (.iaload, 1) := by decide +kernel
theorem dX9_look_83 : decode cX9_look 83 = .ok (.goto 25, 3) := by decide +kernel
theorem dX9_look_86 : decode cX9_look 86 = .ok (.aload_n 0, 1) := by decide +kernel
theorem dX9_look_87 : decode cX9_look 87 = .ok (.getfield 77, 3) := by decide +kernel
theorem dX9_look_90 : decode cX9_look 90 = .ok (.iload 4, 2) := by decide +kernel
theorem dX9_look_92 : decode cX9_look 92 = .ok (.iaload, 1) := by decide +kernel
theorem dX9_look_93 : decode cX9_look 93 = .ok (.aload_n 0, 1) := by decide +kernel
theorem dX9_look_94 : decode cX9_look 94 = .ok (.getfield 74, 3) := by decide +kernel
theorem dX9_look_97 : decode cX9_look 97 = .ok (.iload 4, 2) := by decide +kernel
theorem dX9_look_99 : decode cX9_look 99 = .ok (.iaload, 1) := by decide +kernel
theorem dX9_look_100 : decode cX9_look 100 = .ok (.if_icmp .eq 7, 3) := by decide +kernel
theorem dX9_look_103 : decode cX9_look 103 = .ok (.iconst 1, 1) := by decide +kernel
theorem dX9_look_104 : decode cX9_look 104 = .ok (.goto 4, 3) := by decide +kernel
theorem dX9_look_107 : decode cX9_look 107 = .ok (.iconst 0, 1) := by decide +kernel
theorem dX9_look_108 : decode cX9_look 108 = .ok (.ireturn, 1) := by decide +kernel
theorem dX9_found_0 : decode cX9_found 0 = .ok (.aload_n 0, 1) := by decide +kernel
theorem dX9_found_1 : decode cX9_found 1 = .ok (.iload_n 1, 1) := by decide +kernel
theorem dX9_found_2 : decode cX9_found 2 = .ok (.iload_n 2, 1) := by decide +kernel
theorem dX9_found_3 : decode cX9_found 3 = .ok (.invokevirtual 191, 3) := by decide +kernel
theorem dX9_found_6 : decode cX9_found 6 = .ok (.ifCond .eq 11, 3) := by decide +kernel
theorem dX9_found_9 : decode cX9_found 9 = .ok (.aload_n 0, 1) := by decide +kernel
theorem dX9_found_10 : decode cX9_found 10 = .ok (.iload_n 3, 1) := by decide +kernel
theorem dX9_found_11 : decode cX9_found 11 = .ok (.invokevirtual 145, 3) := by decide +kernel
theorem dX9_found_14 : decode cX9_found 14 = .ok (.ifCond .ne 5, 3) := by decide +kernel
theorem dX9_found_17 : decode cX9_found 17 = .ok (.iconst (-1), 1) := by decide +kernel
theorem dX9_found_18 : decode cX9_found 18 = .ok (.ireturn, 1) := by decide +kernel
theorem dX9_found_19 : decode cX9_found 19 = .ok (.aload_n 0, 1) := by decide +kernel
theorem dX9_found_20 : decode cX9_found 20 = .ok (.getfield 77, 3) := by decide +kernel
theorem dX9_found_23 : decode cX9_found 23 = .ok (.bipush 40, 2) := by decide +kernel
theorem dX9_found_25 : decode cX9_found 25 = .ok (.iload_n 1, 1) := by decide +kernel
theorem dX9_found_26 : decode cX9_found 26 = .ok (.imul, 1) := by decide +kernel
theorem dX9_found_27 : decode cX9_found 27 = .ok (.iload_n 2, 1) := by decide +kernel
theorem dX9_found_28 : decode cX9_found 28 = .ok (.iadd, 1) := by decide +kernel
theorem dX9_found_29 : decode cX9_found 29 = .ok (.iload_n 3, 1) := by decide +kernel
theorem dX9_found_30 : decode cX9_found 30 = .ok (.iastore, 1) := by decide +kernel
theorem dX9_found_31 : decode cX9_found 31 = .ok (.iload_n 3, 1) := by decide +kernel
theorem dX9_found_32 : decode cX9_found 32 = .ok (.aload_n 0, 1) := by decide +kernel
theorem dX9_found_33 : decode cX9_found 33 = .ok (.getfield 74, 3) := by decide +kernel
theorem dX9_found_36 : decode cX9_found 36 = .ok (.bipush 40, 2) := by decide +kernel
theorem dX9_found_38 : decode cX9_found 38 = .ok (.iload_n 1, 1) := by decide +kernel
theorem dX9_found_39 : decode cX9_found 39 = .ok (.imul, 1) := by decide +kernel
theorem dX9_found_40 : decode cX9_found 40 = .ok (.iload_n 2, 1) := by decide +kernel
theorem dX9_found_41 : decode cX9_found 41 = .ok (.iadd, 1) := by decide +kernel
theorem dX9_found_42 : decode cX9_found 42 = .ok (.iaload, 1) := by decide +kernel
theorem dX9_found_43 : decode cX9_found 43 = .ok (.if_icmp .eq 7, 3) := by decide +kernel
theorem dX9_found_46 : decode cX9_found 46 = .ok (.iconst 1, 1) := by decide +kernel
theorem dX9_found_47 : decode cX9_found 47 = .ok (.goto 4, 3) := by decide +kernel
theorem dX9_found_50 : decode cX9_found 50 = .ok (.iconst 0, 1) := by decide +kernel
theorem dX9_found_51 : decode cX9_found 51 = .ok (.ireturn, 1) := by decide +kernel
theorem dX9_cut_0 : decode cX9_cut 0 = .ok (.aload_n 0, 1) := by decide +kernel
theorem dX9_cut_1 : decode cX9_cut 1 = .ok (.getfield 71, 3) := by decide +kernel
theorem dX9_cut_4 : decode cX9_cut 4 = .ok (.ifCond .ne 6, 3) := by decide +kernel
theorem dX9_cut_7 : decode cX9_cut 7 = .ok (.bipush (-3), 2) := by decide +kernel
theorem dX9_cut_9 : decode cX9_cut 9 = .ok (.ireturn, 1) := by decide +kernel
theorem dX9_cut_10 : decode cX9_cut 10 = .ok (.aload_n 0, 1) := by decide +kernel
theorem dX9_cut_11 : decode cX9_cut 11 = .ok (.dup, 1) := by decide +kernel
theorem dX9_cut_12 : decode cX9_cut 12 = .ok (.getfield 71, 3) := by decide +kernel
theorem dX9_cut_15 : decode cX9_cut 15 = .ok (.iconst 1, 1) := by decide +kernel
theorem dX9_cut_16 : decode cX9_cut 16 = .ok (.isub, 1) := by decide +kernel
theorem dX9_cut_17 : decode cX9_cut 17 = .ok (.putfield 71, 3) := by decide +kernel
theorem dX9_cut_20 : decode cX9_cut 20 = .ok (.aload_n 0, 1) := by decide +kernel
theorem dX9_cut_21 : decode cX9_cut 21 = .ok (.getfield 71, 3) := by decide +kernel
theorem dX9_cut_24 : decode cX9_cut 24 = .ok (.ireturn, 1) := by decide +kernel
theorem dX9_minutes_0 : decode cX9_minutes 0 = .ok (.aload_n 0, 1) := by decide +kernel
theorem dX9_minutes_1 : decode cX9_minutes 1 = .ok (.iload_n 1, 1) := by decide +kernel
theorem dX9_minutes_2 : decode cX9_minutes 2 = .ok (.iconst 0, 1) := by decide +kernel
theorem dX9_minutes_3 : decode cX9_minutes 3 = .ok (.aload_n 0, 1) := by decide +kernel
theorem dX9_minutes_4 : decode cX9_minutes 4 = .ok (.getfield 71, 3) := by decide +kernel
theorem dX9_minutes_7 : decode cX9_minutes 7 = .ok (.iconst 1, 1) := by decide +kernel
theorem dX9_minutes_8 : decode cX9_minutes 8 = .ok (.isub, 1) := by decide +kernel
theorem dX9_minutes_9 : decode cX9_minutes 9 = .ok (.invokevirtual 137, 3) := by decide +kernel
theorem dX9_minutes_12 : decode cX9_minutes 12 = .ok (.ifCond .eq 12, 3) := by decide +kernel
theorem dX9_minutes_15 : decode cX9_minutes 15 = .ok (.aload_n 0, 1) := by decide +kernel
theorem dX9_minutes_16 : decode cX9_minutes 16 = .ok (.getfield 86, 3) := by decide +kernel
theorem dX9_minutes_19 : decode cX9_minutes 19 = .ok (.iload_n 1, 1) := by decide +kernel
theorem dX9_minutes_20 : decode cX9_minutes 20 = .ok (.iaload, 1) := by decide +kernel
theorem dX9_minutes_21 : decode cX9_minutes 21 = .ok (.goto 4, 3) := by decide +kernel
theorem dX9_minutes_24 : decode cX9_minutes 24 = .ok (.iconst (-1), 1) := by decide +kernel
theorem dX9_minutes_25 : decode cX9_minutes 25 = .ok (.ireturn, 1) := by decide +kernel
theorem dX9_shifts_0 : decode cX9_shifts 0 = .ok (.aload_n 0, 1) := by decide +kernel
theorem dX9_shifts_1 : decode cX9_shifts 1 = .ok (.iload_n 1, 1) := by decide +kernel
theorem dX9_shifts_2 : decode cX9_shifts 2 = .ok (.iconst 0, 1) := by decide +kernel
theorem dX9_shifts_3 : decode cX9_shifts 3 = .ok (.iconst 1, 1) := by decide +kernel
theorem dX9_shifts_4 : decode cX9_shifts 4 = .ok (.invokevirtual 137, 3) := by decide +kernel
theorem dX9_shifts_7 : decode cX9_shifts 7 = .ok (.ifCond .ne 5, 3) := by decide +kernel
theorem dX9_shifts_10 : decode cX9_shifts 10 = .ok (.iconst (-1), 1) := by decide +kernel
theorem dX9_shifts_11 : decode cX9_shifts 11 = .ok (.ireturn, 1) := by decide +kernel
theorem dX9_shifts_12 : decode cX9_shifts 12 = .ok (.iconst 0, 1) := by decide +kernel
theorem dX9_shifts_13 : decode cX9_shifts 13 = .ok (.istore_n 2, 1) := by decide +kernel
theorem dX9_shifts_14 : decode cX9_shifts 14 = .ok (.iconst 0, 1) := by decide +kernel
theorem dX9_shifts_15 : decode cX9_shifts 15 = .ok (.istore_n 3, 1) := by decide +kernel
theorem dX9_shifts_16 : decode cX9_shifts 16 = .ok (.iload_n 3, 1) := by decide +kernel
theorem dX9_shifts_17 : decode cX9_shifts 17 = .ok (.bipush 8, 2) := by decide +kernel
theorem dX9_shifts_19 : decode cX9_shifts 19 = .ok (.if_icmp .ge 120, 3) := by decide +kernel
theorem dX9_shifts_22 : decode cX9_shifts 22 = .ok (.iconst (-1), 1) := by decide +kernel
theorem dX9_shifts_23 : decode cX9_shifts 23 = .ok (.istore 4, 2) := by decide +kernel
theorem dX9_shifts_25 : decode cX9_shifts 25 = .ok (.iconst 0, 1) := by decide +kernel
theorem dX9_shifts_26 : decode cX9_shifts 26 = .ok (.istore 5, 2) := by decide +kernel
theorem dX9_shifts_28 : decode cX9_shifts 28 = .ok (.iload 5, 2) := by decide +kernel
theorem dX9_shifts_30 : decode cX9_shifts 30 = .ok (.aload_n 0, 1) := by decide +kernel
theorem dX9_shifts_31 : decode cX9_shifts 31 = .ok (.getfield 71, 3) := by decide +kernel
theorem dX9_shifts_34 : decode cX9_shifts 34 = .ok (.if_icmp .ge 99, 3) := by decide +kernel
theorem dX9_shifts_37 : decode cX9_shifts 37 = .ok (.iconst 0, 1) := by decide +kernel
theorem dX9_shifts_38 : decode cX9_shifts 38 = .ok (.istore 6, 2) := by decide +kernel
theorem dX9_shifts_40 : decode cX9_shifts 40 = .ok (.iload 6, 2) := by decide +kernel
theorem dX9_shifts_42 : decode cX9_shifts 42 = .ok (.aload_n 0, 1) := by decide +kernel
theorem dX9_shifts_43 : decode cX9_shifts 43 = .ok (.getfield 134, 3) := by decide +kernel
theorem dX9_shifts_46 : decode cX9_shifts 46 = .ok (.if_icmp .ge 81, 3) := by decide +kernel
theorem dX9_shifts_49 : decode cX9_shifts 49 = .ok (.bipush 40, 2) := by decide +kernel
theorem dX9_shifts_51 : decode cX9_shifts 51 = .ok (.iload 5, 2) := by decide +kernel
theorem dX9_shifts_53 : decode cX9_shifts 53 = .ok (.imul, 1) := by decide +kernel
theorem dX9_shifts_54 : decode cX9_shifts 54 = .ok (.iload 6, 2) := by decide +kernel
theorem dX9_shifts_56 : decode cX9_shifts 56 = .ok (.iadd, 1) := by decide +kernel
theorem dX9_shifts_57 : decode cX9_shifts 57 = .ok (.istore 7, 2) := by decide +kernel
theorem dX9_shifts_59 : decode cX9_shifts 59 = .ok (.aload_n 0, 1) := by decide +kernel
theorem dX9_shifts_60 : decode cX9_shifts 60 = .ok (.getfield 74, 3) := by decide +kernel
theorem dX9_shifts_63 : decode cX9_shifts 63 = .ok (.iload 7, 2) := by decide +kernel
theorem dX9_shifts_65 : decode cX9_shifts 65 = .ok (.iaload, 1) := by decide +kernel
theorem dX9_shifts_66 : decode cX9_shifts 66 = .ok (.iload_n 3, 1) := by decide +kernel
theorem dX9_shifts_67 : decode cX9_shifts 67 = .ok (.if_icmp .eq 6, 3) := by decide +kernel
theorem dX9_shifts_70 : decode cX9_shifts 70 = .ok (.goto 51, 3) := by decide +kernel
theorem dX9_shifts_73 : decode cX9_shifts 73 = .ok (.iload_n 2, 1) := by decide +kernel
theorem dX9_shifts_74 : decode cX9_shifts 74 = .ok (.iload 4, 2) := by decide +kernel
theorem dX9_shifts_76 : decode cX9_shifts 76 = .ok (.ifCond .lt 38, 3) := by decide +kernel
theorem dX9_shifts_79 : decode cX9_shifts 79 = .ok (.aload_n 0, 1) := by decide +kernel
theorem dX9_shifts_80 : decode cX9_shifts 80 = .ok (.getfield 80, 3) := by decide +kernel
theorem dX9_shifts_83 : decode cX9_shifts 83 = .ok (.iload 4, 2) := by decide +kernel
theorem dX9_shifts_85 : decode cX9_shifts 85 = .ok (.iaload, 1) := by decide +kernel
theorem dX9_shifts_86 : decode cX9_shifts 86 = .ok (.aload_n 0, 1) := by decide +kernel
theorem dX9_shifts_87 : decode cX9_shifts 87 = .ok (.getfield 80, 3) := by decide +kernel
theorem dX9_shifts_90 : decode cX9_shifts 90 = .ok (.iload 7, 2) := by decide +kernel
theorem dX9_shifts_92 : decode cX9_shifts 92 = .ok (.iaload, 1) := by decide +kernel
theorem dX9_shifts_93 : decode cX9_shifts 93 = .ok (.if_icmp .eq 21, 3) := by decide +kernel
theorem dX9_shifts_96 : decode cX9_shifts 96 = .ok (.iload_n 1, 1) := by decide +kernel
theorem dX9_shifts_97 : decode cX9_shifts 97 = .ok (.ifCond .eq 13, 3) := by decide +kernel
theorem dX9_shifts_100 : decode cX9_shifts 100 = .ok (.iload 4, 2) := by decide +kernel
theorem dX9_shifts_102 : decode cX9_shifts 102 = .ok (.bipush 40, 2) := by decide +kernel
theorem dX9_shifts_104 : decode cX9_shifts 104 = .ok (.idiv, 1) := by decide +kernel
theorem dX9_shifts_105 : decode cX9_shifts 105 = .ok (.iload 5, 2) := by decide +kernel
theorem dX9_shifts_107 : decode cX9_shifts 107 = .ok (.if_icmp .ne 7, 3) := by decide +kernel
theorem dX9_shifts_110 : decode cX9_shifts 110 = .ok (.iconst 1, 1) := by decide +kernel
theorem dX9_shifts_111 : decode cX9_shifts 111 = .ok (.goto 4, 3) := by decide +kernel
theorem dX9_shifts_114 : decode cX9_shifts 114 = .ok (.iconst 0, 1) := by decide +kernel
theorem dX9_shifts_115 : decode cX9_shifts 115 = .ok (.iadd, 1) := by decide +kernel
theorem dX9_shifts_116 : decode cX9_shifts 116 = .ok (.istore_n 2, 1) := by decide +kernel
theorem dX9_shifts_117 : decode cX9_shifts 117 = .ok (.iload 7, 2) := by decide +kernel
theorem dX9_shifts_119 : decode cX9_shifts 119 = .ok (.istore 4, 2) := by decide +kernel
theorem dX9_shifts_121 : decode cX9_shifts 121 = .ok (.iinc 6 1, 3) := by decide +kernel
theorem dX9_shifts_124 : decode cX9_shifts 124 = .ok (.goto (-84), 3) := by decide +kernel
theorem dX9_shifts_127 : decode cX9_shifts 127 = .ok (.iinc 5 1, 3) := by decide +kernel
theorem dX9_shifts_130 : decode cX9_shifts 130 = .ok (.goto (-102), 3) := by decide +kernel
theorem dX9_shifts_133 : decode cX9_shifts 133 = .ok (.iinc 3 1, 3) := by decide +kernel
theorem dX9_shifts_136 : decode cX9_shifts 136 = .ok (.goto (-120), 3) := by decide +kernel
theorem dX9_shifts_139 : decode cX9_shifts 139 = .ok (.iload_n 2, 1) := by decide +kernel
theorem dX9_shifts_140 : decode cX9_shifts 140 = .ok (.ireturn, 1) := by decide +kernel
theorem dX9_wool_0 : decode cX9_wool 0 = .ok (.aload_n 0, 1) := by decide +kernel
theorem dX9_wool_1 : decode cX9_wool 1 = .ok (.iload_n 1, 1) := by decide +kernel
theorem dX9_wool_2 : decode cX9_wool 2 = .ok (.invokevirtual 145, 3) := by decide +kernel
theorem dX9_wool_5 : decode cX9_wool 5 = .ok (.ifCond .eq 11, 3) := by decide +kernel
theorem dX9_wool_8 : decode cX9_wool 8 = .ok (.aload_n 0, 1) := by decide +kernel
theorem dX9_wool_9 : decode cX9_wool 9 = .ok (.iload_n 1, 1) := by decide +kernel
theorem dX9_wool_10 : decode cX9_wool 10 = .ok (.invokevirtual 175, 3) := by decide +kernel
theorem dX9_wool_13 : decode cX9_wool 13 = .ok (.goto 4, 3) := by decide +kernel
theorem dX9_wool_16 : decode cX9_wool 16 = .ok (.iconst (-1), 1) := by decide +kernel
theorem dX9_wool_17 : decode cX9_wool 17 = .ok (.ireturn, 1) := by decide +kernel
theorem dX9_hands_0 : decode cX9_hands 0 = .ok (.aload_n 0, 1) := by decide +kernel
theorem dX9_hands_1 : decode cX9_hands 1 = .ok (.iload_n 1, 1) := by decide +kernel
theorem dX9_hands_2 : decode cX9_hands 2 = .ok (.iconst 0, 1) := by decide +kernel
theorem dX9_hands_3 : decode cX9_hands 3 = .ok (.iconst 5, 1) := by decide +kernel
theorem dX9_hands_4 : decode cX9_hands 4 = .ok (.invokevirtual 137, 3) := by decide +kernel
theorem dX9_hands_7 : decode cX9_hands 7 = .ok (.ifCond .eq 13, 3) := by decide +kernel
theorem dX9_hands_10 : decode cX9_hands 10 = .ok (.aload_n 0, 1) := by decide +kernel
theorem dX9_hands_11 : decode cX9_hands 11 = .ok (.iload_n 2, 1) := by decide +kernel
theorem dX9_hands_12 : decode cX9_hands 12 = .ok (.iconst 0, 1) := by decide +kernel
theorem dX9_hands_13 : decode cX9_hands 13 = .ok (.iconst 2, 1) := by decide +kernel
theorem dX9_hands_14 : decode cX9_hands 14 = .ok (.invokevirtual 137, 3) := by decide +kernel
theorem dX9_hands_17 : decode cX9_hands 17 = .ok (.ifCond .ne 5, 3) := by decide +kernel
theorem dX9_hands_20 : decode cX9_hands 20 = .ok (.iconst (-1), 1) := by decide +kernel
theorem dX9_hands_21 : decode cX9_hands 21 = .ok (.ireturn, 1) := by decide +kernel
theorem dX9_hands_22 : decode cX9_hands 22 = .ok (.iconst 0, 1) := by decide +kernel
theorem dX9_hands_23 : decode cX9_hands 23 = .ok (.istore_n 3, 1) := by decide +kernel
theorem dX9_hands_24 : decode cX9_hands 24 = .ok (.iconst 0, 1) := by decide +kernel
theorem dX9_hands_25 : decode cX9_hands 25 = .ok (.istore 4, 2) := by decide +kernel
theorem dX9_hands_27 : decode cX9_hands 27 = .ok (.iconst 0, 1) := by decide +kernel
theorem dX9_hands_28 : decode cX9_hands 28 = .ok (.istore 5, 2) := by decide +kernel
theorem dX9_hands_30 : decode cX9_hands 30 = .ok (.iload 5, 2) := by decide +kernel
theorem dX9_hands_32 : decode cX9_hands 32 = .ok (.aload_n 0, 1) := by decide +kernel
theorem dX9_hands_33 : decode cX9_hands 33 = .ok (.getfield 71, 3) := by decide +kernel
theorem dX9_hands_36 : decode cX9_hands 36 = .ok (.if_icmp .ge 82, 3) := by decide +kernel
theorem dX9_hands_39 : decode cX9_hands 39 = .ok (.iconst 0, 1) := by decide +kernel
theorem dX9_hands_40 : decode cX9_hands 40 = .ok (.istore 6, 2) := by decide +kernel
theorem dX9_hands_42 : decode cX9_hands 42 = .ok (.iload 6, 2) := by decide +kernel
theorem dX9_hands_44 : decode cX9_hands 44 = .ok (.aload_n 0, 1) := by decide +kernel
theorem dX9_hands_45 : decode cX9_hands 45 = .ok (.getfield 134, 3) := by decide +kernel
theorem dX9_hands_48 : decode cX9_hands 48 = .ok (.if_icmp .ge 64, 3) := by decide +kernel
theorem dX9_hands_51 : decode cX9_hands 51 = .ok (.aload_n 0, 1) := by decide +kernel
theorem dX9_hands_52 : decode cX9_hands 52 = .ok (.iload 6, 2) := by decide +kernel
theorem dX9_hands_54 : decode cX9_hands 54 = .ok (.invokevirtual 178, 3) := by decide +kernel
theorem dX9_hands_57 : decode cX9_hands 57 = .ok (.iload_n 1, 1) := by decide +kernel
theorem dX9_hands_58 : decode cX9_hands 58 = .ok (.if_icmp .eq 6, 3) := by decide +kernel
theorem dX9_hands_61 : decode cX9_hands 61 = .ok (.goto 45, 3) := by decide +kernel
theorem dX9_hands_64 : decode cX9_hands 64 = .ok (.iinc 3 1, 3) := by decide +kernel
theorem dX9_hands_67 : decode cX9_hands 67 = .ok (.iload 4, 2) := by decide +kernel
theorem dX9_hands_69 : decode cX9_hands 69 = .ok (.aload_n 0, 1) := by decide +kernel
theorem dX9_hands_70 : decode cX9_hands 70 = .ok (.getfield 77, 3) := by decide +kernel
theorem dX9_hands_73 : decode cX9_hands 73 = .ok (.bipush 40, 2) := by decide +kernel
theorem dX9_hands_75 : decode cX9_hands 75 = .ok (.iload 5, 2) := by decide +kernel
theorem dX9_hands_77 : decode cX9_hands 77 = .ok (.imul, 1) := by decide +kernel
theorem dX9_hands_78 : decode cX9_hands 78 = .ok (.iload 6, 2) := by decide +kernel
theorem dX9_hands_80 : decode cX9_hands 80 = .ok (.iadd, 1) := by decide +kernel
theorem dX9_hands_81 : decode cX9_hands 81 = .ok (.iaload, 1) := by decide +kernel
theorem dX9_hands_82 : decode cX9_hands 82 = .ok (.aload_n 0, 1) := by decide +kernel
theorem dX9_hands_83 : decode cX9_hands 83 = .ok (.getfield 74, 3) := by decide +kernel
theorem dX9_hands_86 : decode cX9_hands 86 = .ok (.bipush 40, 2) := by decide +kernel
theorem dX9_hands_88 : decode cX9_hands 88 = .ok (.iload 5, 2) := by decide +kernel
theorem dX9_hands_90 : decode cX9_hands 90 = .ok (.imul, 1) := by decide +kernel
theorem dX9_hands_91 : decode cX9_hands 91 = .ok (.iload 6, 2) := by decide +kernel
theorem dX9_hands_93 : decode cX9_hands 93 = .ok (.iadd, 1) := by decide +kernel
theorem dX9_hands_94 : decode cX9_hands 94 = .ok (.iaload, 1) := by decide +kernel
theorem dX9_hands_95 : decode cX9_hands 95 = .ok (.if_icmp .eq 7, 3) := by decide +kernel
theorem dX9_hands_98 : decode cX9_hands 98 = .ok (.iconst 1, 1) := by decide +kernel
theorem dX9_hands_99 : decode cX9_hands 99 = .ok (.goto 4, 3) := by decide +kernel
theorem dX9_hands_102 : decode cX9_hands 102 = .ok (.iconst 0, 1) := by decide +kernel
theorem dX9_hands_103 : decode cX9_hands 103 = .ok (.iadd, 1) := by decide +kernel
theorem dX9_hands_104 : decode cX9_hands 104 = .ok (.istore 4, 2) := by decide +kernel
theorem dX9_hands_106 : decode cX9_hands 106 = .ok (.iinc 6 1, 3) := by decide +kernel
theorem dX9_hands_109 : decode cX9_hands 109 = .ok (.goto (-67), 3) := by decide +kernel
theorem dX9_hands_112 : decode cX9_hands 112 = .ok (.iinc 5 1, 3) := by decide +kernel
theorem dX9_hands_115 : decode cX9_hands 115 = .ok (.goto (-85), 3) := by decide +kernel
theorem dX9_hands_118 : decode cX9_hands 118 = .ok (.iload_n 3, 1) := by decide +kernel
theorem dX9_hands_119 : decode cX9_hands 119 = .ok (.bipush 10, 2) := by decide +kernel
theorem dX9_hands_121 : decode cX9_hands 121 = .ok (.idiv, 1) := by decide +kernel
theorem dX9_hands_122 : decode cX9_hands 122 = .ok (.iconst 5, 1) := by decide +kernel
theorem dX9_hands_123 : decode cX9_hands 123 = .ok (.imul, 1) := by decide +kernel
theorem dX9_hands_124 : decode cX9_hands 124 = .ok (.bipush 20, 2) := by decide +kernel
theorem dX9_hands_126 : decode cX9_hands 126 = .ok (.iload 4, 2) := by decide +kernel
theorem dX9_hands_128 : decode cX9_hands 128 = .ok (.imul, 1) := by decide +kernel
theorem dX9_hands_129 : decode cX9_hands 129 = .ok (.isub, 1) := by decide +kernel
theorem dX9_hands_130 : decode cX9_hands 130 = .ok (.istore 5, 2) := by decide +kernel
theorem dX9_hands_132 : decode cX9_hands 132 = .ok (.iload_n 2, 1) := by decide +kernel
theorem dX9_hands_133 : decode cX9_hands 133 = .ok (.ifCond .ne 7, 3) := by decide +kernel
theorem dX9_hands_136 : decode cX9_hands 136 = .ok (.iload_n 3, 1) := by decide +kernel
theorem dX9_hands_137 : decode cX9_hands 137 = .ok (.goto 24, 3) := by decide +kernel
theorem dX9_hands_140 : decode cX9_hands 140 = .ok (.iload_n 2, 1) := by decide +kernel
theorem dX9_hands_141 : decode cX9_hands 141 = .ok (.iconst 1, 1) := by decide +kernel
theorem dX9_hands_142 : decode cX9_hands 142 = .ok (.if_icmp .ne 8, 3) := by decide +kernel
theorem dX9_hands_145 : decode cX9_hands 145 = .ok (.iload 4, 2) := by decide +kernel
theorem dX9_hands_147 : decode cX9_hands 147 = .ok (.goto 14, 3) := by decide +kernel
theorem dX9_hands_150 : decode cX9_hands 150 = .ok (.iload 5, 2) := by decide +kernel
theorem dX9_hands_152 : decode cX9_hands 152 = .ok (.ifCond .le 8, 3) := by decide +kernel
theorem dX9_hands_155 : decode cX9_hands 155 = .ok (.iload 5, 2) := by decide +kernel
theorem dX9_hands_157 : decode cX9_hands 157 = .ok (.goto 4, 3) := by decide +kernel
theorem dX9_hands_160 : decode cX9_hands 160 = .ok (.iconst 0, 1) := by decide +kernel
theorem dX9_hands_161 : decode cX9_hands 161 = .ok (.ireturn, 1) := by decide +kernel
theorem dX9_unlike_0 : decode cX9_unlike 0 = .ok (.aload_n 0, 1) := by decide +kernel
theorem dX9_unlike_1 : decode cX9_unlike 1 = .ok (.iload_n 1, 1) := by decide +kernel
theorem dX9_unlike_2 : decode cX9_unlike 2 = .ok (.iconst 0, 1) := by decide +kernel
theorem dX9_unlike_3 : decode cX9_unlike 3 = .ok (.aload_n 0, 1) := by decide +kernel
theorem dX9_unlike_4 : decode cX9_unlike 4 = .ok (.getfield 71, 3) := by decide +kernel
theorem dX9_unlike_7 : decode cX9_unlike 7 = .ok (.iconst 1, 1) := by decide +kernel
