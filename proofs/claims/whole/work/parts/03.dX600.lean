theorem dX6_init_0 : decode cX6_init 0 = .ok (.aload_n 0, 1) := by decide +kernel
theorem dX6_init_1 : decode cX6_init 1 = .ok (.invokespecial 3, 3) := by decide +kernel
theorem dX6_init_4 : decode cX6_init 4 = .ok (.aload_n 0, 1) := by decide +kernel
theorem dX6_init_5 : decode cX6_init 5 = .ok (.bipush 8, 2) := by decide +kernel
theorem dX6_init_7 : decode cX6_init 7 = .ok (.newarray .int, 2) := by decide +kernel
theorem dX6_init_9 : decode cX6_init 9 = .ok (.putfield 9, 3) := by decide +kernel
theorem dX6_init_12 : decode cX6_init 12 = .ok (.aload_n 0, 1) := by decide +kernel
theorem dX6_init_13 : decode cX6_init 13 = .ok (.bipush 8, 2) := by decide +kernel
theorem dX6_init_15 : decode cX6_init 15 = .ok (.newarray .int, 2) := by decide +kernel
theorem dX6_init_17 : decode cX6_init 17 = .ok (.putfield 15, 3) := by decide +kernel
theorem dX6_init_20 : decode cX6_init 20 = .ok (.aload_n 0, 1) := by decide +kernel
theorem dX6_init_21 : decode cX6_init 21 = .ok (.bipush 64, 2) := by decide +kernel
theorem dX6_init_23 : decode cX6_init 23 = .ok (.newarray .int, 2) := by decide +kernel
theorem dX6_init_25 : decode cX6_init 25 = .ok (.putfield 18, 3) := by decide +kernel
theorem dX6_init_28 : decode cX6_init 28 = .ok (.aload_n 0, 1) := by decide +kernel
theorem dX6_init_29 : decode cX6_init 29 = .ok (.bipush 64, 2) := by decide +kernel
theorem dX6_init_31 : decode cX6_init 31 = .ok (.newarray .int, 2) := by decide +kernel
theorem dX6_init_33 : decode cX6_init 33 = .ok (.putfield 21, 3) := by decide +kernel
theorem dX6_init_36 : decode cX6_init 36 = .ok (.aload_n 0, 1) := by decide +kernel
theorem dX6_init_37 : decode cX6_init 37 = .ok (.bipush 8, 2) := by decide +kernel
theorem dX6_init_39 : decode cX6_init 39 = .ok (.newarray .int, 2) := by decide +kernel
theorem dX6_init_41 : decode cX6_init 41 = .ok (.putfield 24, 3) := by decide +kernel
theorem dX6_init_44 : decode cX6_init 44 = .ok (.return_, 1) := by decide +kernel
theorem dX6_add_0 : decode cX6_add 0 = .ok (.aload_n 0, 1) := by decide +kernel
theorem dX6_add_1 : decode cX6_add 1 = .ok (.getfield 27, 3) := by decide +kernel
theorem dX6_add_4 : decode cX6_add 4 = .ok (.bipush 8, 2) := by decide +kernel
theorem dX6_add_6 : decode cX6_add 6 = .ok (.if_icmp .lt 6, 3) := by decide +kernel
theorem dX6_add_9 : decode cX6_add 9 = .ok (.bipush (-2), 2) := by decide +kernel
theorem dX6_add_11 : decode cX6_add 11 = .ok (.ireturn, 1) := by decide +kernel
theorem dX6_add_12 : decode cX6_add 12 = .ok (.aload_n 0, 1) := by decide +kernel
theorem dX6_add_13 : decode cX6_add 13 = .ok (.getfield 9, 3) := by decide +kernel
theorem dX6_add_16 : decode cX6_add 16 = .ok (.aload_n 0, 1) := by decide +kernel
theorem dX6_add_17 : decode cX6_add 17 = .ok (.getfield 27, 3) := by decide +kernel
theorem dX6_add_20 : decode cX6_add 20 = .ok (.iload_n 1, 1) := by decide +kernel
theorem dX6_add_21 : decode cX6_add 21 = .ok (.iastore, 1) := by decide +kernel
theorem dX6_add_22 : decode cX6_add 22 = .ok (.aload_n 0, 1) := by decide +kernel
theorem dX6_add_23 : decode cX6_add 23 = .ok (.dup, 1) := by decide +kernel
theorem dX6_add_24 : decode cX6_add 24 = .ok (.getfield 27, 3) := by decide +kernel
theorem dX6_add_27 : decode cX6_add 27 = .ok (.iconst 1, 1) := by decide +kernel
theorem dX6_add_28 : decode cX6_add 28 = .ok (.iadd, 1) := by decide +kernel
theorem dX6_add_29 : decode cX6_add 29 = .ok (.putfield 27, 3) := by decide +kernel
theorem dX6_add_32 : decode cX6_add 32 = .ok (.aload_n 0, 1) := by decide +kernel
theorem dX6_add_33 : decode cX6_add 33 = .ok (.invokevirtual 31, 3) := by decide +kernel
theorem dX6_add_36 : decode cX6_add 36 = .ok (.aload_n 0, 1) := by decide +kernel
theorem dX6_add_37 : decode cX6_add 37 = .ok (.getfield 27, 3) := by decide +kernel
theorem dX6_add_40 : decode cX6_add 40 = .ok (.iconst 1, 1) := by decide +kernel
theorem dX6_add_41 : decode cX6_add 41 = .ok (.isub, 1) := by decide +kernel
theorem dX6_add_42 : decode cX6_add 42 = .ok (.ireturn, 1) := by decide +kernel
theorem dX6_apart_0 : decode cX6_apart 0 = .ok (.aload_n 0, 1) := by decide +kernel
theorem dX6_apart_1 : decode cX6_apart 1 = .ok (.getfield 9, 3) := by decide +kernel
theorem dX6_apart_4 : decode cX6_apart 4 = .ok (.iload_n 1, 1) := by decide +kernel
theorem dX6_apart_5 : decode cX6_apart 5 = .ok (.iaload, 1) := by decide +kernel
theorem dX6_apart_6 : decode cX6_apart 6 = .ok (.aload_n 0, 1) := by decide +kernel
theorem dX6_apart_7 : decode cX6_apart 7 = .ok (.getfield 9, 3) := by decide +kernel
theorem dX6_apart_10 : decode cX6_apart 10 = .ok (.iload_n 2, 1) := by decide +kernel
theorem dX6_apart_11 : decode cX6_apart 11 = .ok (.iaload, 1) := by decide +kernel
theorem dX6_apart_12 : decode cX6_apart 12 = .ok (.ixor, 1) := by decide +kernel
theorem dX6_apart_13 : decode cX6_apart 13 = .ok (.invokestatic 34, 3) := by decide +kernel
theorem dX6_apart_16 : decode cX6_apart 16 = .ok (.ireturn, 1) := by decide +kernel
theorem dX6_growTree_0 : decode cX6_growTree 0 = .ok (.aload_n 0, 1) := by decide +kernel
theorem dX6_growTree_1 : decode cX6_growTree 1 = .ok (.iconst 0, 1) := by decide +kernel
theorem dX6_growTree_2 : decode cX6_growTree 2 = .ok (.putfield 40, 3) := by decide +kernel
theorem dX6_growTree_5 : decode cX6_growTree 5 = .ok (.aload_n 0, 1) := by decide +kernel
theorem dX6_growTree_6 : decode cX6_growTree 6 = .ok (.iconst 0, 1) := by decide +kernel
theorem dX6_growTree_7 : decode cX6_growTree 7 = .ok (.putfield 43, 3) := by decide +kernel
theorem dX6_growTree_10 : decode cX6_growTree 10 = .ok (.iconst 0, 1) := by decide +kernel
theorem dX6_growTree_11 : decode cX6_growTree 11 = .ok (.istore_n 1, 1) := by decide +kernel
theorem dX6_growTree_12 : decode cX6_growTree 12 = .ok (.iload_n 1, 1) := by decide +kernel
theorem dX6_growTree_13 : decode cX6_growTree 13 = .ok (.aload_n 0, 1) := by decide +kernel
theorem dX6_growTree_14 : decode cX6_growTree 14 = .ok (.getfield 27, 3) := by decide +kernel
theorem dX6_growTree_17 : decode cX6_growTree 17 = .ok (.if_icmp .ge 16, 3) := by decide +kernel
theorem dX6_growTree_20 : decode cX6_growTree 20 = .ok (.aload_n 0, 1) := by decide +kernel
theorem dX6_growTree_21 : decode cX6_growTree 21 = .ok (.getfield 15, 3) := by decide +kernel
theorem dX6_growTree_24 : decode cX6_growTree 24 = .ok (.iload_n 1, 1) := by decide +kernel
theorem dX6_growTree_25 : decode cX6_growTree 25 = .ok (.iload_n 1, 1) := by decide +kernel
theorem dX6_growTree_26 : decode cX6_growTree 26 = .ok (.iastore, 1) := by decide +kernel
theorem dX6_growTree_27 : decode cX6_growTree 27 = .ok (.iinc 1 1, 3) := by decide +kernel
theorem dX6_growTree_30 : decode cX6_growTree 30 = .ok (.goto (-18), 3) := by decide +kernel
theorem dX6_growTree_33 : decode cX6_growTree 33 = .ok (.iconst 0, 1) := by decide +kernel
theorem dX6_growTree_34 : decode cX6_growTree 34 = .ok (.istore_n 1, 1) := by decide +kernel
theorem dX6_growTree_35 : decode cX6_growTree 35 = .ok (.iload_n 1, 1) := by decide +kernel
theorem dX6_growTree_36 : decode cX6_growTree 36 = .ok (.bipush 8, 2) := by decide +kernel
theorem dX6_growTree_38 : decode cX6_growTree 38 = .ok (.if_icmp .gt 74, 3) := by decide +kernel
theorem dX6_growTree_41 : decode cX6_growTree 41 = .ok (.iconst 0, 1) := by decide +kernel
theorem dX6_growTree_42 : decode cX6_growTree 42 = .ok (.istore_n 2, 1) := by decide +kernel
theorem dX6_growTree_43 : decode cX6_growTree 43 = .ok (.iload_n 2, 1) := by decide +kernel
theorem dX6_growTree_44 : decode cX6_growTree 44 = .ok (.aload_n 0, 1) := by decide +kernel
theorem dX6_growTree_45 : decode cX6_growTree 45 = .ok (.getfield 27, 3) := by decide +kernel
theorem dX6_growTree_48 : decode cX6_growTree 48 = .ok (.if_icmp .ge 58, 3) := by decide +kernel
theorem dX6_growTree_51 : decode cX6_growTree 51 = .ok (.iload_n 2, 1) := by decide +kernel
theorem dX6_growTree_52 : decode cX6_growTree 52 = .ok (.iconst 1, 1) := by decide +kernel
theorem dX6_growTree_53 : decode cX6_growTree 53 = .ok (.iadd, 1) := by decide +kernel
theorem dX6_growTree_54 : decode cX6_growTree 54 = .ok (.istore_n 3, 1) := by decide +kernel
theorem dX6_growTree_55 : decode cX6_growTree 55 = .ok (.iload_n 3, 1) := by decide +kernel
theorem dX6_growTree_56 : decode cX6_growTree 56 = .ok (.aload_n 0, 1) := by decide +kernel
theorem dX6_growTree_57 : decode cX6_growTree 57 = .ok (.getfield 27, 3) := by decide +kernel
theorem dX6_growTree_60 : decode cX6_growTree 60 = .ok (.if_icmp .ge 40, 3) := by decide +kernel
theorem dX6_growTree_63 : decode cX6_growTree 63 = .ok (.aload_n 0, 1) := by decide +kernel
theorem dX6_growTree_64 : decode cX6_growTree 64 = .ok (.iload_n 2, 1) := by decide +kernel
theorem dX6_growTree_65 : decode cX6_growTree 65 = .ok (.iload_n 3, 1) := by decide +kernel
theorem dX6_growTree_66 : decode cX6_growTree 66 = .ok (.invokevirtual 46, 3) := by decide +kernel
theorem dX6_growTree_69 : decode cX6_growTree 69 = .ok (.iload_n 1, 1) := by decide +kernel
theorem dX6_growTree_70 : decode cX6_growTree 70 = .ok (.if_icmp .ne 24, 3) := by decide +kernel
theorem dX6_growTree_73 : decode cX6_growTree 73 = .ok (.aload_n 0, 1) := by decide +kernel
theorem dX6_growTree_74 : decode cX6_growTree 74 = .ok (.getfield 15, 3) := by decide +kernel
theorem dX6_growTree_77 : decode cX6_growTree 77 = .ok (.iload_n 2, 1) := by decide +kernel
theorem dX6_growTree_78 : decode cX6_growTree 78 = .ok (.iaload, 1) := by decide +kernel
theorem dX6_growTree_79 : decode cX6_growTree 79 = .ok (.aload_n 0, 1) := by decide +kernel
theorem dX6_growTree_80 : decode cX6_growTree 80 = .ok (.getfield 15, 3) := by decide +kernel
theorem dX6_growTree_83 : decode cX6_growTree 83 = .ok (.iload_n 3, 1) := by decide +kernel
theorem dX6_growTree_84 : decode cX6_growTree 84 = .ok (.iaload, 1) := by decide +kernel
theorem dX6_growTree_85 : decode cX6_growTree 85 = .ok (.if_icmp .eq 9, 3) := by decide +kernel
theorem dX6_growTree_88 : decode cX6_growTree 88 = .ok (.aload_n 0, 1) := by decide +kernel
theorem dX6_growTree_89 : decode cX6_growTree 89 = .ok (.iload_n 2, 1) := by decide +kernel
theorem dX6_growTree_90 : decode cX6_growTree 90 = .ok (.iload_n 3, 1) := by decide +kernel
theorem dX6_growTree_91 : decode cX6_growTree 91 = .ok (.invokevirtual 50, 3) := by decide +kernel
theorem dX6_growTree_94 : decode cX6_growTree 94 = .ok (.iinc 3 1, 3) := by decide +kernel
theorem dX6_growTree_97 : decode cX6_growTree 97 = .ok (.goto (-42), 3) := by decide +kernel
theorem dX6_growTree_100 : decode cX6_growTree 100 = .ok (.iinc 2 1, 3) := by decide +kernel
theorem dX6_growTree_103 : decode cX6_growTree 103 = .ok (.goto (-60), 3) := by decide +kernel
theorem dX6_growTree_106 : decode cX6_growTree 106 = .ok (.iinc 1 1, 3) := by decide +kernel
theorem dX6_growTree_109 : decode cX6_growTree 109 = .ok (.goto (-74), 3) := by decide +kernel
theorem dX6_growTree_112 : decode cX6_growTree 112 = .ok (.return_, 1) := by decide +kernel
theorem dX6_join_0 : decode cX6_join 0 = .ok (.aload_n 0, 1) := by decide +kernel
theorem dX6_join_1 : decode cX6_join 1 = .ok (.getfield 40, 3) := by decide +kernel
theorem dX6_join_4 : decode cX6_join 4 = .ok (.aload_n 0, 1) := by decide +kernel
theorem dX6_join_5 : decode cX6_join 5 = .ok (.getfield 24, 3) := by decide +kernel
theorem dX6_join_8 : decode cX6_join 8 = .ok (.arraylength, 1) := by decide +kernel
theorem dX6_join_9 : decode cX6_join 9 = .ok (.if_icmp .ge 28, 3) := by decide +kernel
theorem dX6_join_12 : decode cX6_join 12 = .ok (.aload_n 0, 1) := by decide +kernel
theorem dX6_join_13 : decode cX6_join 13 = .ok (.getfield 24, 3) := by decide +kernel
theorem dX6_join_16 : decode cX6_join 16 = .ok (.aload_n 0, 1) := by decide +kernel
theorem dX6_join_17 : decode cX6_join 17 = .ok (.getfield 40, 3) := by decide +kernel
theorem dX6_join_20 : decode cX6_join 20 = .ok (.bipush 10, 2) := by decide +kernel
theorem dX6_join_22 : decode cX6_join 22 = .ok (.iload_n 1, 1) := by decide +kernel
theorem dX6_join_23 : decode cX6_join 23 = .ok (.imul, 1) := by decide +kernel
theorem dX6_join_24 : decode cX6_join 24 = .ok (.iload_n 2, 1) := by decide +kernel
theorem dX6_join_25 : decode cX6_join 25 = .ok (.iadd, 1) := by decide +kernel
theorem dX6_join_26 : decode cX6_join 26 = .ok (.iastore, 1) := by decide +kernel
theorem dX6_join_27 : decode cX6_join 27 = .ok (.aload_n 0, 1) := by decide +kernel
theorem dX6_join_28 : decode cX6_join 28 = .ok (.dup, 1) := by decide +kernel
theorem dX6_join_29 : decode cX6_join 29 = .ok (.getfield 40, 3) := by decide +kernel
theorem dX6_join_32 : decode cX6_join 32 = .ok (.iconst 1, 1) := by decide +kernel
theorem dX6_join_33 : decode cX6_join 33 = .ok (.iadd, 1) := by decide +kernel
theorem dX6_join_34 : decode cX6_join 34 = .ok (.putfield 40, 3) := by decide +kernel
theorem dX6_join_37 : decode cX6_join 37 = .ok (.aload_n 0, 1) := by decide +kernel
theorem dX6_join_38 : decode cX6_join 38 = .ok (.dup, 1) := by decide +kernel
theorem dX6_join_39 : decode cX6_join 39 = .ok (.getfield 43, 3) := by decide +kernel
theorem dX6_join_42 : decode cX6_join 42 = .ok (.aload_n 0, 1) := by decide +kernel
theorem dX6_join_43 : decode cX6_join 43 = .ok (.iload_n 1, 1) := by decide +kernel
theorem dX6_join_44 : decode cX6_join 44 = .ok (.iload_n 2, 1) := by decide +kernel
theorem dX6_join_45 : decode cX6_join 45 = .ok (.invokevirtual 46, 3) := by decide +kernel
theorem dX6_join_48 : decode cX6_join 48 = .ok (.iadd, 1) := by decide +kernel
theorem dX6_join_49 : decode cX6_join 49 = .ok (.putfield 43, 3) := by decide +kernel
theorem dX6_join_52 : decode cX6_join 52 = .ok (.aload_n 0, 1) := by decide +kernel
theorem dX6_join_53 : decode cX6_join 53 = .ok (.getfield 15, 3) := by decide +kernel
theorem dX6_join_56 : decode cX6_join 56 = .ok (.iload_n 2, 1) := by decide +kernel
theorem dX6_join_57 : decode cX6_join 57 = .ok (.iaload, 1) := by decide +kernel
theorem dX6_join_58 : decode cX6_join 58 = .ok (.istore_n 3, 1) := by decide +kernel
theorem dX6_join_59 : decode cX6_join 59 = .ok (.iconst 0, 1) := by decide +kernel
theorem dX6_join_60 : decode cX6_join 60 = .ok (.istore 4, 2) := by decide +kernel
theorem dX6_join_62 : decode cX6_join 62 = .ok (.iload 4, 2) := by decide +kernel
theorem dX6_join_64 : decode cX6_join 64 = .ok (.aload_n 0, 1) := by decide +kernel
theorem dX6_join_65 : decode cX6_join 65 = .ok (.getfield 27, 3) := by decide +kernel
theorem dX6_join_68 : decode cX6_join 68 = .ok (.if_icmp .ge 33, 3) := by decide +kernel
theorem dX6_join_71 : decode cX6_join 71 = .ok (.aload_n 0, 1) := by decide +kernel
theorem dX6_join_72 : decode cX6_join 72 = .ok (.getfield 15, 3) := by decide +kernel
theorem dX6_join_75 : decode cX6_join 75 = .ok (.iload 4, 2) := by decide +kernel
theorem dX6_join_77 : decode cX6_join 77 = .ok (.iaload, 1) := by decide +kernel
theorem dX6_join_78 : decode cX6_join 78 = .ok (.iload_n 3, 1) := by decide +kernel
theorem dX6_join_79 : decode cX6_join 79 = .ok (.if_icmp .ne 16, 3) := by decide +kernel
theorem dX6_join_82 : decode cX6_join 82 = .ok (.aload_n 0, 1) := by decide +kernel
theorem dX6_join_83 : decode cX6_join 83 = .ok (.getfield 15, 3) := by decide +kernel
theorem dX6_join_86 : decode cX6_join 86 = .ok (.iload 4, 2) := by decide +kernel
theorem dX6_join_88 : decode cX6_join 88 = .ok (.aload_n 0, 1) := by decide +kernel
theorem dX6_join_89 : decode cX6_join 89 = .ok (.getfield 15, 3) := by decide +kernel
theorem dX6_join_92 : decode cX6_join 92 = .ok (.iload_n 1, 1) := by decide +kernel
theorem dX6_join_93 : decode cX6_join 93 = .ok (.iaload, 1) := by decide +kernel
theorem dX6_join_94 : decode cX6_join 94 = .ok (.iastore, 1) := by decide +kernel
theorem dX6_join_95 : decode cX6_join 95 = .ok (.iinc 4 1, 3) := by decide +kernel
theorem dX6_join_98 : decode cX6_join 98 = .ok (.goto (-36), 3) := by decide +kernel
theorem dX6_join_101 : decode cX6_join 101 = .ok (.return_, 1) := by decide +kernel
theorem dX6_rivalTrees_0 : decode cX6_rivalTrees 0 = .ok (.iconst 1, 1) := by decide +kernel
theorem dX6_rivalTrees_1 : decode cX6_rivalTrees 1 = .ok (.aload_n 0, 1) := by decide +kernel
theorem dX6_rivalTrees_2 : decode cX6_rivalTrees 2 = .ok (.getfield 27, 3) := by decide +kernel
theorem dX6_rivalTrees_5 : decode cX6_rivalTrees 5 = .ok (.bipush 6, 2) := by decide +kernel
theorem dX6_rivalTrees_7 : decode cX6_rivalTrees 7 = .ok (.invokestatic 54, 3) := by decide +kernel
theorem dX6_rivalTrees_10 : decode cX6_rivalTrees 10 = .ok (.ishl, 1) := by decide +kernel
theorem dX6_rivalTrees_11 : decode cX6_rivalTrees 11 = .ok (.iconst 1, 1) := by decide +kernel
theorem dX6_rivalTrees_12 : decode cX6_rivalTrees 12 = .ok (.isub, 1) := by decide +kernel
theorem dX6_rivalTrees_13 : decode cX6_rivalTrees 13 = .ok (.istore_n 1, 1) := by decide +kernel
theorem dX6_rivalTrees_14 : decode cX6_rivalTrees 14 = .ok (.iconst 1, 1) := by decide +kernel
theorem dX6_rivalTrees_15 : decode cX6_rivalTrees 15 = .ok (.istore_n 2, 1) := by decide +kernel
theorem dX6_rivalTrees_16 : decode cX6_rivalTrees 16 = .ok (.iload_n 2, 1) := by decide +kernel
theorem dX6_rivalTrees_17 : decode cX6_rivalTrees 17 = .ok (.iload_n 1, 1) := by decide +kernel
theorem dX6_rivalTrees_18 : decode cX6_rivalTrees 18 = .ok (.if_icmp .gt 40, 3) := by decide +kernel
theorem dX6_rivalTrees_21 : decode cX6_rivalTrees 21 = .ok (.aload_n 0, 1) := by decide +kernel
theorem dX6_rivalTrees_22 : decode cX6_rivalTrees 22 = .ok (.getfield 18, 3) := by decide +kernel
theorem dX6_rivalTrees_25 : decode cX6_rivalTrees 25 = .ok (.iload_n 2, 1) := by decide +kernel
theorem dX6_rivalTrees_26 : decode cX6_rivalTrees 26 = .ok (.iconst 0, 1) := by decide +kernel
theorem dX6_rivalTrees_27 : decode cX6_rivalTrees 27 = .ok (.iastore, 1) := by decide +kernel
theorem dX6_rivalTrees_28 : decode cX6_rivalTrees 28 = .ok (.aload_n 0, 1) := by decide +kernel
theorem dX6_rivalTrees_29 : decode cX6_rivalTrees 29 = .ok (.getfield 21, 3) := by decide +kernel
theorem dX6_rivalTrees_32 : decode cX6_rivalTrees 32 = .ok (.iload_n 2, 1) := by decide +kernel
theorem dX6_rivalTrees_33 : decode cX6_rivalTrees 33 = .ok (.iconst 1, 1) := by decide +kernel
theorem dX6_rivalTrees_34 : decode cX6_rivalTrees 34 = .ok (.iastore, 1) := by decide +kernel
theorem dX6_rivalTrees_35 : decode cX6_rivalTrees 35 = .ok (.iload_n 2, 1) := by decide +kernel
theorem dX6_rivalTrees_36 : decode cX6_rivalTrees 36 = .ok (.invokestatic 34, 3) := by decide +kernel
theorem dX6_rivalTrees_39 : decode cX6_rivalTrees 39 = .ok (.iconst 1, 1) := by decide +kernel
theorem dX6_rivalTrees_40 : decode cX6_rivalTrees 40 = .ok (.if_icmp .le 12, 3) := by decide +kernel
theorem dX6_rivalTrees_43 : decode cX6_rivalTrees 43 = .ok (.aload_n 0, 1) := by decide +kernel
theorem dX6_rivalTrees_44 : decode cX6_rivalTrees 44 = .ok (.iload_n 2, 1) := by decide +kernel
theorem dX6_rivalTrees_45 : decode cX6_rivalTrees 45 = .ok (.iload_n 2, 1) := by decide +kernel
theorem dX6_rivalTrees_46 : decode cX6_rivalTrees 46 = .ok (.invokestatic 59, 3) := by decide +kernel
theorem dX6_rivalTrees_49 : decode cX6_rivalTrees 49 = .ok (.invokevirtual 62, 3) := by decide +kernel
theorem dX6_rivalTrees_52 : decode cX6_rivalTrees 52 = .ok (.iinc 2 1, 3) := by decide +kernel
theorem dX6_rivalTrees_55 : decode cX6_rivalTrees 55 = .ok (.goto (-39), 3) := by decide +kernel
theorem dX6_rivalTrees_58 : decode cX6_rivalTrees 58 = .ok (.aload_n 0, 1) := by decide +kernel
theorem dX6_rivalTrees_59 : decode cX6_rivalTrees 59 = .ok (.getfield 21, 3) := by decide +kernel
theorem dX6_rivalTrees_62 : decode cX6_rivalTrees 62 = .ok (.iload_n 1, 1) := by decide +kernel
theorem dX6_rivalTrees_63 : decode cX6_rivalTrees 63 = .ok (.iaload, 1) := by decide +kernel
theorem dX6_rivalTrees_64 : decode cX6_rivalTrees 64 = .ok (.ireturn, 1) := by decide +kernel
theorem dX6_firstOf_0 : decode cX6_firstOf 0 = .ok (.iconst 0, 1) := by decide +kernel
theorem dX6_firstOf_1 : decode cX6_firstOf 1 = .ok (.istore_n 1, 1) := by decide +kernel
theorem dX6_firstOf_2 : decode cX6_firstOf 2 = .ok (.iload_n 1, 1) := by decide +kernel
theorem dX6_firstOf_3 : decode cX6_firstOf 3 = .ok (.bipush 6, 2) := by decide +kernel
theorem dX6_firstOf_5 : decode cX6_firstOf 5 = .ok (.if_icmp .ge 19, 3) := by decide +kernel
theorem dX6_firstOf_8 : decode cX6_firstOf 8 = .ok (.iload_n 0, 1) := by decide +kernel
theorem dX6_firstOf_9 : decode cX6_firstOf 9 = .ok (.iconst 1, 1) := by decide +kernel
theorem dX6_firstOf_10 : decode cX6_firstOf 10 = .ok (.iload_n 1, 1) := by decide +kernel
theorem dX6_firstOf_11 : decode cX6_firstOf 11 = .ok (.ishl, 1) := by decide +kernel
theorem dX6_firstOf_12 : decode cX6_firstOf 12 = .ok (.iand, 1) := by decide +kernel
theorem dX6_firstOf_13 : decode cX6_firstOf 13 = .ok (.ifCond .eq 5, 3) := by decide +kernel
theorem dX6_firstOf_16 : decode cX6_firstOf 16 = .ok (.iload_n 1, 1) := by decide +kernel
theorem dX6_firstOf_17 : decode cX6_firstOf 17 = .ok (.ireturn, 1) := by decide +kernel
theorem dX6_firstOf_18 : decode cX6_firstOf 18 = .ok (.iinc 1 1, 3) := by decide +kernel
theorem dX6_firstOf_21 : decode cX6_firstOf 21 = .ok (.goto (-19), 3) := by decide +kernel
theorem dX6_firstOf_24 : decode cX6_firstOf 24 = .ok (.iconst 0, 1) := by decide +kernel
theorem dX6_firstOf_25 : decode cX6_firstOf 25 = .ok (.ireturn, 1) := by decide +kernel
theorem dX6_splitSet_0 : decode cX6_splitSet 0 = .ok (.iload_n 1, 1) := by decide +kernel
theorem dX6_splitSet_1 : decode cX6_splitSet 1 = .ok (.iconst 1, 1) := by decide +kernel
theorem dX6_splitSet_2 : decode cX6_splitSet 2 = .ok (.iload_n 2, 1) := by decide +kernel
theorem dX6_splitSet_3 : decode cX6_splitSet 3 = .ok (.ishl, 1) := by decide +kernel
theorem dX6_splitSet_4 : decode cX6_splitSet 4 = .ok (.isub, 1) := by decide +kernel
theorem dX6_splitSet_5 : decode cX6_splitSet 5 = .ok (.istore_n 3, 1) := by decide +kernel
theorem dX6_splitSet_6 : decode cX6_splitSet 6 = .ok (.iconst 1, 1) := by decide +kernel
theorem dX6_splitSet_7 : decode cX6_splitSet 7 = .ok (.iload_n 3, 1) := by decide +kernel
theorem dX6_splitSet_8 : decode cX6_splitSet 8 = .ok (.invokestatic 59, 3) := by decide +kernel
theorem dX6_splitSet_11 : decode cX6_splitSet 11 = .ok (.ishl, 1) := by decide +kernel
theorem dX6_splitSet_12 : decode cX6_splitSet 12 = .ok (.istore 4, 2) := by decide +kernel
theorem dX6_splitSet_14 : decode cX6_splitSet 14 = .ok (.aload_n 0, 1) := by decide +kernel
theorem dX6_splitSet_15 : decode cX6_splitSet 15 = .ok (.getfield 18, 3) := by decide +kernel
theorem dX6_splitSet_18 : decode cX6_splitSet 18 = .ok (.iload_n 1, 1) := by decide +kernel
theorem dX6_splitSet_19 : decode cX6_splitSet 19 = .ok (.bipush 64, 2) := by decide +kernel
theorem dX6_splitSet_21 : decode cX6_splitSet 21 = .ok (.iastore, 1) := by decide +kernel
theorem dX6_splitSet_22 : decode cX6_splitSet 22 = .ok (.aload_n 0, 1) := by decide +kernel
theorem dX6_splitSet_23 : decode cX6_splitSet 23 = .ok (.getfield 21, 3) := by decide +kernel
theorem dX6_splitSet_26 : decode cX6_splitSet 26 = .ok (.iload_n 1, 1) := by decide +kernel
theorem dX6_splitSet_27 : decode cX6_splitSet 27 = .ok (.iconst 0, 1) := by decide +kernel
theorem dX6_splitSet_28 : decode cX6_splitSet 28 = .ok (.iastore, 1) := by decide +kernel
theorem dX6_splitSet_29 : decode cX6_splitSet 29 = .ok (.iload 4, 2) := by decide +kernel
theorem dX6_splitSet_31 : decode cX6_splitSet 31 = .ok (.istore 5, 2) := by decide +kernel
theorem dX6_splitSet_33 : decode cX6_splitSet 33 = .ok (.iload 5, 2) := by decide +kernel
theorem dX6_splitSet_35 : decode cX6_splitSet 35 = .ok (.iload_n 3, 1) := by decide +kernel
theorem dX6_splitSet_36 : decode cX6_splitSet 36 = .ok (.if_icmp .gt 34, 3) := by decide +kernel
theorem dX6_splitSet_39 : decode cX6_splitSet 39 = .ok (.iload 5, 2) := by decide +kernel
theorem dX6_splitSet_41 : decode cX6_splitSet 41 = .ok (.iload_n 3, 1) := by decide +kernel
theorem dX6_splitSet_42 : decode cX6_splitSet 42 = .ok (.iand, 1) := by decide +kernel
theorem dX6_splitSet_43 : decode cX6_splitSet 43 = .ok (.iload 5, 2) := by decide +kernel
theorem dX6_splitSet_45 : decode cX6_splitSet 45 = .ok (.if_icmp .ne 19, 3) := by decide +kernel
theorem dX6_splitSet_48 : decode cX6_splitSet 48 = .ok (.iload 5, 2) := by decide +kernel
theorem dX6_splitSet_50 : decode cX6_splitSet 50 = .ok (.iload 4, 2) := by decide +kernel
theorem dX6_splitSet_52 : decode cX6_splitSet 52 = .ok (.iand, 1) := by decide +kernel
theorem dX6_splitSet_53 : decode cX6_splitSet 53 = .ok (.ifCond .eq 11, 3) := by decide +kernel
theorem dX6_splitSet_56 : decode cX6_splitSet 56 = .ok (.aload_n 0, 1) := by decide +kernel
theorem dX6_splitSet_57 : decode cX6_splitSet 57 = .ok (.iload_n 1, 1) := by decide +kernel
theorem dX6_splitSet_58 : decode cX6_splitSet 58 = .ok (.iload_n 2, 1) := by decide +kernel
theorem dX6_splitSet_59 : decode cX6_splitSet 59 = .ok (.iload 5, 2) := by decide +kernel
theorem dX6_splitSet_61 : decode cX6_splitSet 61 = .ok (.invokevirtual 65, 3) := by decide +kernel
theorem dX6_splitSet_64 : decode cX6_splitSet 64 = .ok (.iinc 5 1, 3) := by decide +kernel
theorem dX6_splitSet_67 : decode cX6_splitSet 67 = .ok (.goto (-34), 3) := by decide +kernel
theorem dX6_splitSet_70 : decode cX6_splitSet 70 = .ok (.return_, 1) := by decide +kernel
theorem dX6_linkBranch_0 : decode cX6_linkBranch 0 = .ok (.aload_n 0, 1) := by decide +kernel
theorem dX6_linkBranch_1 : decode cX6_linkBranch 1 = .ok (.getfield 18, 3) := by decide +kernel
theorem dX6_linkBranch_4 : decode cX6_linkBranch 4 = .ok (.iload_n 3, 1) := by decide +kernel
theorem dX6_linkBranch_5 : decode cX6_linkBranch 5 = .ok (.iaload, 1) := by decide +kernel
theorem dX6_linkBranch_6 : decode cX6_linkBranch 6 = .ok (.aload_n 0, 1) := by decide +kernel
theorem dX6_linkBranch_7 : decode cX6_linkBranch 7 = .ok (.getfield 18, 3) := by decide +kernel
theorem dX6_linkBranch_10 : decode cX6_linkBranch 10 = .ok (.iload_n 1, 1) := by decide +kernel
theorem dX6_linkBranch_11 : decode cX6_linkBranch 11 = .ok (.iload_n 3, 1) := by decide +kernel
theorem dX6_linkBranch_12 : decode cX6_linkBranch 12 = .ok (.isub, 1) := by decide +kernel
theorem dX6_linkBranch_13 : decode cX6_linkBranch 13 = .ok (.iaload, 1) := by decide +kernel
theorem dX6_linkBranch_14 : decode cX6_linkBranch 14 = .ok (.iadd, 1) := by decide +kernel
theorem dX6_linkBranch_15 : decode cX6_linkBranch 15 = .ok (.istore 4, 2) := by decide +kernel
theorem dX6_linkBranch_17 : decode cX6_linkBranch 17 = .ok (.aload_n 0, 1) := by decide +kernel
theorem dX6_linkBranch_18 : decode cX6_linkBranch 18 = .ok (.getfield 21, 3) := by decide +kernel
theorem dX6_linkBranch_21 : decode cX6_linkBranch 21 = .ok (.iload_n 3, 1) := by decide +kernel
theorem dX6_linkBranch_22 : decode cX6_linkBranch 22 = .ok (.iaload, 1) := by decide +kernel
theorem dX6_linkBranch_23 : decode cX6_linkBranch 23 = .ok (.aload_n 0, 1) := by decide +kernel
theorem dX6_linkBranch_24 : decode cX6_linkBranch 24 = .ok (.getfield 21, 3) := by decide +kernel
theorem dX6_linkBranch_27 : decode cX6_linkBranch 27 = .ok (.iload_n 1, 1) := by decide +kernel
theorem dX6_linkBranch_28 : decode cX6_linkBranch 28 = .ok (.iload_n 3, 1) := by decide +kernel
theorem dX6_linkBranch_29 : decode cX6_linkBranch 29 = .ok (.isub, 1) := by decide +kernel
theorem dX6_linkBranch_30 : decode cX6_linkBranch 30 = .ok (.iaload, 1) := by decide +kernel
theorem dX6_linkBranch_31 : decode cX6_linkBranch 31 = .ok (.imul, 1) := by decide +kernel
theorem dX6_linkBranch_32 : decode cX6_linkBranch 32 = .ok (.istore 5, 2) := by decide +kernel
theorem dX6_linkBranch_34 : decode cX6_linkBranch 34 = .ok (.iconst 0, 1) := by decide +kernel
theorem dX6_linkBranch_35 : decode cX6_linkBranch 35 = .ok (.istore 6, 2) := by decide +kernel
theorem dX6_linkBranch_37 : decode cX6_linkBranch 37 = .ok (.iload 6, 2) := by decide +kernel
theorem dX6_linkBranch_39 : decode cX6_linkBranch 39 = .ok (.bipush 6, 2) := by decide +kernel
theorem dX6_linkBranch_41 : decode cX6_linkBranch 41 = .ok (.if_icmp .ge 35, 3) := by decide +kernel
theorem dX6_linkBranch_44 : decode cX6_linkBranch 44 = .ok (.iload_n 3, 1) := by decide +kernel
theorem dX6_linkBranch_45 : decode cX6_linkBranch 45 = .ok (.iconst 1, 1) := by decide +kernel
theorem dX6_linkBranch_46 : decode cX6_linkBranch 46 = .ok (.iload 6, 2) := by decide +kernel
theorem dX6_linkBranch_48 : decode cX6_linkBranch 48 = .ok (.ishl, 1) := by decide +kernel
theorem dX6_linkBranch_49 : decode cX6_linkBranch 49 = .ok (.iand, 1) := by decide +kernel
theorem dX6_linkBranch_50 : decode cX6_linkBranch 50 = .ok (.ifCond .eq 20, 3) := by decide +kernel
theorem dX6_linkBranch_53 : decode cX6_linkBranch 53 = .ok (.aload_n 0, 1) := by decide +kernel
theorem dX6_linkBranch_54 : decode cX6_linkBranch 54 = .ok (.iload_n 1, 1) := by decide +kernel
theorem dX6_linkBranch_55 : decode cX6_linkBranch 55 = .ok (.iload 4, 2) := by decide +kernel
theorem dX6_linkBranch_57 : decode cX6_linkBranch 57 = .ok (.aload_n 0, 1) := by decide +kernel
theorem dX6_linkBranch_58 : decode cX6_linkBranch 58 = .ok (.iload_n 2, 1) := by decide +kernel
theorem dX6_linkBranch_59 : decode cX6_linkBranch 59 = .ok (.iload 6, 2) := by decide +kernel
theorem dX6_linkBranch_61 : decode cX6_linkBranch 61 = .ok (.invokevirtual 46, 3) := by decide +kernel
theorem dX6_linkBranch_64 : decode cX6_linkBranch 64 = .ok (.iadd, 1) := by decide +kernel
theorem dX6_linkBranch_65 : decode cX6_linkBranch 65 = .ok (.iload 5, 2) := by decide +kernel
theorem dX6_linkBranch_67 : decode cX6_linkBranch 67 = .ok (.invokevirtual 69, 3) := by decide +kernel
theorem dX6_linkBranch_70 : decode cX6_linkBranch 70 = .ok (.iinc 6 1, 3) := by decide +kernel
theorem dX6_linkBranch_73 : decode cX6_linkBranch 73 = .ok (.goto (-36), 3) := by decide +kernel
theorem dX6_linkBranch_76 : decode cX6_linkBranch 76 = .ok (.return_, 1) := by decide +kernel
theorem dX6_addTrees_0 : decode cX6_addTrees 0 = .ok (.iload_n 2, 1) := by decide +kernel
theorem dX6_addTrees_1 : decode cX6_addTrees 1 = .ok (.aload_n 0, 1) := by decide +kernel
theorem dX6_addTrees_2 : decode cX6_addTrees 2 = .ok (.getfield 18, 3) := by decide +kernel
theorem dX6_addTrees_5 : decode cX6_addTrees 5 = .ok (.iload_n 1, 1) := by decide +kernel
theorem dX6_addTrees_6 : decode cX6_addTrees 6 = .ok (.iaload, 1) := by decide +kernel
theorem dX6_addTrees_7 : decode cX6_addTrees 7 = .ok (.if_icmp .ge 17, 3) := by decide +kernel
theorem dX6_addTrees_10 : decode cX6_addTrees 10 = .ok (.aload_n 0, 1) := by decide +kernel
theorem dX6_addTrees_11 : decode cX6_addTrees 11 = .ok (.getfield 18, 3) := by decide +kernel
theorem dX6_addTrees_14 : decode cX6_addTrees 14 = .ok (.iload_n 1, 1) := by decide +kernel
theorem dX6_addTrees_15 : decode cX6_addTrees 15 = .ok (.iload_n 2, 1) := by decide +kernel
theorem dX6_addTrees_16 : decode cX6_addTrees 16 = .ok (.iastore, 1) := by decide +kernel
theorem dX6_addTrees_17 : decode cX6_addTrees 17 = .ok (.aload_n 0, 1) := by decide +kernel
theorem dX6_addTrees_18 : decode cX6_addTrees 18 = .ok (.getfield 21, 3) := by decide +kernel
theorem dX6_addTrees_21 : decode cX6_addTrees 21 = .ok (.iload_n 1, 1) := by decide +kernel
theorem dX6_addTrees_22 : decode cX6_addTrees 22 = .ok (.iconst 0, 1) := by decide +kernel
theorem dX6_addTrees_23 : decode cX6_addTrees 23 = .ok (.iastore, 1) := by decide +kernel
theorem dX6_addTrees_24 : decode cX6_addTrees 24 = .ok (.iload_n 2, 1) := by decide +kernel
theorem dX6_addTrees_25 : decode cX6_addTrees 25 = .ok (.aload_n 0, 1) := by decide +kernel
theorem dX6_addTrees_26 : decode cX6_addTrees 26 = .ok (.getfield 18, 3) := by decide +kernel
theorem dX6_addTrees_29 : decode cX6_addTrees 29 = .ok (.iload_n 1, 1) := by decide +kernel
theorem dX6_addTrees_30 : decode cX6_addTrees 30 = .ok (.iaload, 1) := by decide +kernel
theorem dX6_addTrees_31 : decode cX6_addTrees 31 = .ok (.if_icmp .ne 13, 3) := by decide +kernel
theorem dX6_addTrees_34 : decode cX6_addTrees 34 = .ok (.aload_n 0, 1) := by decide +kernel
theorem dX6_addTrees_35 : decode cX6_addTrees 35 = .ok (.getfield 21, 3) := by decide +kernel
theorem dX6_addTrees_38 : decode cX6_addTrees 38 = .ok (.iload_n 1, 1) := by decide +kernel
theorem dX6_addTrees_39 : decode cX6_addTrees 39 = .ok (.dup2, 1) := by decide +kernel
theorem dX6_addTrees_40 : decode cX6_addTrees 40 = .ok (.iaload, 1) := by decide +kernel
theorem dX6_addTrees_41 : decode cX6_addTrees 41 = .ok (.iload_n 3, 1) := by decide +kernel
theorem dX6_addTrees_42 : decode cX6_addTrees 42 = .ok (.iadd, 1) := by decide +kernel
theorem dX6_addTrees_43 : decode cX6_addTrees 43 = .ok (.iastore, 1) := by decide +kernel
theorem dX6_addTrees_44 : decode cX6_addTrees 44 = .ok (.return_, 1) := by decide +kernel
