theorem dX1_init_0 : decode cX1_init 0 = .ok (.aload_n 0, 1) := by decide +kernel
theorem dX1_init_1 : decode cX1_init 1 = .ok (.invokespecial 3, 3) := by decide +kernel
theorem dX1_init_4 : decode cX1_init 4 = .ok (.aload_n 0, 1) := by decide +kernel
theorem dX1_init_5 : decode cX1_init 5 = .ok (.bipush 6, 2) := by decide +kernel
theorem dX1_init_7 : decode cX1_init 7 = .ok (.newarray .int, 2) := by decide +kernel
theorem dX1_init_9 : decode cX1_init 9 = .ok (.putfield 9, 3) := by decide +kernel
theorem dX1_init_12 : decode cX1_init 12 = .ok (.aload_n 0, 1) := by decide +kernel
theorem dX1_init_13 : decode cX1_init 13 = .ok (.bipush 6, 2) := by decide +kernel
theorem dX1_init_15 : decode cX1_init 15 = .ok (.newarray .int, 2) := by decide +kernel
theorem dX1_init_17 : decode cX1_init 17 = .ok (.putfield 15, 3) := by decide +kernel
theorem dX1_init_20 : decode cX1_init 20 = .ok (.aload_n 0, 1) := by decide +kernel
theorem dX1_init_21 : decode cX1_init 21 = .ok (.bipush 8, 2) := by decide +kernel
theorem dX1_init_23 : decode cX1_init 23 = .ok (.anewarray 18, 3) := by decide +kernel
theorem dX1_init_26 : decode cX1_init 26 = .ok (.putfield 20, 3) := by decide +kernel
theorem dX1_init_29 : decode cX1_init 29 = .ok (.aload_n 0, 1) := by decide +kernel
theorem dX1_init_30 : decode cX1_init 30 = .ok (.bipush 40, 2) := by decide +kernel
theorem dX1_init_32 : decode cX1_init 32 = .ok (.anewarray 24, 3) := by decide +kernel
theorem dX1_init_35 : decode cX1_init 35 = .ok (.putfield 26, 3) := by decide +kernel
theorem dX1_init_38 : decode cX1_init 38 = .ok (.aload_n 0, 1) := by decide +kernel
theorem dX1_init_39 : decode cX1_init 39 = .ok (.iload_n 1, 1) := by decide +kernel
theorem dX1_init_40 : decode cX1_init 40 = .ok (.putfield 30, 3) := by decide +kernel
theorem dX1_init_43 : decode cX1_init 43 = .ok (.iconst 0, 1) := by decide +kernel
theorem dX1_init_44 : decode cX1_init 44 = .ok (.istore_n 2, 1) := by decide +kernel
theorem dX1_init_45 : decode cX1_init 45 = .ok (.iload_n 2, 1) := by decide +kernel
theorem dX1_init_46 : decode cX1_init 46 = .ok (.bipush 6, 2) := by decide +kernel
theorem dX1_init_48 : decode cX1_init 48 = .ok (.if_icmp .ge 24, 3) := by decide +kernel
theorem dX1_init_51 : decode cX1_init 51 = .ok (.aload_n 0, 1) := by decide +kernel
theorem dX1_init_52 : decode cX1_init 52 = .ok (.getfield 9, 3) := by decide +kernel
theorem dX1_init_55 : decode cX1_init 55 = .ok (.iload_n 2, 1) := by decide +kernel
theorem dX1_init_56 : decode cX1_init 56 = .ok (.bipush 8, 2) := by decide +kernel
theorem dX1_init_58 : decode cX1_init 58 = .ok (.iastore, 1) := by decide +kernel
theorem dX1_init_59 : decode cX1_init 59 = .ok (.aload_n 0, 1) := by decide +kernel
theorem dX1_init_60 : decode cX1_init 60 = .ok (.getfield 15, 3) := by decide +kernel
theorem dX1_init_63 : decode cX1_init 63 = .ok (.iload_n 2, 1) := by decide +kernel
theorem dX1_init_64 : decode cX1_init 64 = .ok (.iconst 5, 1) := by decide +kernel
theorem dX1_init_65 : decode cX1_init 65 = .ok (.iastore, 1) := by decide +kernel
theorem dX1_init_66 : decode cX1_init 66 = .ok (.iinc 2 1, 3) := by decide +kernel
theorem dX1_init_69 : decode cX1_init 69 = .ok (.goto (-24), 3) := by decide +kernel
theorem dX1_init_72 : decode cX1_init 72 = .ok (.iconst 0, 1) := by decide +kernel
theorem dX1_init_73 : decode cX1_init 73 = .ok (.istore_n 2, 1) := by decide +kernel
theorem dX1_init_74 : decode cX1_init 74 = .ok (.iload_n 2, 1) := by decide +kernel
theorem dX1_init_75 : decode cX1_init 75 = .ok (.bipush 8, 2) := by decide +kernel
theorem dX1_init_77 : decode cX1_init 77 = .ok (.if_icmp .ge 22, 3) := by decide +kernel
theorem dX1_init_80 : decode cX1_init 80 = .ok (.aload_n 0, 1) := by decide +kernel
theorem dX1_init_81 : decode cX1_init 81 = .ok (.getfield 20, 3) := by decide +kernel
theorem dX1_init_84 : decode cX1_init 84 = .ok (.iload_n 2, 1) := by decide +kernel
theorem dX1_init_85 : decode cX1_init 85 = .ok (.new 18, 3) := by decide +kernel
theorem dX1_init_88 : decode cX1_init 88 = .ok (.dup, 1) := by decide +kernel
theorem dX1_init_89 : decode cX1_init 89 = .ok (.invokespecial 34, 3) := by decide +kernel
theorem dX1_init_92 : decode cX1_init 92 = .ok (.aastore, 1) := by decide +kernel
theorem dX1_init_93 : decode cX1_init 93 = .ok (.iinc 2 1, 3) := by decide +kernel
theorem dX1_init_96 : decode cX1_init 96 = .ok (.goto (-22), 3) := by decide +kernel
theorem dX1_init_99 : decode cX1_init 99 = .ok (.iconst 0, 1) := by decide +kernel
theorem dX1_init_100 : decode cX1_init 100 = .ok (.istore_n 2, 1) := by decide +kernel
theorem dX1_init_101 : decode cX1_init 101 = .ok (.iload_n 2, 1) := by decide +kernel
theorem dX1_init_102 : decode cX1_init 102 = .ok (.bipush 40, 2) := by decide +kernel
theorem dX1_init_104 : decode cX1_init 104 = .ok (.if_icmp .ge 23, 3) := by decide +kernel
theorem dX1_init_107 : decode cX1_init 107 = .ok (.aload_n 0, 1) := by decide +kernel
theorem dX1_init_108 : decode cX1_init 108 = .ok (.getfield 26, 3) := by decide +kernel
theorem dX1_init_111 : decode cX1_init 111 = .ok (.iload_n 2, 1) := by decide +kernel
theorem dX1_init_112 : decode cX1_init 112 = .ok (.new 24, 3) := by decide +kernel
theorem dX1_init_115 : decode cX1_init 115 = .ok (.dup, 1) := by decide +kernel
theorem dX1_init_116 : decode cX1_init 116 = .ok (.iload_n 1, 1) := by decide +kernel
theorem dX1_init_117 : decode cX1_init 117 = .ok (.invokespecial 35, 3) := by decide +kernel
theorem dX1_init_120 : decode cX1_init 120 = .ok (.aastore, 1) := by decide +kernel
theorem dX1_init_121 : decode cX1_init 121 = .ok (.iinc 2 1, 3) := by decide +kernel
theorem dX1_init_124 : decode cX1_init 124 = .ok (.goto (-23), 3) := by decide +kernel
theorem dX1_init_127 : decode cX1_init 127 = .ok (.return_, 1) := by decide +kernel
theorem dX1_hasRow_0 : decode cX1_hasRow 0 = .ok (.iload_n 1, 1) := by decide +kernel
theorem dX1_hasRow_1 : decode cX1_hasRow 1 = .ok (.ifCond .lt 15, 3) := by decide +kernel
theorem dX1_hasRow_4 : decode cX1_hasRow 4 = .ok (.iload_n 1, 1) := by decide +kernel
theorem dX1_hasRow_5 : decode cX1_hasRow 5 = .ok (.aload_n 0, 1) := by decide +kernel
theorem dX1_hasRow_6 : decode cX1_hasRow 6 = .ok (.getfield 38, 3) := by decide +kernel
theorem dX1_hasRow_9 : decode cX1_hasRow 9 = .ok (.if_icmp .ge 7, 3) := by decide +kernel
theorem dX1_hasRow_12 : decode cX1_hasRow 12 = .ok (.iconst 1, 1) := by decide +kernel
theorem dX1_hasRow_13 : decode cX1_hasRow 13 = .ok (.goto 4, 3) := by decide +kernel
theorem dX1_hasRow_16 : decode cX1_hasRow 16 = .ok (.iconst 0, 1) := by decide +kernel
theorem dX1_hasRow_17 : decode cX1_hasRow 17 = .ok (.ireturn, 1) := by decide +kernel
theorem dX1_hasKnot_0 : decode cX1_hasKnot 0 = .ok (.aload_n 0, 1) := by decide +kernel
theorem dX1_hasKnot_1 : decode cX1_hasKnot 1 = .ok (.iload_n 1, 1) := by decide +kernel
theorem dX1_hasKnot_2 : decode cX1_hasKnot 2 = .ok (.invokevirtual 41, 3) := by decide +kernel
theorem dX1_hasKnot_5 : decode cX1_hasKnot 5 = .ok (.ifCond .eq 19, 3) := by decide +kernel
theorem dX1_hasKnot_8 : decode cX1_hasKnot 8 = .ok (.iload_n 2, 1) := by decide +kernel
theorem dX1_hasKnot_9 : decode cX1_hasKnot 9 = .ok (.ifCond .lt 15, 3) := by decide +kernel
theorem dX1_hasKnot_12 : decode cX1_hasKnot 12 = .ok (.iload_n 2, 1) := by decide +kernel
theorem dX1_hasKnot_13 : decode cX1_hasKnot 13 = .ok (.aload_n 0, 1) := by decide +kernel
theorem dX1_hasKnot_14 : decode cX1_hasKnot 14 = .ok (.getfield 30, 3) := by decide +kernel
theorem dX1_hasKnot_17 : decode cX1_hasKnot 17 = .ok (.if_icmp .ge 7, 3) := by decide +kernel
theorem dX1_hasKnot_20 : decode cX1_hasKnot 20 = .ok (.iconst 1, 1) := by decide +kernel
theorem dX1_hasKnot_21 : decode cX1_hasKnot 21 = .ok (.goto 4, 3) := by decide +kernel
theorem dX1_hasKnot_24 : decode cX1_hasKnot 24 = .ok (.iconst 0, 1) := by decide +kernel
theorem dX1_hasKnot_25 : decode cX1_hasKnot 25 = .ok (.ireturn, 1) := by decide +kernel
theorem dX1_setHand_0 : decode cX1_setHand 0 = .ok (.aload_n 0, 1) := by decide +kernel
theorem dX1_setHand_1 : decode cX1_setHand 1 = .ok (.getfield 9, 3) := by decide +kernel
theorem dX1_setHand_4 : decode cX1_setHand 4 = .ok (.iload_n 1, 1) := by decide +kernel
theorem dX1_setHand_5 : decode cX1_setHand 5 = .ok (.iaload, 1) := by decide +kernel
theorem dX1_setHand_6 : decode cX1_setHand 6 = .ok (.iload_n 2, 1) := by decide +kernel
theorem dX1_setHand_7 : decode cX1_setHand 7 = .ok (.if_icmp .ne 13, 3) := by decide +kernel
theorem dX1_setHand_10 : decode cX1_setHand 10 = .ok (.aload_n 0, 1) := by decide +kernel
theorem dX1_setHand_11 : decode cX1_setHand 11 = .ok (.getfield 15, 3) := by decide +kernel
theorem dX1_setHand_14 : decode cX1_setHand 14 = .ok (.iload_n 1, 1) := by decide +kernel
theorem dX1_setHand_15 : decode cX1_setHand 15 = .ok (.iaload, 1) := by decide +kernel
theorem dX1_setHand_16 : decode cX1_setHand 16 = .ok (.iload_n 3, 1) := by decide +kernel
theorem dX1_setHand_17 : decode cX1_setHand 17 = .ok (.if_icmp .eq 7, 3) := by decide +kernel
theorem dX1_setHand_20 : decode cX1_setHand 20 = .ok (.iconst 1, 1) := by decide +kernel
theorem dX1_setHand_21 : decode cX1_setHand 21 = .ok (.goto 4, 3) := by decide +kernel
theorem dX1_setHand_24 : decode cX1_setHand 24 = .ok (.iconst 0, 1) := by decide +kernel
theorem dX1_setHand_25 : decode cX1_setHand 25 = .ok (.istore 4, 2) := by decide +kernel
theorem dX1_setHand_27 : decode cX1_setHand 27 = .ok (.aload_n 0, 1) := by decide +kernel
theorem dX1_setHand_28 : decode cX1_setHand 28 = .ok (.getfield 9, 3) := by decide +kernel
theorem dX1_setHand_31 : decode cX1_setHand 31 = .ok (.iload_n 1, 1) := by decide +kernel
theorem dX1_setHand_32 : decode cX1_setHand 32 = .ok (.iload_n 2, 1) := by decide +kernel
theorem dX1_setHand_33 : decode cX1_setHand 33 = .ok (.iastore, 1) := by decide +kernel
theorem dX1_setHand_34 : decode cX1_setHand 34 = .ok (.aload_n 0, 1) := by decide +kernel
theorem dX1_setHand_35 : decode cX1_setHand 35 = .ok (.getfield 15, 3) := by decide +kernel
theorem dX1_setHand_38 : decode cX1_setHand 38 = .ok (.iload_n 1, 1) := by decide +kernel
theorem dX1_setHand_39 : decode cX1_setHand 39 = .ok (.iload_n 3, 1) := by decide +kernel
theorem dX1_setHand_40 : decode cX1_setHand 40 = .ok (.iastore, 1) := by decide +kernel
theorem dX1_setHand_41 : decode cX1_setHand 41 = .ok (.iload 4, 2) := by decide +kernel
theorem dX1_setHand_43 : decode cX1_setHand 43 = .ok (.ireturn, 1) := by decide +kernel
theorem dX1_handAt_0 : decode cX1_handAt 0 = .ok (.iconst 0, 1) := by decide +kernel
theorem dX1_handAt_1 : decode cX1_handAt 1 = .ok (.istore_n 2, 1) := by decide +kernel
theorem dX1_handAt_2 : decode cX1_handAt 2 = .ok (.iconst 0, 1) := by decide +kernel
theorem dX1_handAt_3 : decode cX1_handAt 3 = .ok (.istore_n 3, 1) := by decide +kernel
theorem dX1_handAt_4 : decode cX1_handAt 4 = .ok (.iload_n 3, 1) := by decide +kernel
theorem dX1_handAt_5 : decode cX1_handAt 5 = .ok (.bipush 6, 2) := by decide +kernel
theorem dX1_handAt_7 : decode cX1_handAt 7 = .ok (.if_icmp .ge 25, 3) := by decide +kernel
theorem dX1_handAt_10 : decode cX1_handAt 10 = .ok (.iload_n 2, 1) := by decide +kernel
theorem dX1_handAt_11 : decode cX1_handAt 11 = .ok (.aload_n 0, 1) := by decide +kernel
theorem dX1_handAt_12 : decode cX1_handAt 12 = .ok (.getfield 9, 3) := by decide +kernel
theorem dX1_handAt_15 : decode cX1_handAt 15 = .ok (.iload_n 3, 1) := by decide +kernel
theorem dX1_handAt_16 : decode cX1_handAt 16 = .ok (.iaload, 1) := by decide +kernel
theorem dX1_handAt_17 : decode cX1_handAt 17 = .ok (.iadd, 1) := by decide +kernel
theorem dX1_handAt_18 : decode cX1_handAt 18 = .ok (.istore_n 2, 1) := by decide +kernel
theorem dX1_handAt_19 : decode cX1_handAt 19 = .ok (.iload_n 1, 1) := by decide +kernel
theorem dX1_handAt_20 : decode cX1_handAt 20 = .ok (.iload_n 2, 1) := by decide +kernel
theorem dX1_handAt_21 : decode cX1_handAt 21 = .ok (.if_icmp .ge 5, 3) := by decide +kernel
theorem dX1_handAt_24 : decode cX1_handAt 24 = .ok (.iload_n 3, 1) := by decide +kernel
theorem dX1_handAt_25 : decode cX1_handAt 25 = .ok (.ireturn, 1) := by decide +kernel
theorem dX1_handAt_26 : decode cX1_handAt 26 = .ok (.iinc 3 1, 3) := by decide +kernel
theorem dX1_handAt_29 : decode cX1_handAt 29 = .ok (.goto (-25), 3) := by decide +kernel
theorem dX1_handAt_32 : decode cX1_handAt 32 = .ok (.iconst 5, 1) := by decide +kernel
theorem dX1_handAt_33 : decode cX1_handAt 33 = .ok (.ireturn, 1) := by decide +kernel
theorem dX1_colourBelow_0 : decode cX1_colourBelow 0 = .ok (.aload_n 0, 1) := by decide +kernel
theorem dX1_colourBelow_1 : decode cX1_colourBelow 1 = .ok (.aload_n 0, 1) := by decide +kernel
theorem dX1_colourBelow_2 : decode cX1_colourBelow 2 = .ok (.getfield 38, 3) := by decide +kernel
theorem dX1_colourBelow_5 : decode cX1_colourBelow 5 = .ok (.iload_n 1, 1) := by decide +kernel
theorem dX1_colourBelow_6 : decode cX1_colourBelow 6 = .ok (.isub, 1) := by decide +kernel
theorem dX1_colourBelow_7 : decode cX1_colourBelow 7 = .ok (.iload_n 2, 1) := by decide +kernel
theorem dX1_colourBelow_8 : decode cX1_colourBelow 8 = .ok (.invokevirtual 45, 3) := by decide +kernel
theorem dX1_colourBelow_11 : decode cX1_colourBelow 11 = .ok (.ifCond .eq 22, 3) := by decide +kernel
theorem dX1_colourBelow_14 : decode cX1_colourBelow 14 = .ok (.aload_n 0, 1) := by decide +kernel
theorem dX1_colourBelow_15 : decode cX1_colourBelow 15 = .ok (.getfield 26, 3) := by decide +kernel
theorem dX1_colourBelow_18 : decode cX1_colourBelow 18 = .ok (.aload_n 0, 1) := by decide +kernel
theorem dX1_colourBelow_19 : decode cX1_colourBelow 19 = .ok (.getfield 38, 3) := by decide +kernel
theorem dX1_colourBelow_22 : decode cX1_colourBelow 22 = .ok (.iload_n 1, 1) := by decide +kernel
theorem dX1_colourBelow_23 : decode cX1_colourBelow 23 = .ok (.isub, 1) := by decide +kernel
theorem dX1_colourBelow_24 : decode cX1_colourBelow 24 = .ok (.aaload, 1) := by decide +kernel
theorem dX1_colourBelow_25 : decode cX1_colourBelow 25 = .ok (.getfield 49, 3) := by decide +kernel
theorem dX1_colourBelow_28 : decode cX1_colourBelow 28 = .ok (.iload_n 2, 1) := by decide +kernel
theorem dX1_colourBelow_29 : decode cX1_colourBelow 29 = .ok (.baload, 1) := by decide +kernel
theorem dX1_colourBelow_30 : decode cX1_colourBelow 30 = .ok (.goto 4, 3) := by decide +kernel
theorem dX1_colourBelow_33 : decode cX1_colourBelow 33 = .ok (.iconst 0, 1) := by decide +kernel
theorem dX1_colourBelow_34 : decode cX1_colourBelow 34 = .ok (.ireturn, 1) := by decide +kernel
theorem dX1_tieRow_0 : decode cX1_tieRow 0 = .ok (.aload_n 0, 1) := by decide +kernel
theorem dX1_tieRow_1 : decode cX1_tieRow 1 = .ok (.getfield 38, 3) := by decide +kernel
theorem dX1_tieRow_4 : decode cX1_tieRow 4 = .ok (.bipush 40, 2) := by decide +kernel
theorem dX1_tieRow_6 : decode cX1_tieRow 6 = .ok (.if_icmp .lt 6, 3) := by decide +kernel
theorem dX1_tieRow_9 : decode cX1_tieRow 9 = .ok (.bipush (-2), 2) := by decide +kernel
theorem dX1_tieRow_11 : decode cX1_tieRow 11 = .ok (.ireturn, 1) := by decide +kernel
theorem dX1_tieRow_12 : decode cX1_tieRow 12 = .ok (.iconst 0, 1) := by decide +kernel
theorem dX1_tieRow_13 : decode cX1_tieRow 13 = .ok (.istore_n 2, 1) := by decide +kernel
theorem dX1_tieRow_14 : decode cX1_tieRow 14 = .ok (.iload_n 2, 1) := by decide +kernel
theorem dX1_tieRow_15 : decode cX1_tieRow 15 = .ok (.bipush 8, 2) := by decide +kernel
theorem dX1_tieRow_17 : decode cX1_tieRow 17 = .ok (.if_icmp .ge 30, 3) := by decide +kernel
theorem dX1_tieRow_20 : decode cX1_tieRow 20 = .ok (.aload_n 0, 1) := by decide +kernel
theorem dX1_tieRow_21 : decode cX1_tieRow 21 = .ok (.aload_n 1, 1) := by decide +kernel
theorem dX1_tieRow_22 : decode cX1_tieRow 22 = .ok (.iload_n 2, 1) := by decide +kernel
theorem dX1_tieRow_23 : decode cX1_tieRow 23 = .ok (.invokevirtual 53, 3) := by decide +kernel
theorem dX1_tieRow_26 : decode cX1_tieRow 26 = .ok (.aload_n 0, 1) := by decide +kernel
theorem dX1_tieRow_27 : decode cX1_tieRow 27 = .ok (.getfield 20, 3) := by decide +kernel
theorem dX1_tieRow_30 : decode cX1_tieRow 30 = .ok (.iload_n 2, 1) := by decide +kernel
theorem dX1_tieRow_31 : decode cX1_tieRow 31 = .ok (.aaload, 1) := by decide +kernel
theorem dX1_tieRow_32 : decode cX1_tieRow 32 = .ok (.invokevirtual 57, 3) := by decide +kernel
theorem dX1_tieRow_35 : decode cX1_tieRow 35 = .ok (.if_icmp .le 6, 3) := by decide +kernel
theorem dX1_tieRow_38 : decode cX1_tieRow 38 = .ok (.bipush (-5), 2) := by decide +kernel
theorem dX1_tieRow_40 : decode cX1_tieRow 40 = .ok (.ireturn, 1) := by decide +kernel
theorem dX1_tieRow_41 : decode cX1_tieRow 41 = .ok (.iinc 2 1, 3) := by decide +kernel
theorem dX1_tieRow_44 : decode cX1_tieRow 44 = .ok (.goto (-30), 3) := by decide +kernel
theorem dX1_tieRow_47 : decode cX1_tieRow 47 = .ok (.iconst 0, 1) := by decide +kernel
theorem dX1_tieRow_48 : decode cX1_tieRow 48 = .ok (.istore_n 2, 1) := by decide +kernel
theorem dX1_tieRow_49 : decode cX1_tieRow 49 = .ok (.iload_n 2, 1) := by decide +kernel
theorem dX1_tieRow_50 : decode cX1_tieRow 50 = .ok (.bipush 8, 2) := by decide +kernel
theorem dX1_tieRow_52 : decode cX1_tieRow 52 = .ok (.if_icmp .ge 15, 3) := by decide +kernel
theorem dX1_tieRow_55 : decode cX1_tieRow 55 = .ok (.aload_n 0, 1) := by decide +kernel
theorem dX1_tieRow_56 : decode cX1_tieRow 56 = .ok (.aload_n 1, 1) := by decide +kernel
theorem dX1_tieRow_57 : decode cX1_tieRow 57 = .ok (.iload_n 2, 1) := by decide +kernel
theorem dX1_tieRow_58 : decode cX1_tieRow 58 = .ok (.invokevirtual 61, 3) := by decide +kernel
theorem dX1_tieRow_61 : decode cX1_tieRow 61 = .ok (.iinc 2 1, 3) := by decide +kernel
theorem dX1_tieRow_64 : decode cX1_tieRow 64 = .ok (.goto (-15), 3) := by decide +kernel
theorem dX1_tieRow_67 : decode cX1_tieRow 67 = .ok (.aload_n 0, 1) := by decide +kernel
theorem dX1_tieRow_68 : decode cX1_tieRow 68 = .ok (.getfield 26, 3) := by decide +kernel
theorem dX1_tieRow_71 : decode cX1_tieRow 71 = .ok (.aload_n 0, 1) := by decide +kernel
theorem dX1_tieRow_72 : decode cX1_tieRow 72 = .ok (.getfield 38, 3) := by decide +kernel
theorem dX1_tieRow_75 : decode cX1_tieRow 75 = .ok (.aaload, 1) := by decide +kernel
theorem dX1_tieRow_76 : decode cX1_tieRow 76 = .ok (.aload_n 0, 1) := by decide +kernel
theorem dX1_tieRow_77 : decode cX1_tieRow 77 = .ok (.aload_n 0, 1) := by decide +kernel
theorem dX1_tieRow_78 : decode cX1_tieRow 78 = .ok (.getfield 26, 3) := by decide +kernel
theorem dX1_tieRow_81 : decode cX1_tieRow 81 = .ok (.aload_n 0, 1) := by decide +kernel
theorem dX1_tieRow_82 : decode cX1_tieRow 82 = .ok (.getfield 38, 3) := by decide +kernel
theorem dX1_tieRow_85 : decode cX1_tieRow 85 = .ok (.aaload, 1) := by decide +kernel
theorem dX1_tieRow_86 : decode cX1_tieRow 86 = .ok (.invokevirtual 65, 3) := by decide +kernel
theorem dX1_tieRow_89 : decode cX1_tieRow 89 = .ok (.putfield 69, 3) := by decide +kernel
theorem dX1_tieRow_92 : decode cX1_tieRow 92 = .ok (.aload_n 0, 1) := by decide +kernel
theorem dX1_tieRow_93 : decode cX1_tieRow 93 = .ok (.dup, 1) := by decide +kernel
theorem dX1_tieRow_94 : decode cX1_tieRow 94 = .ok (.getfield 38, 3) := by decide +kernel
theorem dX1_tieRow_97 : decode cX1_tieRow 97 = .ok (.iconst 1, 1) := by decide +kernel
theorem dX1_tieRow_98 : decode cX1_tieRow 98 = .ok (.iadd, 1) := by decide +kernel
theorem dX1_tieRow_99 : decode cX1_tieRow 99 = .ok (.putfield 38, 3) := by decide +kernel
theorem dX1_tieRow_102 : decode cX1_tieRow 102 = .ok (.aload_n 0, 1) := by decide +kernel
theorem dX1_tieRow_103 : decode cX1_tieRow 103 = .ok (.getfield 38, 3) := by decide +kernel
theorem dX1_tieRow_106 : decode cX1_tieRow 106 = .ok (.iconst 1, 1) := by decide +kernel
theorem dX1_tieRow_107 : decode cX1_tieRow 107 = .ok (.isub, 1) := by decide +kernel
theorem dX1_tieRow_108 : decode cX1_tieRow 108 = .ok (.ireturn, 1) := by decide +kernel
theorem dX1_knotsHeard_0 : decode cX1_knotsHeard 0 = .ok (.iconst 0, 1) := by decide +kernel
theorem dX1_knotsHeard_1 : decode cX1_knotsHeard 1 = .ok (.istore_n 3, 1) := by decide +kernel
theorem dX1_knotsHeard_2 : decode cX1_knotsHeard 2 = .ok (.iconst 0, 1) := by decide +kernel
theorem dX1_knotsHeard_3 : decode cX1_knotsHeard 3 = .ok (.istore 4, 2) := by decide +kernel
theorem dX1_knotsHeard_5 : decode cX1_knotsHeard 5 = .ok (.iload 4, 2) := by decide +kernel
theorem dX1_knotsHeard_7 : decode cX1_knotsHeard 7 = .ok (.aload_n 0, 1) := by decide +kernel
theorem dX1_knotsHeard_8 : decode cX1_knotsHeard 8 = .ok (.getfield 30, 3) := by decide +kernel
theorem dX1_knotsHeard_11 : decode cX1_knotsHeard 11 = .ok (.if_icmp .ge 22, 3) := by decide +kernel
theorem dX1_knotsHeard_14 : decode cX1_knotsHeard 14 = .ok (.aload_n 1, 1) := by decide +kernel
theorem dX1_knotsHeard_15 : decode cX1_knotsHeard 15 = .ok (.iload 4, 2) := by decide +kernel
theorem dX1_knotsHeard_17 : decode cX1_knotsHeard 17 = .ok (.invokevirtual 72, 3) := by decide +kernel
theorem dX1_knotsHeard_20 : decode cX1_knotsHeard 20 = .ok (.iload_n 2, 1) := by decide +kernel
theorem dX1_knotsHeard_21 : decode cX1_knotsHeard 21 = .ok (.if_icmp .ne 6, 3) := by decide +kernel
theorem dX1_knotsHeard_24 : decode cX1_knotsHeard 24 = .ok (.iinc 3 1, 3) := by decide +kernel
theorem dX1_knotsHeard_27 : decode cX1_knotsHeard 27 = .ok (.iinc 4 1, 3) := by decide +kernel
theorem dX1_knotsHeard_30 : decode cX1_knotsHeard 30 = .ok (.goto (-25), 3) := by decide +kernel
theorem dX1_knotsHeard_33 : decode cX1_knotsHeard 33 = .ok (.iload_n 3, 1) := by decide +kernel
theorem dX1_knotsHeard_34 : decode cX1_knotsHeard 34 = .ok (.ireturn, 1) := by decide +kernel
theorem dX1_layColour_0 : decode cX1_layColour 0 = .ok (.iconst 0, 1) := by decide +kernel
theorem dX1_layColour_1 : decode cX1_layColour 1 = .ok (.istore_n 3, 1) := by decide +kernel
theorem dX1_layColour_2 : decode cX1_layColour 2 = .ok (.iload_n 3, 1) := by decide +kernel
theorem dX1_layColour_3 : decode cX1_layColour 3 = .ok (.aload_n 0, 1) := by decide +kernel
theorem dX1_layColour_4 : decode cX1_layColour 4 = .ok (.getfield 30, 3) := by decide +kernel
theorem dX1_layColour_7 : decode cX1_layColour 7 = .ok (.if_icmp .ge 50, 3) := by decide +kernel
theorem dX1_layColour_10 : decode cX1_layColour 10 = .ok (.aload_n 1, 1) := by decide +kernel
theorem dX1_layColour_11 : decode cX1_layColour 11 = .ok (.iload_n 3, 1) := by decide +kernel
theorem dX1_layColour_12 : decode cX1_layColour 12 = .ok (.invokevirtual 72, 3) := by decide +kernel
theorem dX1_layColour_15 : decode cX1_layColour 15 = .ok (.iload_n 2, 1) := by decide +kernel
theorem dX1_layColour_16 : decode cX1_layColour 16 = .ok (.if_icmp .ne 35, 3) := by decide +kernel
theorem dX1_layColour_19 : decode cX1_layColour 19 = .ok (.aload_n 0, 1) := by decide +kernel
theorem dX1_layColour_20 : decode cX1_layColour 20 = .ok (.getfield 20, 3) := by decide +kernel
theorem dX1_layColour_23 : decode cX1_layColour 23 = .ok (.iload_n 2, 1) := by decide +kernel
theorem dX1_layColour_24 : decode cX1_layColour 24 = .ok (.aaload, 1) := by decide +kernel
theorem dX1_layColour_25 : decode cX1_layColour 25 = .ok (.invokevirtual 78, 3) := by decide +kernel
theorem dX1_layColour_28 : decode cX1_layColour 28 = .ok (.istore 4, 2) := by decide +kernel
theorem dX1_layColour_30 : decode cX1_layColour 30 = .ok (.aload_n 0, 1) := by decide +kernel
theorem dX1_layColour_31 : decode cX1_layColour 31 = .ok (.getfield 26, 3) := by decide +kernel
theorem dX1_layColour_34 : decode cX1_layColour 34 = .ok (.aload_n 0, 1) := by decide +kernel
theorem dX1_layColour_35 : decode cX1_layColour 35 = .ok (.getfield 38, 3) := by decide +kernel
theorem dX1_layColour_38 : decode cX1_layColour 38 = .ok (.aaload, 1) := by decide +kernel
theorem dX1_layColour_39 : decode cX1_layColour 39 = .ok (.iload_n 3, 1) := by decide +kernel
theorem dX1_layColour_40 : decode cX1_layColour 40 = .ok (.iload_n 2, 1) := by decide +kernel
theorem dX1_layColour_41 : decode cX1_layColour 41 = .ok (.iload 4, 2) := by decide +kernel
theorem dX1_layColour_43 : decode cX1_layColour 43 = .ok (.aload_n 1, 1) := by decide +kernel
theorem dX1_layColour_44 : decode cX1_layColour 44 = .ok (.iload_n 3, 1) := by decide +kernel
theorem dX1_layColour_45 : decode cX1_layColour 45 = .ok (.invokevirtual 81, 3) := by decide +kernel
theorem dX1_layColour_48 : decode cX1_layColour 48 = .ok (.invokevirtual 84, 3) := by decide +kernel
theorem dX1_layColour_51 : decode cX1_layColour 51 = .ok (.iinc 3 1, 3) := by decide +kernel
theorem dX1_layColour_54 : decode cX1_layColour 54 = .ok (.goto (-52), 3) := by decide +kernel
theorem dX1_layColour_57 : decode cX1_layColour 57 = .ok (.return_, 1) := by decide +kernel
theorem dX1_minutesFor_0 : decode cX1_minutesFor 0 = .ok (.iconst 0, 1) := by decide +kernel
theorem dX1_minutesFor_1 : decode cX1_minutesFor 1 = .ok (.istore_n 2, 1) := by decide +kernel
theorem dX1_minutesFor_2 : decode cX1_minutesFor 2 = .ok (.iconst 0, 1) := by decide +kernel
theorem dX1_minutesFor_3 : decode cX1_minutesFor 3 = .ok (.istore_n 3, 1) := by decide +kernel
theorem dX1_minutesFor_4 : decode cX1_minutesFor 4 = .ok (.iconst 0, 1) := by decide +kernel
theorem dX1_minutesFor_5 : decode cX1_minutesFor 5 = .ok (.istore 4, 2) := by decide +kernel
theorem dX1_minutesFor_7 : decode cX1_minutesFor 7 = .ok (.iconst 0, 1) := by decide +kernel
theorem dX1_minutesFor_8 : decode cX1_minutesFor 8 = .ok (.istore 5, 2) := by decide +kernel
theorem dX1_minutesFor_10 : decode cX1_minutesFor 10 = .ok (.iload 5, 2) := by decide +kernel
theorem dX1_minutesFor_12 : decode cX1_minutesFor 12 = .ok (.aload_n 0, 1) := by decide +kernel
theorem dX1_minutesFor_13 : decode cX1_minutesFor 13 = .ok (.getfield 30, 3) := by decide +kernel
theorem dX1_minutesFor_16 : decode cX1_minutesFor 16 = .ok (.if_icmp .ge 87, 3) := by decide +kernel
theorem dX1_minutesFor_19 : decode cX1_minutesFor 19 = .ok (.aload_n 0, 1) := by decide +kernel
theorem dX1_minutesFor_20 : decode cX1_minutesFor 20 = .ok (.iload 5, 2) := by decide +kernel
theorem dX1_minutesFor_22 : decode cX1_minutesFor 22 = .ok (.invokevirtual 88, 3) := by decide +kernel
theorem dX1_minutesFor_25 : decode cX1_minutesFor 25 = .ok (.istore 6, 2) := by decide +kernel
theorem dX1_minutesFor_27 : decode cX1_minutesFor 27 = .ok (.iload 5, 2) := by decide +kernel
theorem dX1_minutesFor_29 : decode cX1_minutesFor 29 = .ok (.ifCond .eq 16, 3) := by decide +kernel
theorem dX1_minutesFor_32 : decode cX1_minutesFor 32 = .ok (.aload_n 0, 1) := by decide +kernel
theorem dX1_minutesFor_33 : decode cX1_minutesFor 33 = .ok (.iload 5, 2) := by decide +kernel
theorem dX1_minutesFor_35 : decode cX1_minutesFor 35 = .ok (.iconst 1, 1) := by decide +kernel
theorem dX1_minutesFor_36 : decode cX1_minutesFor 36 = .ok (.isub, 1) := by decide +kernel
theorem dX1_minutesFor_37 : decode cX1_minutesFor 37 = .ok (.invokevirtual 88, 3) := by decide +kernel
theorem dX1_minutesFor_40 : decode cX1_minutesFor 40 = .ok (.iload 6, 2) := by decide +kernel
theorem dX1_minutesFor_42 : decode cX1_minutesFor 42 = .ok (.if_icmp .eq 11, 3) := by decide +kernel
theorem dX1_minutesFor_45 : decode cX1_minutesFor 45 = .ok (.iconst 0, 1) := by decide +kernel
theorem dX1_minutesFor_46 : decode cX1_minutesFor 46 = .ok (.istore_n 3, 1) := by decide +kernel
theorem dX1_minutesFor_47 : decode cX1_minutesFor 47 = .ok (.iconst 0, 1) := by decide +kernel
theorem dX1_minutesFor_48 : decode cX1_minutesFor 48 = .ok (.istore 4, 2) := by decide +kernel
theorem dX1_minutesFor_50 : decode cX1_minutesFor 50 = .ok (.goto 25, 3) := by decide +kernel
theorem dX1_minutesFor_53 : decode cX1_minutesFor 53 = .ok (.aload_n 1, 1) := by decide +kernel
theorem dX1_minutesFor_54 : decode cX1_minutesFor 54 = .ok (.getfield 91, 3) := by decide +kernel
theorem dX1_minutesFor_57 : decode cX1_minutesFor 57 = .ok (.iload 5, 2) := by decide +kernel
theorem dX1_minutesFor_59 : decode cX1_minutesFor 59 = .ok (.baload, 1) := by decide +kernel
theorem dX1_minutesFor_60 : decode cX1_minutesFor 60 = .ok (.aload_n 1, 1) := by decide +kernel
theorem dX1_minutesFor_61 : decode cX1_minutesFor 61 = .ok (.getfield 91, 3) := by decide +kernel
theorem dX1_minutesFor_64 : decode cX1_minutesFor 64 = .ok (.iload 5, 2) := by decide +kernel
theorem dX1_minutesFor_66 : decode cX1_minutesFor 66 = .ok (.iconst 1, 1) := by decide +kernel
theorem dX1_minutesFor_67 : decode cX1_minutesFor 67 = .ok (.isub, 1) := by decide +kernel
theorem dX1_minutesFor_68 : decode cX1_minutesFor 68 = .ok (.baload, 1) := by decide +kernel
theorem dX1_minutesFor_69 : decode cX1_minutesFor 69 = .ok (.if_icmp .eq 6, 3) := by decide +kernel
theorem dX1_minutesFor_72 : decode cX1_minutesFor 72 = .ok (.iinc 4 1, 3) := by decide +kernel
theorem dX1_minutesFor_75 : decode cX1_minutesFor 75 = .ok (.iinc 3 1, 3) := by decide +kernel
theorem dX1_minutesFor_78 : decode cX1_minutesFor 78 = .ok (.iload_n 2, 1) := by decide +kernel
theorem dX1_minutesFor_79 : decode cX1_minutesFor 79 = .ok (.iload_n 3, 1) := by decide +kernel
theorem dX1_minutesFor_80 : decode cX1_minutesFor 80 = .ok (.aload_n 0, 1) := by decide +kernel
theorem dX1_minutesFor_81 : decode cX1_minutesFor 81 = .ok (.getfield 15, 3) := by decide +kernel
theorem dX1_minutesFor_84 : decode cX1_minutesFor 84 = .ok (.iload 6, 2) := by decide +kernel
theorem dX1_minutesFor_86 : decode cX1_minutesFor 86 = .ok (.iaload, 1) := by decide +kernel
theorem dX1_minutesFor_87 : decode cX1_minutesFor 87 = .ok (.invokestatic 94, 3) := by decide +kernel
theorem dX1_minutesFor_90 : decode cX1_minutesFor 90 = .ok (.iload 4, 2) := by decide +kernel
theorem dX1_minutesFor_92 : decode cX1_minutesFor 92 = .ok (.iadd, 1) := by decide +kernel
theorem dX1_minutesFor_93 : decode cX1_minutesFor 93 = .ok (.invokestatic 98, 3) := by decide +kernel
theorem dX1_minutesFor_96 : decode cX1_minutesFor 96 = .ok (.istore_n 2, 1) := by decide +kernel
theorem dX1_minutesFor_97 : decode cX1_minutesFor 97 = .ok (.iinc 5 1, 3) := by decide +kernel
theorem dX1_minutesFor_100 : decode cX1_minutesFor 100 = .ok (.goto (-90), 3) := by decide +kernel
theorem dX1_minutesFor_103 : decode cX1_minutesFor 103 = .ok (.iload_n 2, 1) := by decide +kernel
theorem dX1_minutesFor_104 : decode cX1_minutesFor 104 = .ok (.ireturn, 1) := by decide +kernel
theorem dX1_roundedUp_0 : decode cX1_roundedUp 0 = .ok (.iload_n 1, 1) := by decide +kernel
theorem dX1_roundedUp_1 : decode cX1_roundedUp 1 = .ok (.iconst 1, 1) := by decide +kernel
theorem dX1_roundedUp_2 : decode cX1_roundedUp 2 = .ok (.if_icmp .ge 7, 3) := by decide +kernel
theorem dX1_roundedUp_5 : decode cX1_roundedUp 5 = .ok (.iload_n 0, 1) := by decide +kernel
theorem dX1_roundedUp_6 : decode cX1_roundedUp 6 = .ok (.goto 10, 3) := by decide +kernel
theorem dX1_roundedUp_9 : decode cX1_roundedUp 9 = .ok (.iload_n 0, 1) := by decide +kernel
theorem dX1_roundedUp_10 : decode cX1_roundedUp 10 = .ok (.iload_n 1, 1) := by decide +kernel
theorem dX1_roundedUp_11 : decode cX1_roundedUp 11 = .ok (.iadd, 1) := by decide +kernel
theorem dX1_roundedUp_12 : decode cX1_roundedUp 12 = .ok (.iconst 1, 1) := by decide +kernel
theorem dX1_roundedUp_13 : decode cX1_roundedUp 13 = .ok (.isub, 1) := by decide +kernel
theorem dX1_roundedUp_14 : decode cX1_roundedUp 14 = .ok (.iload_n 1, 1) := by decide +kernel
theorem dX1_roundedUp_15 : decode cX1_roundedUp 15 = .ok (.idiv, 1) := by decide +kernel
theorem dX1_roundedUp_16 : decode cX1_roundedUp 16 = .ok (.ireturn, 1) := by decide +kernel
theorem dX1_minutesInAll_0 : decode cX1_minutesInAll 0 = .ok (.iconst 0, 1) := by decide +kernel
theorem dX1_minutesInAll_1 : decode cX1_minutesInAll 1 = .ok (.istore_n 1, 1) := by decide +kernel
theorem dX1_minutesInAll_2 : decode cX1_minutesInAll 2 = .ok (.iconst 0, 1) := by decide +kernel
theorem dX1_minutesInAll_3 : decode cX1_minutesInAll 3 = .ok (.istore_n 2, 1) := by decide +kernel
theorem dX1_minutesInAll_4 : decode cX1_minutesInAll 4 = .ok (.iload_n 2, 1) := by decide +kernel
theorem dX1_minutesInAll_5 : decode cX1_minutesInAll 5 = .ok (.aload_n 0, 1) := by decide +kernel
theorem dX1_minutesInAll_6 : decode cX1_minutesInAll 6 = .ok (.getfield 38, 3) := by decide +kernel
theorem dX1_minutesInAll_9 : decode cX1_minutesInAll 9 = .ok (.if_icmp .ge 21, 3) := by decide +kernel
theorem dX1_minutesInAll_12 : decode cX1_minutesInAll 12 = .ok (.iload_n 1, 1) := by decide +kernel
theorem dX1_minutesInAll_13 : decode cX1_minutesInAll 13 = .ok (.aload_n 0, 1) := by decide +kernel
theorem dX1_minutesInAll_14 : decode cX1_minutesInAll 14 = .ok (.getfield 26, 3) := by decide +kernel
theorem dX1_minutesInAll_17 : decode cX1_minutesInAll 17 = .ok (.iload_n 2, 1) := by decide +kernel
theorem dX1_minutesInAll_18 : decode cX1_minutesInAll 18 = .ok (.aaload, 1) := by decide +kernel
theorem dX1_minutesInAll_19 : decode cX1_minutesInAll 19 = .ok (.getfield 69, 3) := by decide +kernel
theorem dX1_minutesInAll_22 : decode cX1_minutesInAll 22 = .ok (.iadd, 1) := by decide +kernel
theorem dX1_minutesInAll_23 : decode cX1_minutesInAll 23 = .ok (.istore_n 1, 1) := by decide +kernel
theorem dX1_minutesInAll_24 : decode cX1_minutesInAll 24 = .ok (.iinc 2 1, 3) := by decide +kernel
theorem dX1_minutesInAll_27 : decode cX1_minutesInAll 27 = .ok (.goto (-23), 3) := by decide +kernel
theorem dX1_minutesInAll_30 : decode cX1_minutesInAll 30 = .ok (.iload_n 1, 1) := by decide +kernel
theorem dX1_minutesInAll_31 : decode cX1_minutesInAll 31 = .ok (.ireturn, 1) := by decide +kernel
theorem dX1_shiftsInAll_0 : decode cX1_shiftsInAll 0 = .ok (.iconst 0, 1) := by decide +kernel
theorem dX1_shiftsInAll_1 : decode cX1_shiftsInAll 1 = .ok (.istore_n 2, 1) := by decide +kernel
theorem dX1_shiftsInAll_2 : decode cX1_shiftsInAll 2 = .ok (.iconst 0, 1) := by decide +kernel
theorem dX1_shiftsInAll_3 : decode cX1_shiftsInAll 3 = .ok (.istore_n 3, 1) := by decide +kernel
theorem dX1_shiftsInAll_4 : decode cX1_shiftsInAll 4 = .ok (.iload_n 3, 1) := by decide +kernel
theorem dX1_shiftsInAll_5 : decode cX1_shiftsInAll 5 = .ok (.bipush 8, 2) := by decide +kernel
theorem dX1_shiftsInAll_7 : decode cX1_shiftsInAll 7 = .ok (.if_icmp .ge 18, 3) := by decide +kernel
theorem dX1_shiftsInAll_10 : decode cX1_shiftsInAll 10 = .ok (.iload_n 2, 1) := by decide +kernel
theorem dX1_shiftsInAll_11 : decode cX1_shiftsInAll 11 = .ok (.aload_n 0, 1) := by decide +kernel
theorem dX1_shiftsInAll_12 : decode cX1_shiftsInAll 12 = .ok (.iload_n 3, 1) := by decide +kernel
theorem dX1_shiftsInAll_13 : decode cX1_shiftsInAll 13 = .ok (.iload_n 1, 1) := by decide +kernel
theorem dX1_shiftsInAll_14 : decode cX1_shiftsInAll 14 = .ok (.invokevirtual 103, 3) := by decide +kernel
theorem dX1_shiftsInAll_17 : decode cX1_shiftsInAll 17 = .ok (.iadd, 1) := by decide +kernel
theorem dX1_shiftsInAll_18 : decode cX1_shiftsInAll 18 = .ok (.istore_n 2, 1) := by decide +kernel
theorem dX1_shiftsInAll_19 : decode cX1_shiftsInAll 19 = .ok (.iinc 3 1, 3) := by decide +kernel
theorem dX1_shiftsInAll_22 : decode cX1_shiftsInAll 22 = .ok (.goto (-18), 3) := by decide +kernel
theorem dX1_shiftsInAll_25 : decode cX1_shiftsInAll 25 = .ok (.iload_n 2, 1) := by decide +kernel
theorem dX1_shiftsInAll_26 : decode cX1_shiftsInAll 26 = .ok (.ireturn, 1) := by decide +kernel
theorem dX1_shiftsOf_0 : decode cX1_shiftsOf 0 = .ok (.iconst 0, 1) := by decide +kernel
theorem dX1_shiftsOf_1 : decode cX1_shiftsOf 1 = .ok (.istore_n 3, 1) := by decide +kernel
theorem dX1_shiftsOf_2 : decode cX1_shiftsOf 2 = .ok (.iconst (-1), 1) := by decide +kernel
theorem dX1_shiftsOf_3 : decode cX1_shiftsOf 3 = .ok (.istore 4, 2) := by decide +kernel
theorem dX1_shiftsOf_5 : decode cX1_shiftsOf 5 = .ok (.iconst (-1), 1) := by decide +kernel
theorem dX1_shiftsOf_6 : decode cX1_shiftsOf 6 = .ok (.istore 5, 2) := by decide +kernel
theorem dX1_shiftsOf_8 : decode cX1_shiftsOf 8 = .ok (.iconst 0, 1) := by decide +kernel
theorem dX1_shiftsOf_9 : decode cX1_shiftsOf 9 = .ok (.istore 6, 2) := by decide +kernel
theorem dX1_shiftsOf_11 : decode cX1_shiftsOf 11 = .ok (.iload 6, 2) := by decide +kernel
theorem dX1_shiftsOf_13 : decode cX1_shiftsOf 13 = .ok (.aload_n 0, 1) := by decide +kernel
theorem dX1_shiftsOf_14 : decode cX1_shiftsOf 14 = .ok (.getfield 38, 3) := by decide +kernel
theorem dX1_shiftsOf_17 : decode cX1_shiftsOf 17 = .ok (.if_icmp .ge 106, 3) := by decide +kernel
theorem dX1_shiftsOf_20 : decode cX1_shiftsOf 20 = .ok (.aload_n 0, 1) := by decide +kernel
theorem dX1_shiftsOf_21 : decode cX1_shiftsOf 21 = .ok (.getfield 26, 3) := by decide +kernel
theorem dX1_shiftsOf_24 : decode cX1_shiftsOf 24 = .ok (.iload 6, 2) := by decide +kernel
theorem dX1_shiftsOf_26 : decode cX1_shiftsOf 26 = .ok (.aaload, 1) := by decide +kernel
theorem dX1_shiftsOf_27 : decode cX1_shiftsOf 27 = .ok (.astore 7, 2) := by decide +kernel
theorem dX1_shiftsOf_29 : decode cX1_shiftsOf 29 = .ok (.iconst 0, 1) := by decide +kernel
theorem dX1_shiftsOf_30 : decode cX1_shiftsOf 30 = .ok (.istore 8, 2) := by decide +kernel
theorem dX1_shiftsOf_32 : decode cX1_shiftsOf 32 = .ok (.iload 8, 2) := by decide +kernel
theorem dX1_shiftsOf_34 : decode cX1_shiftsOf 34 = .ok (.aload_n 0, 1) := by decide +kernel
theorem dX1_shiftsOf_35 : decode cX1_shiftsOf 35 = .ok (.getfield 30, 3) := by decide +kernel
theorem dX1_shiftsOf_38 : decode cX1_shiftsOf 38 = .ok (.if_icmp .ge 79, 3) := by decide +kernel
theorem dX1_shiftsOf_41 : decode cX1_shiftsOf 41 = .ok (.aload 7, 2) := by decide +kernel
theorem dX1_shiftsOf_43 : decode cX1_shiftsOf 43 = .ok (.getfield 91, 3) := by decide +kernel
theorem dX1_shiftsOf_46 : decode cX1_shiftsOf 46 = .ok (.iload 8, 2) := by decide +kernel
theorem dX1_shiftsOf_48 : decode cX1_shiftsOf 48 = .ok (.baload, 1) := by decide +kernel
theorem dX1_shiftsOf_49 : decode cX1_shiftsOf 49 = .ok (.iload_n 1, 1) := by decide +kernel
theorem dX1_shiftsOf_50 : decode cX1_shiftsOf 50 = .ok (.if_icmp .ne 61, 3) := by decide +kernel
theorem dX1_shiftsOf_53 : decode cX1_shiftsOf 53 = .ok (.iload 5, 2) := by decide +kernel
theorem dX1_shiftsOf_55 : decode cX1_shiftsOf 55 = .ok (.ifCond .lt 20, 3) := by decide +kernel
theorem dX1_shiftsOf_58 : decode cX1_shiftsOf 58 = .ok (.aload 7, 2) := by decide +kernel
theorem dX1_shiftsOf_60 : decode cX1_shiftsOf 60 = .ok (.getfield 107, 3) := by decide +kernel
theorem dX1_shiftsOf_63 : decode cX1_shiftsOf 63 = .ok (.iload 8, 2) := by decide +kernel
theorem dX1_shiftsOf_65 : decode cX1_shiftsOf 65 = .ok (.baload, 1) := by decide +kernel
theorem dX1_shiftsOf_66 : decode cX1_shiftsOf 66 = .ok (.iload 4, 2) := by decide +kernel
theorem dX1_shiftsOf_68 : decode cX1_shiftsOf 68 = .ok (.if_icmp .eq 7, 3) := by decide +kernel
theorem dX1_shiftsOf_71 : decode cX1_shiftsOf 71 = .ok (.iconst 1, 1) := by decide +kernel
theorem dX1_shiftsOf_72 : decode cX1_shiftsOf 72 = .ok (.goto 4, 3) := by decide +kernel
theorem dX1_shiftsOf_75 : decode cX1_shiftsOf 75 = .ok (.iconst 0, 1) := by decide +kernel
theorem dX1_shiftsOf_76 : decode cX1_shiftsOf 76 = .ok (.istore 9, 2) := by decide +kernel
theorem dX1_shiftsOf_78 : decode cX1_shiftsOf 78 = .ok (.iload 9, 2) := by decide +kernel
theorem dX1_shiftsOf_80 : decode cX1_shiftsOf 80 = .ok (.ifCond .eq 17, 3) := by decide +kernel
theorem dX1_shiftsOf_83 : decode cX1_shiftsOf 83 = .ok (.iload_n 2, 1) := by decide +kernel
theorem dX1_shiftsOf_84 : decode cX1_shiftsOf 84 = .ok (.ifCond .eq 10, 3) := by decide +kernel
theorem dX1_shiftsOf_87 : decode cX1_shiftsOf 87 = .ok (.iload 5, 2) := by decide +kernel
theorem dX1_shiftsOf_89 : decode cX1_shiftsOf 89 = .ok (.iload 6, 2) := by decide +kernel
theorem dX1_shiftsOf_91 : decode cX1_shiftsOf 91 = .ok (.if_icmp .ne 6, 3) := by decide +kernel
theorem dX1_shiftsOf_94 : decode cX1_shiftsOf 94 = .ok (.iinc 3 1, 3) := by decide +kernel
theorem dX1_shiftsOf_97 : decode cX1_shiftsOf 97 = .ok (.aload 7, 2) := by decide +kernel
theorem dX1_shiftsOf_99 : decode cX1_shiftsOf 99 = .ok (.getfield 107, 3) := by decide +kernel
theorem dX1_shiftsOf_102 : decode cX1_shiftsOf 102 = .ok (.iload 8, 2) := by decide +kernel
theorem dX1_shiftsOf_104 : decode cX1_shiftsOf 104 = .ok (.baload, 1) := by decide +kernel
theorem dX1_shiftsOf_105 : decode cX1_shiftsOf 105 = .ok (.istore 4, 2) := by decide +kernel
theorem dX1_shiftsOf_107 : decode cX1_shiftsOf 107 = .ok (.iload 6, 2) := by decide +kernel
theorem dX1_shiftsOf_109 : decode cX1_shiftsOf 109 = .ok (.istore 5, 2) := by decide +kernel
theorem dX1_shiftsOf_111 : decode cX1_shiftsOf 111 = .ok (.iinc 8 1, 3) := by decide +kernel
theorem dX1_shiftsOf_114 : decode cX1_shiftsOf 114 = .ok (.goto (-82), 3) := by decide +kernel
theorem dX1_shiftsOf_117 : decode cX1_shiftsOf 117 = .ok (.iinc 6 1, 3) := by decide +kernel
theorem dX1_shiftsOf_120 : decode cX1_shiftsOf 120 = .ok (.goto (-109), 3) := by decide +kernel
theorem dX1_shiftsOf_123 : decode cX1_shiftsOf 123 = .ok (.iload_n 3, 1) := by decide +kernel
theorem dX1_shiftsOf_124 : decode cX1_shiftsOf 124 = .ok (.ireturn, 1) := by decide +kernel
theorem dX1_knotsBy_0 : decode cX1_knotsBy 0 = .ok (.iconst 0, 1) := by decide +kernel
theorem dX1_knotsBy_1 : decode cX1_knotsBy 1 = .ok (.istore_n 2, 1) := by decide +kernel
theorem dX1_knotsBy_2 : decode cX1_knotsBy 2 = .ok (.iconst 0, 1) := by decide +kernel
theorem dX1_knotsBy_3 : decode cX1_knotsBy 3 = .ok (.istore_n 3, 1) := by decide +kernel
theorem dX1_knotsBy_4 : decode cX1_knotsBy 4 = .ok (.iload_n 3, 1) := by decide +kernel
theorem dX1_knotsBy_5 : decode cX1_knotsBy 5 = .ok (.aload_n 0, 1) := by decide +kernel
theorem dX1_knotsBy_6 : decode cX1_knotsBy 6 = .ok (.getfield 30, 3) := by decide +kernel
theorem dX1_knotsBy_9 : decode cX1_knotsBy 9 = .ok (.if_icmp .ge 21, 3) := by decide +kernel
theorem dX1_knotsBy_12 : decode cX1_knotsBy 12 = .ok (.aload_n 0, 1) := by decide +kernel
theorem dX1_knotsBy_13 : decode cX1_knotsBy 13 = .ok (.iload_n 3, 1) := by decide +kernel
theorem dX1_knotsBy_14 : decode cX1_knotsBy 14 = .ok (.invokevirtual 88, 3) := by decide +kernel
theorem dX1_knotsBy_17 : decode cX1_knotsBy 17 = .ok (.iload_n 1, 1) := by decide +kernel
theorem dX1_knotsBy_18 : decode cX1_knotsBy 18 = .ok (.if_icmp .ne 6, 3) := by decide +kernel
theorem dX1_knotsBy_21 : decode cX1_knotsBy 21 = .ok (.iinc 2 1, 3) := by decide +kernel
theorem dX1_knotsBy_24 : decode cX1_knotsBy 24 = .ok (.iinc 3 1, 3) := by decide +kernel
theorem dX1_knotsBy_27 : decode cX1_knotsBy 27 = .ok (.goto (-23), 3) := by decide +kernel
theorem dX1_knotsBy_30 : decode cX1_knotsBy 30 = .ok (.iload_n 2, 1) := by decide +kernel
theorem dX1_knotsBy_31 : decode cX1_knotsBy 31 = .ok (.aload_n 0, 1) := by decide +kernel
theorem dX1_knotsBy_32 : decode cX1_knotsBy 32 = .ok (.getfield 38, 3) := by decide +kernel
theorem dX1_knotsBy_35 : decode cX1_knotsBy 35 = .ok (.imul, 1) := by decide +kernel
theorem dX1_knotsBy_36 : decode cX1_knotsBy 36 = .ok (.ireturn, 1) := by decide +kernel
theorem dX1_faultsBy_0 : decode cX1_faultsBy 0 = .ok (.iconst 0, 1) := by decide +kernel
theorem dX1_faultsBy_1 : decode cX1_faultsBy 1 = .ok (.istore_n 2, 1) := by decide +kernel
theorem dX1_faultsBy_2 : decode cX1_faultsBy 2 = .ok (.iconst 0, 1) := by decide +kernel
theorem dX1_faultsBy_3 : decode cX1_faultsBy 3 = .ok (.istore_n 3, 1) := by decide +kernel
theorem dX1_faultsBy_4 : decode cX1_faultsBy 4 = .ok (.iload_n 3, 1) := by decide +kernel
theorem dX1_faultsBy_5 : decode cX1_faultsBy 5 = .ok (.aload_n 0, 1) := by decide +kernel
theorem dX1_faultsBy_6 : decode cX1_faultsBy 6 = .ok (.getfield 30, 3) := by decide +kernel
theorem dX1_faultsBy_9 : decode cX1_faultsBy 9 = .ok (.if_icmp .ge 26, 3) := by decide +kernel
theorem dX1_faultsBy_12 : decode cX1_faultsBy 12 = .ok (.aload_n 0, 1) := by decide +kernel
theorem dX1_faultsBy_13 : decode cX1_faultsBy 13 = .ok (.iload_n 3, 1) := by decide +kernel
theorem dX1_faultsBy_14 : decode cX1_faultsBy 14 = .ok (.invokevirtual 88, 3) := by decide +kernel
theorem dX1_faultsBy_17 : decode cX1_faultsBy 17 = .ok (.iload_n 1, 1) := by decide +kernel
theorem dX1_faultsBy_18 : decode cX1_faultsBy 18 = .ok (.if_icmp .ne 11, 3) := by decide +kernel
theorem dX1_faultsBy_21 : decode cX1_faultsBy 21 = .ok (.iload_n 2, 1) := by decide +kernel
theorem dX1_faultsBy_22 : decode cX1_faultsBy 22 = .ok (.aload_n 0, 1) := by decide +kernel
theorem dX1_faultsBy_23 : decode cX1_faultsBy 23 = .ok (.iload_n 3, 1) := by decide +kernel
theorem dX1_faultsBy_24 : decode cX1_faultsBy 24 = .ok (.invokevirtual 110, 3) := by decide +kernel
theorem dX1_faultsBy_27 : decode cX1_faultsBy 27 = .ok (.iadd, 1) := by decide +kernel
theorem dX1_faultsBy_28 : decode cX1_faultsBy 28 = .ok (.istore_n 2, 1) := by decide +kernel
theorem dX1_faultsBy_29 : decode cX1_faultsBy 29 = .ok (.iinc 3 1, 3) := by decide +kernel
theorem dX1_faultsBy_32 : decode cX1_faultsBy 32 = .ok (.goto (-28), 3) := by decide +kernel
theorem dX1_faultsBy_35 : decode cX1_faultsBy 35 = .ok (.iload_n 2, 1) := by decide +kernel
theorem dX1_faultsBy_36 : decode cX1_faultsBy 36 = .ok (.ireturn, 1) := by decide +kernel
theorem dX1_faultsInAll_0 : decode cX1_faultsInAll 0 = .ok (.iconst 0, 1) := by decide +kernel
theorem dX1_faultsInAll_1 : decode cX1_faultsInAll 1 = .ok (.istore_n 1, 1) := by decide +kernel
theorem dX1_faultsInAll_2 : decode cX1_faultsInAll 2 = .ok (.iconst 0, 1) := by decide +kernel
theorem dX1_faultsInAll_3 : decode cX1_faultsInAll 3 = .ok (.istore_n 2, 1) := by decide +kernel
theorem dX1_faultsInAll_4 : decode cX1_faultsInAll 4 = .ok (.iload_n 2, 1) := by decide +kernel
theorem dX1_faultsInAll_5 : decode cX1_faultsInAll 5 = .ok (.aload_n 0, 1) := by decide +kernel
theorem dX1_faultsInAll_6 : decode cX1_faultsInAll 6 = .ok (.getfield 30, 3) := by decide +kernel
theorem dX1_faultsInAll_9 : decode cX1_faultsInAll 9 = .ok (.if_icmp .ge 17, 3) := by decide +kernel
theorem dX1_faultsInAll_12 : decode cX1_faultsInAll 12 = .ok (.iload_n 1, 1) := by decide +kernel
theorem dX1_faultsInAll_13 : decode cX1_faultsInAll 13 = .ok (.aload_n 0, 1) := by decide +kernel
theorem dX1_faultsInAll_14 : decode cX1_faultsInAll 14 = .ok (.iload_n 2, 1) := by decide +kernel
theorem dX1_faultsInAll_15 : decode cX1_faultsInAll 15 = .ok (.invokevirtual 110, 3) := by decide +kernel
theorem dX1_faultsInAll_18 : decode cX1_faultsInAll 18 = .ok (.iadd, 1) := by decide +kernel
theorem dX1_faultsInAll_19 : decode cX1_faultsInAll 19 = .ok (.istore_n 1, 1) := by decide +kernel
theorem dX1_faultsInAll_20 : decode cX1_faultsInAll 20 = .ok (.iinc 2 1, 3) := by decide +kernel
theorem dX1_faultsInAll_23 : decode cX1_faultsInAll 23 = .ok (.goto (-19), 3) := by decide +kernel
theorem dX1_faultsInAll_26 : decode cX1_faultsInAll 26 = .ok (.iload_n 1, 1) := by decide +kernel
theorem dX1_faultsInAll_27 : decode cX1_faultsInAll 27 = .ok (.ireturn, 1) := by decide +kernel
theorem dX1_faultsAt_0 : decode cX1_faultsAt 0 = .ok (.iconst 0, 1) := by decide +kernel
theorem dX1_faultsAt_1 : decode cX1_faultsAt 1 = .ok (.istore_n 2, 1) := by decide +kernel
theorem dX1_faultsAt_2 : decode cX1_faultsAt 2 = .ok (.iconst 0, 1) := by decide +kernel
theorem dX1_faultsAt_3 : decode cX1_faultsAt 3 = .ok (.istore_n 3, 1) := by decide +kernel
theorem dX1_faultsAt_4 : decode cX1_faultsAt 4 = .ok (.iload_n 3, 1) := by decide +kernel
theorem dX1_faultsAt_5 : decode cX1_faultsAt 5 = .ok (.aload_n 0, 1) := by decide +kernel
theorem dX1_faultsAt_6 : decode cX1_faultsAt 6 = .ok (.getfield 38, 3) := by decide +kernel
theorem dX1_faultsAt_9 : decode cX1_faultsAt 9 = .ok (.if_icmp .ge 25, 3) := by decide +kernel
theorem dX1_faultsAt_12 : decode cX1_faultsAt 12 = .ok (.aload_n 0, 1) := by decide +kernel
theorem dX1_faultsAt_13 : decode cX1_faultsAt 13 = .ok (.getfield 26, 3) := by decide +kernel
theorem dX1_faultsAt_16 : decode cX1_faultsAt 16 = .ok (.iload_n 3, 1) := by decide +kernel
theorem dX1_faultsAt_17 : decode cX1_faultsAt 17 = .ok (.aaload, 1) := by decide +kernel
theorem dX1_faultsAt_18 : decode cX1_faultsAt 18 = .ok (.iload_n 1, 1) := by decide +kernel
theorem dX1_faultsAt_19 : decode cX1_faultsAt 19 = .ok (.invokevirtual 113, 3) := by decide +kernel
theorem dX1_faultsAt_22 : decode cX1_faultsAt 22 = .ok (.ifCond .eq 6, 3) := by decide +kernel
theorem dX1_faultsAt_25 : decode cX1_faultsAt 25 = .ok (.iinc 2 1, 3) := by decide +kernel
theorem dX1_faultsAt_28 : decode cX1_faultsAt 28 = .ok (.iinc 3 1, 3) := by decide +kernel
theorem dX1_faultsAt_31 : decode cX1_faultsAt 31 = .ok (.goto (-27), 3) := by decide +kernel
theorem dX1_faultsAt_34 : decode cX1_faultsAt 34 = .ok (.iload_n 2, 1) := by decide +kernel
theorem dX1_faultsAt_35 : decode cX1_faultsAt 35 = .ok (.ireturn, 1) := by decide +kernel
theorem dX1_wagesOf_0 : decode cX1_wagesOf 0 = .ok (.iconst 0, 1) := by decide +kernel
theorem dX1_wagesOf_1 : decode cX1_wagesOf 1 = .ok (.iconst 5, 1) := by decide +kernel
theorem dX1_wagesOf_2 : decode cX1_wagesOf 2 = .ok (.aload_n 0, 1) := by decide +kernel
theorem dX1_wagesOf_3 : decode cX1_wagesOf 3 = .ok (.iload_n 1, 1) := by decide +kernel
theorem dX1_wagesOf_4 : decode cX1_wagesOf 4 = .ok (.invokevirtual 116, 3) := by decide +kernel
theorem dX1_wagesOf_7 : decode cX1_wagesOf 7 = .ok (.bipush 10, 2) := by decide +kernel
theorem dX1_wagesOf_9 : decode cX1_wagesOf 9 = .ok (.idiv, 1) := by decide +kernel
theorem dX1_wagesOf_10 : decode cX1_wagesOf 10 = .ok (.imul, 1) := by decide +kernel
theorem dX1_wagesOf_11 : decode cX1_wagesOf 11 = .ok (.bipush 20, 2) := by decide +kernel
theorem dX1_wagesOf_13 : decode cX1_wagesOf 13 = .ok (.aload_n 0, 1) := by decide +kernel
theorem dX1_wagesOf_14 : decode cX1_wagesOf 14 = .ok (.iload_n 1, 1) := by decide +kernel
theorem dX1_wagesOf_15 : decode cX1_wagesOf 15 = .ok (.invokevirtual 119, 3) := by decide +kernel
theorem dX1_wagesOf_18 : decode cX1_wagesOf 18 = .ok (.imul, 1) := by decide +kernel
theorem dX1_wagesOf_19 : decode cX1_wagesOf 19 = .ok (.isub, 1) := by decide +kernel
theorem dX1_wagesOf_20 : decode cX1_wagesOf 20 = .ok (.invokestatic 98, 3) := by decide +kernel
theorem dX1_wagesOf_23 : decode cX1_wagesOf 23 = .ok (.ireturn, 1) := by decide +kernel
theorem dX1_unlikeRows_0 : decode cX1_unlikeRows 0 = .ok (.iconst 0, 1) := by decide +kernel
theorem dX1_unlikeRows_1 : decode cX1_unlikeRows 1 = .ok (.istore_n 3, 1) := by decide +kernel
theorem dX1_unlikeRows_2 : decode cX1_unlikeRows 2 = .ok (.iconst 0, 1) := by decide +kernel
theorem dX1_unlikeRows_3 : decode cX1_unlikeRows 3 = .ok (.istore 4, 2) := by decide +kernel
theorem dX1_unlikeRows_5 : decode cX1_unlikeRows 5 = .ok (.iload 4, 2) := by decide +kernel
theorem dX1_unlikeRows_7 : decode cX1_unlikeRows 7 = .ok (.aload_n 0, 1) := by decide +kernel
theorem dX1_unlikeRows_8 : decode cX1_unlikeRows 8 = .ok (.getfield 30, 3) := by decide +kernel
theorem dX1_unlikeRows_11 : decode cX1_unlikeRows 11 = .ok (.if_icmp .ge 39, 3) := by decide +kernel
theorem dX1_unlikeRows_14 : decode cX1_unlikeRows 14 = .ok (.aload_n 0, 1) := by decide +kernel
theorem dX1_unlikeRows_15 : decode cX1_unlikeRows 15 = .ok (.getfield 26, 3) := by decide +kernel
theorem dX1_unlikeRows_18 : decode cX1_unlikeRows 18 = .ok (.iload_n 1, 1) := by decide +kernel
theorem dX1_unlikeRows_19 : decode cX1_unlikeRows 19 = .ok (.aaload, 1) := by decide +kernel
theorem dX1_unlikeRows_20 : decode cX1_unlikeRows 20 = .ok (.getfield 49, 3) := by decide +kernel
theorem dX1_unlikeRows_23 : decode cX1_unlikeRows 23 = .ok (.iload 4, 2) := by decide +kernel
theorem dX1_unlikeRows_25 : decode cX1_unlikeRows 25 = .ok (.baload, 1) := by decide +kernel
theorem dX1_unlikeRows_26 : decode cX1_unlikeRows 26 = .ok (.aload_n 0, 1) := by decide +kernel
theorem dX1_unlikeRows_27 : decode cX1_unlikeRows 27 = .ok (.getfield 26, 3) := by decide +kernel
theorem dX1_unlikeRows_30 : decode cX1_unlikeRows 30 = .ok (.iload_n 2, 1) := by decide +kernel
theorem dX1_unlikeRows_31 : decode cX1_unlikeRows 31 = .ok (.aaload, 1) := by decide +kernel
theorem dX1_unlikeRows_32 : decode cX1_unlikeRows 32 = .ok (.getfield 49, 3) := by decide +kernel
theorem dX1_unlikeRows_35 : decode cX1_unlikeRows 35 = .ok (.iload 4, 2) := by decide +kernel
theorem dX1_unlikeRows_37 : decode cX1_unlikeRows 37 = .ok (.baload, 1) := by decide +kernel
theorem dX1_unlikeRows_38 : decode cX1_unlikeRows 38 = .ok (.if_icmp .eq 6, 3) := by decide +kernel
theorem dX1_unlikeRows_41 : decode cX1_unlikeRows 41 = .ok (.iinc 3 1, 3) := by decide +kernel
theorem dX1_unlikeRows_44 : decode cX1_unlikeRows 44 = .ok (.iinc 4 1, 3) := by decide +kernel
theorem dX1_unlikeRows_47 : decode cX1_unlikeRows 47 = .ok (.goto (-42), 3) := by decide +kernel
theorem dX1_unlikeRows_50 : decode cX1_unlikeRows 50 = .ok (.iload_n 3, 1) := by decide +kernel
theorem dX1_unlikeRows_51 : decode cX1_unlikeRows 51 = .ok (.ireturn, 1) := by decide +kernel
theorem dX1_unlikeMirrored_0 : decode cX1_unlikeMirrored 0 = .ok (.aload_n 0, 1) := by decide +kernel
theorem dX1_unlikeMirrored_1 : decode cX1_unlikeMirrored 1 = .ok (.getfield 26, 3) := by decide +kernel
theorem dX1_unlikeMirrored_4 : decode cX1_unlikeMirrored 4 = .ok (.iload_n 1, 1) := by decide +kernel
theorem dX1_unlikeMirrored_5 : decode cX1_unlikeMirrored 5 = .ok (.aaload, 1) := by decide +kernel
theorem dX1_unlikeMirrored_6 : decode cX1_unlikeMirrored 6 = .ok (.getfield 49, 3) := by decide +kernel
theorem dX1_unlikeMirrored_9 : decode cX1_unlikeMirrored 9 = .ok (.astore_n 2, 1) := by decide +kernel
theorem dX1_unlikeMirrored_10 : decode cX1_unlikeMirrored 10 = .ok (.iconst 0, 1) := by decide +kernel
theorem dX1_unlikeMirrored_11 : decode cX1_unlikeMirrored 11 = .ok (.istore_n 3, 1) := by decide +kernel
theorem dX1_unlikeMirrored_12 : decode cX1_unlikeMirrored 12 = .ok (.iconst 0, 1) := by decide +kernel
theorem dX1_unlikeMirrored_13 : decode cX1_unlikeMirrored 13 = .ok (.istore 4, 2) := by decide +kernel
theorem dX1_unlikeMirrored_15 : decode cX1_unlikeMirrored 15 = .ok (.iload 4, 2) := by decide +kernel
theorem dX1_unlikeMirrored_17 : decode cX1_unlikeMirrored 17 = .ok (.aload_n 0, 1) := by decide +kernel
theorem dX1_unlikeMirrored_18 : decode cX1_unlikeMirrored 18 = .ok (.getfield 30, 3) := by decide +kernel
theorem dX1_unlikeMirrored_21 : decode cX1_unlikeMirrored 21 = .ok (.if_icmp .ge 30, 3) := by decide +kernel
theorem dX1_unlikeMirrored_24 : decode cX1_unlikeMirrored 24 = .ok (.aload_n 2, 1) := by decide +kernel
theorem dX1_unlikeMirrored_25 : decode cX1_unlikeMirrored 25 = .ok (.iload 4, 2) := by decide +kernel
theorem dX1_unlikeMirrored_27 : decode cX1_unlikeMirrored 27 = .ok (.baload, 1) := by decide +kernel
theorem dX1_unlikeMirrored_28 : decode cX1_unlikeMirrored 28 = .ok (.aload_n 2, 1) := by decide +kernel
theorem dX1_unlikeMirrored_29 : decode cX1_unlikeMirrored 29 = .ok (.aload_n 0, 1) := by decide +kernel
theorem dX1_unlikeMirrored_30 : decode cX1_unlikeMirrored 30 = .ok (.getfield 30, 3) := by decide +kernel
theorem dX1_unlikeMirrored_33 : decode cX1_unlikeMirrored 33 = .ok (.iconst 1, 1) := by decide +kernel
theorem dX1_unlikeMirrored_34 : decode cX1_unlikeMirrored 34 = .ok (.isub, 1) := by decide +kernel
theorem dX1_unlikeMirrored_35 : decode cX1_unlikeMirrored 35 = .ok (.iload 4, 2) := by decide +kernel
theorem dX1_unlikeMirrored_37 : decode cX1_unlikeMirrored 37 = .ok (.isub, 1) := by decide +kernel
theorem dX1_unlikeMirrored_38 : decode cX1_unlikeMirrored 38 = .ok (.baload, 1) := by decide +kernel
theorem dX1_unlikeMirrored_39 : decode cX1_unlikeMirrored 39 = .ok (.if_icmp .eq 6, 3) := by decide +kernel
theorem dX1_unlikeMirrored_42 : decode cX1_unlikeMirrored 42 = .ok (.iinc 3 1, 3) := by decide +kernel
theorem dX1_unlikeMirrored_45 : decode cX1_unlikeMirrored 45 = .ok (.iinc 4 1, 3) := by decide +kernel
theorem dX1_unlikeMirrored_48 : decode cX1_unlikeMirrored 48 = .ok (.goto (-33), 3) := by decide +kernel
