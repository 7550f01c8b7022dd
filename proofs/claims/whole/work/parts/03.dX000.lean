theorem dX0_init_0 : decode cX0_init 0 = .ok (.aload_n 0, 1) := by decide +kernel
theorem dX0_init_1 : decode cX0_init 1 = .ok (.invokespecial 3, 3) := by decide +kernel
theorem dX0_init_4 : decode cX0_init 4 = .ok (.aload_n 0, 1) := by decide +kernel
theorem dX0_init_5 : decode cX0_init 5 = .ok (.new 9, 3) := by decide +kernel
theorem dX0_init_8 : decode cX0_init 8 = .ok (.dup, 1) := by decide +kernel
theorem dX0_init_9 : decode cX0_init 9 = .ok (.invokespecial 11, 3) := by decide +kernel
theorem dX0_init_12 : decode cX0_init 12 = .ok (.putfield 12, 3) := by decide +kernel
theorem dX0_init_15 : decode cX0_init 15 = .ok (.aload_n 0, 1) := by decide +kernel
theorem dX0_init_16 : decode cX0_init 16 = .ok (.sipush 1000, 3) := by decide +kernel
theorem dX0_init_19 : decode cX0_init 19 = .ok (.newarray .byte, 2) := by decide +kernel
theorem dX0_init_21 : decode cX0_init 21 = .ok (.putfield 18, 3) := by decide +kernel
theorem dX0_init_24 : decode cX0_init 24 = .ok (.aload_n 0, 1) := by decide +kernel
theorem dX0_init_25 : decode cX0_init 25 = .ok (.bipush 12, 2) := by decide +kernel
theorem dX0_init_27 : decode cX0_init 27 = .ok (.newarray .int, 2) := by decide +kernel
theorem dX0_init_29 : decode cX0_init 29 = .ok (.putfield 22, 3) := by decide +kernel
theorem dX0_init_32 : decode cX0_init 32 = .ok (.aload_n 0, 1) := by decide +kernel
theorem dX0_init_33 : decode cX0_init 33 = .ok (.iload_n 1, 1) := by decide +kernel
theorem dX0_init_34 : decode cX0_init 34 = .ok (.putfield 26, 3) := by decide +kernel
theorem dX0_init_37 : decode cX0_init 37 = .ok (.aload_n 0, 1) := by decide +kernel
theorem dX0_init_38 : decode cX0_init 38 = .ok (.aload_n 2, 1) := by decide +kernel
theorem dX0_init_39 : decode cX0_init 39 = .ok (.putfield 30, 3) := by decide +kernel
theorem dX0_init_42 : decode cX0_init 42 = .ok (.return_, 1) := by decide +kernel
theorem dX0_chants_0 : decode cX0_chants 0 = .ok (.aload_n 0, 1) := by decide +kernel
theorem dX0_chants_1 : decode cX0_chants 1 = .ok (.getfield 12, 3) := by decide +kernel
theorem dX0_chants_4 : decode cX0_chants 4 = .ok (.invokevirtual 34, 3) := by decide +kernel
theorem dX0_chants_7 : decode cX0_chants 7 = .ok (.ireturn, 1) := by decide +kernel
theorem dX0_hasChant_0 : decode cX0_hasChant 0 = .ok (.iload_n 1, 1) := by decide +kernel
theorem dX0_hasChant_1 : decode cX0_hasChant 1 = .ok (.ifCond .lt 18, 3) := by decide +kernel
theorem dX0_hasChant_4 : decode cX0_hasChant 4 = .ok (.iload_n 1, 1) := by decide +kernel
theorem dX0_hasChant_5 : decode cX0_hasChant 5 = .ok (.aload_n 0, 1) := by decide +kernel
theorem dX0_hasChant_6 : decode cX0_hasChant 6 = .ok (.getfield 12, 3) := by decide +kernel
theorem dX0_hasChant_9 : decode cX0_hasChant 9 = .ok (.invokevirtual 34, 3) := by decide +kernel
theorem dX0_hasChant_12 : decode cX0_hasChant 12 = .ok (.if_icmp .ge 7, 3) := by decide +kernel
theorem dX0_hasChant_15 : decode cX0_hasChant 15 = .ok (.iconst 1, 1) := by decide +kernel
theorem dX0_hasChant_16 : decode cX0_hasChant 16 = .ok (.goto 4, 3) := by decide +kernel
theorem dX0_hasChant_19 : decode cX0_hasChant 19 = .ok (.iconst 0, 1) := by decide +kernel
theorem dX0_hasChant_20 : decode cX0_hasChant 20 = .ok (.ireturn, 1) := by decide +kernel
theorem dX0_hasStep_0 : decode cX0_hasStep 0 = .ok (.aload_n 0, 1) := by decide +kernel
theorem dX0_hasStep_1 : decode cX0_hasStep 1 = .ok (.iload_n 1, 1) := by decide +kernel
theorem dX0_hasStep_2 : decode cX0_hasStep 2 = .ok (.invokevirtual 38, 3) := by decide +kernel
theorem dX0_hasStep_5 : decode cX0_hasStep 5 = .ok (.ifCond .eq 32, 3) := by decide +kernel
theorem dX0_hasStep_8 : decode cX0_hasStep 8 = .ok (.iload_n 2, 1) := by decide +kernel
theorem dX0_hasStep_9 : decode cX0_hasStep 9 = .ok (.ifCond .lt 28, 3) := by decide +kernel
theorem dX0_hasStep_12 : decode cX0_hasStep 12 = .ok (.iload_n 2, 1) := by decide +kernel
theorem dX0_hasStep_13 : decode cX0_hasStep 13 = .ok (.aload_n 0, 1) := by decide +kernel
theorem dX0_hasStep_14 : decode cX0_hasStep 14 = .ok (.getfield 12, 3) := by decide +kernel
theorem dX0_hasStep_17 : decode cX0_hasStep 17 = .ok (.iload_n 1, 1) := by decide +kernel
theorem dX0_hasStep_18 : decode cX0_hasStep 18 = .ok (.invokevirtual 42, 3) := by decide +kernel
theorem dX0_hasStep_21 : decode cX0_hasStep 21 = .ok (.checkcast 46, 3) := by decide +kernel
theorem dX0_hasStep_24 : decode cX0_hasStep 24 = .ok (.getfield 48, 3) := by decide +kernel
theorem dX0_hasStep_27 : decode cX0_hasStep 27 = .ok (.invokevirtual 34, 3) := by decide +kernel
theorem dX0_hasStep_30 : decode cX0_hasStep 30 = .ok (.if_icmp .ge 7, 3) := by decide +kernel
theorem dX0_hasStep_33 : decode cX0_hasStep 33 = .ok (.iconst 1, 1) := by decide +kernel
theorem dX0_hasStep_34 : decode cX0_hasStep 34 = .ok (.goto 4, 3) := by decide +kernel
theorem dX0_hasStep_37 : decode cX0_hasStep 37 = .ok (.iconst 0, 1) := by decide +kernel
theorem dX0_hasStep_38 : decode cX0_hasStep 38 = .ok (.ireturn, 1) := by decide +kernel
theorem dX0_stepOf_0 : decode cX0_stepOf 0 = .ok (.aload_n 0, 1) := by decide +kernel
theorem dX0_stepOf_1 : decode cX0_stepOf 1 = .ok (.getfield 12, 3) := by decide +kernel
theorem dX0_stepOf_4 : decode cX0_stepOf 4 = .ok (.iload_n 1, 1) := by decide +kernel
theorem dX0_stepOf_5 : decode cX0_stepOf 5 = .ok (.invokevirtual 42, 3) := by decide +kernel
theorem dX0_stepOf_8 : decode cX0_stepOf 8 = .ok (.checkcast 46, 3) := by decide +kernel
theorem dX0_stepOf_11 : decode cX0_stepOf 11 = .ok (.getfield 48, 3) := by decide +kernel
theorem dX0_stepOf_14 : decode cX0_stepOf 14 = .ok (.iload_n 2, 1) := by decide +kernel
theorem dX0_stepOf_15 : decode cX0_stepOf 15 = .ok (.invokevirtual 42, 3) := by decide +kernel
theorem dX0_stepOf_18 : decode cX0_stepOf 18 = .ok (.checkcast 51, 3) := by decide +kernel
theorem dX0_stepOf_21 : decode cX0_stepOf 21 = .ok (.areturn, 1) := by decide +kernel
theorem dX0_addChant_0 : decode cX0_addChant 0 = .ok (.aload_n 0, 1) := by decide +kernel
theorem dX0_addChant_1 : decode cX0_addChant 1 = .ok (.getfield 12, 3) := by decide +kernel
theorem dX0_addChant_4 : decode cX0_addChant 4 = .ok (.invokevirtual 34, 3) := by decide +kernel
theorem dX0_addChant_7 : decode cX0_addChant 7 = .ok (.bipush 12, 2) := by decide +kernel
theorem dX0_addChant_9 : decode cX0_addChant 9 = .ok (.if_icmp .lt 6, 3) := by decide +kernel
theorem dX0_addChant_12 : decode cX0_addChant 12 = .ok (.bipush (-2), 2) := by decide +kernel
theorem dX0_addChant_14 : decode cX0_addChant 14 = .ok (.ireturn, 1) := by decide +kernel
theorem dX0_addChant_15 : decode cX0_addChant 15 = .ok (.aload_n 0, 1) := by decide +kernel
theorem dX0_addChant_16 : decode cX0_addChant 16 = .ok (.getfield 12, 3) := by decide +kernel
theorem dX0_addChant_19 : decode cX0_addChant 19 = .ok (.new 46, 3) := by decide +kernel
theorem dX0_addChant_22 : decode cX0_addChant 22 = .ok (.dup, 1) := by decide +kernel
theorem dX0_addChant_23 : decode cX0_addChant 23 = .ok (.invokespecial 53, 3) := by decide +kernel
theorem dX0_addChant_26 : decode cX0_addChant 26 = .ok (.invokevirtual 54, 3) := by decide +kernel
theorem dX0_addChant_29 : decode cX0_addChant 29 = .ok (.pop, 1) := by decide +kernel
theorem dX0_addChant_30 : decode cX0_addChant 30 = .ok (.aload_n 0, 1) := by decide +kernel
theorem dX0_addChant_31 : decode cX0_addChant 31 = .ok (.getfield 12, 3) := by decide +kernel
theorem dX0_addChant_34 : decode cX0_addChant 34 = .ok (.invokevirtual 34, 3) := by decide +kernel
theorem dX0_addChant_37 : decode cX0_addChant 37 = .ok (.iconst 1, 1) := by decide +kernel
theorem dX0_addChant_38 : decode cX0_addChant 38 = .ok (.isub, 1) := by decide +kernel
theorem dX0_addChant_39 : decode cX0_addChant 39 = .ok (.ireturn, 1) := by decide +kernel
theorem dX0_addStep_0 : decode cX0_addStep 0 = .ok (.aload_n 0, 1) := by decide +kernel
theorem dX0_addStep_1 : decode cX0_addStep 1 = .ok (.getfield 12, 3) := by decide +kernel
theorem dX0_addStep_4 : decode cX0_addStep 4 = .ok (.invokevirtual 58, 3) := by decide +kernel
theorem dX0_addStep_7 : decode cX0_addStep 7 = .ok (.ifCond .eq 6, 3) := by decide +kernel
theorem dX0_addStep_10 : decode cX0_addStep 10 = .ok (.bipush (-3), 2) := by decide +kernel
theorem dX0_addStep_12 : decode cX0_addStep 12 = .ok (.ireturn, 1) := by decide +kernel
theorem dX0_addStep_13 : decode cX0_addStep 13 = .ok (.aload_n 0, 1) := by decide +kernel
theorem dX0_addStep_14 : decode cX0_addStep 14 = .ok (.getfield 12, 3) := by decide +kernel
theorem dX0_addStep_17 : decode cX0_addStep 17 = .ok (.aload_n 0, 1) := by decide +kernel
theorem dX0_addStep_18 : decode cX0_addStep 18 = .ok (.getfield 12, 3) := by decide +kernel
theorem dX0_addStep_21 : decode cX0_addStep 21 = .ok (.invokevirtual 34, 3) := by decide +kernel
theorem dX0_addStep_24 : decode cX0_addStep 24 = .ok (.iconst 1, 1) := by decide +kernel
theorem dX0_addStep_25 : decode cX0_addStep 25 = .ok (.isub, 1) := by decide +kernel
theorem dX0_addStep_26 : decode cX0_addStep 26 = .ok (.invokevirtual 42, 3) := by decide +kernel
theorem dX0_addStep_29 : decode cX0_addStep 29 = .ok (.checkcast 46, 3) := by decide +kernel
theorem dX0_addStep_32 : decode cX0_addStep 32 = .ok (.getfield 48, 3) := by decide +kernel
theorem dX0_addStep_35 : decode cX0_addStep 35 = .ok (.astore 4, 2) := by decide +kernel
theorem dX0_addStep_37 : decode cX0_addStep 37 = .ok (.aload 4, 2) := by decide +kernel
theorem dX0_addStep_39 : decode cX0_addStep 39 = .ok (.invokevirtual 34, 3) := by decide +kernel
theorem dX0_addStep_42 : decode cX0_addStep 42 = .ok (.bipush 12, 2) := by decide +kernel
theorem dX0_addStep_44 : decode cX0_addStep 44 = .ok (.if_icmp .lt 6, 3) := by decide +kernel
theorem dX0_addStep_47 : decode cX0_addStep 47 = .ok (.bipush (-2), 2) := by decide +kernel
theorem dX0_addStep_49 : decode cX0_addStep 49 = .ok (.ireturn, 1) := by decide +kernel
theorem dX0_addStep_50 : decode cX0_addStep 50 = .ok (.aload 4, 2) := by decide +kernel
theorem dX0_addStep_52 : decode cX0_addStep 52 = .ok (.new 51, 3) := by decide +kernel
theorem dX0_addStep_55 : decode cX0_addStep 55 = .ok (.dup, 1) := by decide +kernel
theorem dX0_addStep_56 : decode cX0_addStep 56 = .ok (.iload_n 1, 1) := by decide +kernel
theorem dX0_addStep_57 : decode cX0_addStep 57 = .ok (.iload_n 2, 1) := by decide +kernel
theorem dX0_addStep_58 : decode cX0_addStep 58 = .ok (.iload_n 3, 1) := by decide +kernel
theorem dX0_addStep_59 : decode cX0_addStep 59 = .ok (.invokespecial 62, 3) := by decide +kernel
theorem dX0_addStep_62 : decode cX0_addStep 62 = .ok (.invokevirtual 54, 3) := by decide +kernel
theorem dX0_addStep_65 : decode cX0_addStep 65 = .ok (.pop, 1) := by decide +kernel
theorem dX0_addStep_66 : decode cX0_addStep 66 = .ok (.aload 4, 2) := by decide +kernel
theorem dX0_addStep_68 : decode cX0_addStep 68 = .ok (.invokevirtual 34, 3) := by decide +kernel
theorem dX0_addStep_71 : decode cX0_addStep 71 = .ok (.iconst 1, 1) := by decide +kernel
theorem dX0_addStep_72 : decode cX0_addStep 72 = .ok (.isub, 1) := by decide +kernel
theorem dX0_addStep_73 : decode cX0_addStep 73 = .ok (.ireturn, 1) := by decide +kernel
theorem dX0_measured_0 : decode cX0_measured 0 = .ok (.aload_n 0, 1) := by decide +kernel
theorem dX0_measured_1 : decode cX0_measured 1 = .ok (.iconst 0, 1) := by decide +kernel
theorem dX0_measured_2 : decode cX0_measured 2 = .ok (.putfield 65, 3) := by decide +kernel
theorem dX0_measured_5 : decode cX0_measured 5 = .ok (.aload_n 0, 1) := by decide +kernel
theorem dX0_measured_6 : decode cX0_measured 6 = .ok (.iload_n 1, 1) := by decide +kernel
theorem dX0_measured_7 : decode cX0_measured 7 = .ok (.aload_n 0, 1) := by decide +kernel
theorem dX0_measured_8 : decode cX0_measured 8 = .ok (.getfield 26, 3) := by decide +kernel
theorem dX0_measured_11 : decode cX0_measured 11 = .ok (.iconst 0, 1) := by decide +kernel
theorem dX0_measured_12 : decode cX0_measured 12 = .ok (.iconst 0, 1) := by decide +kernel
theorem dX0_measured_13 : decode cX0_measured 13 = .ok (.invokevirtual 68, 3) := by decide +kernel
theorem dX0_measured_16 : decode cX0_measured 16 = .ok (.ireturn, 1) := by decide +kernel
theorem dX0_measure_0 : decode cX0_measure 0 = .ok (.iload 4, 2) := by decide +kernel
theorem dX0_measure_2 : decode cX0_measure 2 = .ok (.bipush 12, 2) := by decide +kernel
theorem dX0_measure_4 : decode cX0_measure 4 = .ok (.if_icmp .gt 11, 3) := by decide +kernel
theorem dX0_measure_7 : decode cX0_measure 7 = .ok (.aload_n 0, 1) := by decide +kernel
theorem dX0_measure_8 : decode cX0_measure 8 = .ok (.iload_n 1, 1) := by decide +kernel
theorem dX0_measure_9 : decode cX0_measure 9 = .ok (.invokevirtual 38, 3) := by decide +kernel
theorem dX0_measure_12 : decode cX0_measure 12 = .ok (.ifCond .ne 6, 3) := by decide +kernel
theorem dX0_measure_15 : decode cX0_measure 15 = .ok (.bipush (-6), 2) := by decide +kernel
theorem dX0_measure_17 : decode cX0_measure 17 = .ok (.ireturn, 1) := by decide +kernel
theorem dX0_measure_18 : decode cX0_measure 18 = .ok (.aload_n 0, 1) := by decide +kernel
theorem dX0_measure_19 : decode cX0_measure 19 = .ok (.getfield 12, 3) := by decide +kernel
theorem dX0_measure_22 : decode cX0_measure 22 = .ok (.iload_n 1, 1) := by decide +kernel
theorem dX0_measure_23 : decode cX0_measure 23 = .ok (.invokevirtual 42, 3) := by decide +kernel
theorem dX0_measure_26 : decode cX0_measure 26 = .ok (.checkcast 46, 3) := by decide +kernel
theorem dX0_measure_29 : decode cX0_measure 29 = .ok (.getfield 48, 3) := by decide +kernel
theorem dX0_measure_32 : decode cX0_measure 32 = .ok (.astore 5, 2) := by decide +kernel
theorem dX0_measure_34 : decode cX0_measure 34 = .ok (.iconst 0, 1) := by decide +kernel
theorem dX0_measure_35 : decode cX0_measure 35 = .ok (.istore 6, 2) := by decide +kernel
theorem dX0_measure_37 : decode cX0_measure 37 = .ok (.iconst 0, 1) := by decide +kernel
theorem dX0_measure_38 : decode cX0_measure 38 = .ok (.istore 7, 2) := by decide +kernel
theorem dX0_measure_40 : decode cX0_measure 40 = .ok (.iload 7, 2) := by decide +kernel
theorem dX0_measure_42 : decode cX0_measure 42 = .ok (.aload 5, 2) := by decide +kernel
theorem dX0_measure_44 : decode cX0_measure 44 = .ok (.invokevirtual 34, 3) := by decide +kernel
theorem dX0_measure_47 : decode cX0_measure 47 = .ok (.if_icmp .ge 106, 3) := by decide +kernel
theorem dX0_measure_50 : decode cX0_measure 50 = .ok (.aload_n 0, 1) := by decide +kernel
theorem dX0_measure_51 : decode cX0_measure 51 = .ok (.getfield 65, 3) := by decide +kernel
theorem dX0_measure_54 : decode cX0_measure 54 = .ok (.sipush 1000, 3) := by decide +kernel
theorem dX0_measure_57 : decode cX0_measure 57 = .ok (.if_icmp .lt 6, 3) := by decide +kernel
theorem dX0_measure_60 : decode cX0_measure 60 = .ok (.bipush (-6), 2) := by decide +kernel
theorem dX0_measure_62 : decode cX0_measure 62 = .ok (.ireturn, 1) := by decide +kernel
theorem dX0_measure_63 : decode cX0_measure 63 = .ok (.aload_n 0, 1) := by decide +kernel
theorem dX0_measure_64 : decode cX0_measure 64 = .ok (.dup, 1) := by decide +kernel
theorem dX0_measure_65 : decode cX0_measure 65 = .ok (.getfield 65, 3) := by decide +kernel
theorem dX0_measure_68 : decode cX0_measure 68 = .ok (.iconst 1, 1) := by decide +kernel
theorem dX0_measure_69 : decode cX0_measure 69 = .ok (.iadd, 1) := by decide +kernel
theorem dX0_measure_70 : decode cX0_measure 70 = .ok (.putfield 65, 3) := by decide +kernel
theorem dX0_measure_73 : decode cX0_measure 73 = .ok (.aload_n 0, 1) := by decide +kernel
theorem dX0_measure_74 : decode cX0_measure 74 = .ok (.aload 5, 2) := by decide +kernel
theorem dX0_measure_76 : decode cX0_measure 76 = .ok (.iload 7, 2) := by decide +kernel
theorem dX0_measure_78 : decode cX0_measure 78 = .ok (.invokevirtual 42, 3) := by decide +kernel
theorem dX0_measure_81 : decode cX0_measure 81 = .ok (.checkcast 51, 3) := by decide +kernel
theorem dX0_measure_84 : decode cX0_measure 84 = .ok (.iload 6, 2) := by decide +kernel
theorem dX0_measure_86 : decode cX0_measure 86 = .ok (.iload_n 2, 1) := by decide +kernel
theorem dX0_measure_87 : decode cX0_measure 87 = .ok (.iload_n 3, 1) := by decide +kernel
theorem dX0_measure_88 : decode cX0_measure 88 = .ok (.iload 4, 2) := by decide +kernel
theorem dX0_measure_90 : decode cX0_measure 90 = .ok (.invokevirtual 72, 3) := by decide +kernel
theorem dX0_measure_93 : decode cX0_measure 93 = .ok (.istore 8, 2) := by decide +kernel
theorem dX0_measure_95 : decode cX0_measure 95 = .ok (.iload 8, 2) := by decide +kernel
theorem dX0_measure_97 : decode cX0_measure 97 = .ok (.ifCond .lt 16, 3) := by decide +kernel
theorem dX0_measure_100 : decode cX0_measure 100 = .ok (.iload_n 3, 1) := by decide +kernel
theorem dX0_measure_101 : decode cX0_measure 101 = .ok (.iload 6, 2) := by decide +kernel
theorem dX0_measure_103 : decode cX0_measure 103 = .ok (.iadd, 1) := by decide +kernel
theorem dX0_measure_104 : decode cX0_measure 104 = .ok (.iload 8, 2) := by decide +kernel
theorem dX0_measure_106 : decode cX0_measure 106 = .ok (.iadd, 1) := by decide +kernel
theorem dX0_measure_107 : decode cX0_measure 107 = .ok (.sipush 1000, 3) := by decide +kernel
theorem dX0_measure_110 : decode cX0_measure 110 = .ok (.if_icmp .le 6, 3) := by decide +kernel
theorem dX0_measure_113 : decode cX0_measure 113 = .ok (.bipush (-6), 2) := by decide +kernel
theorem dX0_measure_115 : decode cX0_measure 115 = .ok (.ireturn, 1) := by decide +kernel
theorem dX0_measure_116 : decode cX0_measure 116 = .ok (.iload 6, 2) := by decide +kernel
theorem dX0_measure_118 : decode cX0_measure 118 = .ok (.iload 8, 2) := by decide +kernel
theorem dX0_measure_120 : decode cX0_measure 120 = .ok (.iadd, 1) := by decide +kernel
theorem dX0_measure_121 : decode cX0_measure 121 = .ok (.istore 6, 2) := by decide +kernel
theorem dX0_measure_123 : decode cX0_measure 123 = .ok (.iload 4, 2) := by decide +kernel
theorem dX0_measure_125 : decode cX0_measure 125 = .ok (.ifCond .ne 22, 3) := by decide +kernel
theorem dX0_measure_128 : decode cX0_measure 128 = .ok (.iload 7, 2) := by decide +kernel
theorem dX0_measure_130 : decode cX0_measure 130 = .ok (.aload_n 0, 1) := by decide +kernel
theorem dX0_measure_131 : decode cX0_measure 131 = .ok (.getfield 22, 3) := by decide +kernel
theorem dX0_measure_134 : decode cX0_measure 134 = .ok (.arraylength, 1) := by decide +kernel
theorem dX0_measure_135 : decode cX0_measure 135 = .ok (.if_icmp .ge 12, 3) := by decide +kernel
theorem dX0_measure_138 : decode cX0_measure 138 = .ok (.aload_n 0, 1) := by decide +kernel
theorem dX0_measure_139 : decode cX0_measure 139 = .ok (.getfield 22, 3) := by decide +kernel
theorem dX0_measure_142 : decode cX0_measure 142 = .ok (.iload 7, 2) := by decide +kernel
theorem dX0_measure_144 : decode cX0_measure 144 = .ok (.iload 6, 2) := by decide +kernel
theorem dX0_measure_146 : decode cX0_measure 146 = .ok (.iastore, 1) := by decide +kernel
theorem dX0_measure_147 : decode cX0_measure 147 = .ok (.iinc 7 1, 3) := by decide +kernel
theorem dX0_measure_150 : decode cX0_measure 150 = .ok (.goto (-110), 3) := by decide +kernel
theorem dX0_measure_153 : decode cX0_measure 153 = .ok (.iload 6, 2) := by decide +kernel
theorem dX0_measure_155 : decode cX0_measure 155 = .ok (.ireturn, 1) := by decide +kernel
theorem dX0_added_0 : decode cX0_added 0 = .ok (.aload_n 1, 1) := by decide +kernel
theorem dX0_added_1 : decode cX0_added 1 = .ok (.getfield 76, 3) := by decide +kernel
theorem dX0_added_4 : decode cX0_added 4 = .ok (.tableswitch 70 0 4 #[36, 70, 41, 43, 50], 36) := by decide +kernel
theorem dX0_added_40 : decode cX0_added 40 = .ok (.aload_n 1, 1) := by decide +kernel
theorem dX0_added_41 : decode cX0_added 41 = .ok (.getfield 79, 3) := by decide +kernel
theorem dX0_added_44 : decode cX0_added 44 = .ok (.ireturn, 1) := by decide +kernel
theorem dX0_added_45 : decode cX0_added 45 = .ok (.iload_n 2, 1) := by decide +kernel
theorem dX0_added_46 : decode cX0_added 46 = .ok (.ireturn, 1) := by decide +kernel
theorem dX0_added_47 : decode cX0_added 47 = .ok (.iload_n 2, 1) := by decide +kernel
theorem dX0_added_48 : decode cX0_added 48 = .ok (.aload_n 1, 1) := by decide +kernel
theorem dX0_added_49 : decode cX0_added 49 = .ok (.getfield 79, 3) := by decide +kernel
theorem dX0_added_52 : decode cX0_added 52 = .ok (.imul, 1) := by decide +kernel
theorem dX0_added_53 : decode cX0_added 53 = .ok (.ireturn, 1) := by decide +kernel
theorem dX0_added_54 : decode cX0_added 54 = .ok (.aload_n 0, 1) := by decide +kernel
theorem dX0_added_55 : decode cX0_added 55 = .ok (.aload_n 1, 1) := by decide +kernel
theorem dX0_added_56 : decode cX0_added 56 = .ok (.getfield 79, 3) := by decide +kernel
theorem dX0_added_59 : decode cX0_added 59 = .ok (.iload_n 3, 1) := by decide +kernel
theorem dX0_added_60 : decode cX0_added 60 = .ok (.iload_n 2, 1) := by decide +kernel
theorem dX0_added_61 : decode cX0_added 61 = .ok (.isub, 1) := by decide +kernel
theorem dX0_added_62 : decode cX0_added 62 = .ok (.iload 4, 2) := by decide +kernel
theorem dX0_added_64 : decode cX0_added 64 = .ok (.iload_n 2, 1) := by decide +kernel
theorem dX0_added_65 : decode cX0_added 65 = .ok (.iadd, 1) := by decide +kernel
theorem dX0_added_66 : decode cX0_added 66 = .ok (.iload 5, 2) := by decide +kernel
theorem dX0_added_68 : decode cX0_added 68 = .ok (.iconst 1, 1) := by decide +kernel
theorem dX0_added_69 : decode cX0_added 69 = .ok (.iadd, 1) := by decide +kernel
theorem dX0_added_70 : decode cX0_added 70 = .ok (.invokevirtual 68, 3) := by decide +kernel
theorem dX0_added_73 : decode cX0_added 73 = .ok (.ireturn, 1) := by decide +kernel
theorem dX0_added_74 : decode cX0_added 74 = .ok (.iconst 0, 1) := by decide +kernel
theorem dX0_added_75 : decode cX0_added 75 = .ok (.iload_n 3, 1) := by decide +kernel
theorem dX0_added_76 : decode cX0_added 76 = .ok (.iload_n 2, 1) := by decide +kernel
theorem dX0_added_77 : decode cX0_added 77 = .ok (.isub, 1) := by decide +kernel
theorem dX0_added_78 : decode cX0_added 78 = .ok (.invokestatic 82, 3) := by decide +kernel
theorem dX0_added_81 : decode cX0_added 81 = .ok (.ireturn, 1) := by decide +kernel
theorem dX0_endOf_0 : decode cX0_endOf 0 = .ok (.iload_n 1, 1) := by decide +kernel
theorem dX0_endOf_1 : decode cX0_endOf 1 = .ok (.ifCond .lt 21, 3) := by decide +kernel
theorem dX0_endOf_4 : decode cX0_endOf 4 = .ok (.iload_n 1, 1) := by decide +kernel
theorem dX0_endOf_5 : decode cX0_endOf 5 = .ok (.aload_n 0, 1) := by decide +kernel
theorem dX0_endOf_6 : decode cX0_endOf 6 = .ok (.getfield 22, 3) := by decide +kernel
theorem dX0_endOf_9 : decode cX0_endOf 9 = .ok (.arraylength, 1) := by decide +kernel
theorem dX0_endOf_10 : decode cX0_endOf 10 = .ok (.if_icmp .ge 12, 3) := by decide +kernel
theorem dX0_endOf_13 : decode cX0_endOf 13 = .ok (.aload_n 0, 1) := by decide +kernel
theorem dX0_endOf_14 : decode cX0_endOf 14 = .ok (.getfield 22, 3) := by decide +kernel
theorem dX0_endOf_17 : decode cX0_endOf 17 = .ok (.iload_n 1, 1) := by decide +kernel
theorem dX0_endOf_18 : decode cX0_endOf 18 = .ok (.iaload, 1) := by decide +kernel
theorem dX0_endOf_19 : decode cX0_endOf 19 = .ok (.goto 4, 3) := by decide +kernel
theorem dX0_endOf_22 : decode cX0_endOf 22 = .ok (.iconst 0, 1) := by decide +kernel
theorem dX0_endOf_23 : decode cX0_endOf 23 = .ok (.ireturn, 1) := by decide +kernel
theorem dX0_stepThatCalled_0 : decode cX0_stepThatCalled 0 = .ok (.iconst 0, 1) := by decide +kernel
theorem dX0_stepThatCalled_1 : decode cX0_stepThatCalled 1 = .ok (.istore_n 2, 1) := by decide +kernel
theorem dX0_stepThatCalled_2 : decode cX0_stepThatCalled 2 = .ok (.iload_n 2, 1) := by decide +kernel
theorem dX0_stepThatCalled_3 : decode cX0_stepThatCalled 3 = .ok (.aload_n 0, 1) := by decide +kernel
theorem dX0_stepThatCalled_4 : decode cX0_stepThatCalled 4 = .ok (.getfield 22, 3) := by decide +kernel
theorem dX0_stepThatCalled_7 : decode cX0_stepThatCalled 7 = .ok (.arraylength, 1) := by decide +kernel
theorem dX0_stepThatCalled_8 : decode cX0_stepThatCalled 8 = .ok (.if_icmp .ge 21, 3) := by decide +kernel
theorem dX0_stepThatCalled_11 : decode cX0_stepThatCalled 11 = .ok (.aload_n 0, 1) := by decide +kernel
theorem dX0_stepThatCalled_12 : decode cX0_stepThatCalled 12 = .ok (.getfield 22, 3) := by decide +kernel
theorem dX0_stepThatCalled_15 : decode cX0_stepThatCalled 15 = .ok (.iload_n 2, 1) := by decide +kernel
theorem dX0_stepThatCalled_16 : decode cX0_stepThatCalled 16 = .ok (.iaload, 1) := by decide +kernel
theorem dX0_stepThatCalled_17 : decode cX0_stepThatCalled 17 = .ok (.iload_n 1, 1) := by decide +kernel
theorem dX0_stepThatCalled_18 : decode cX0_stepThatCalled 18 = .ok (.if_icmp .le 5, 3) := by decide +kernel
theorem dX0_stepThatCalled_21 : decode cX0_stepThatCalled 21 = .ok (.iload_n 2, 1) := by decide +kernel
theorem dX0_stepThatCalled_22 : decode cX0_stepThatCalled 22 = .ok (.ireturn, 1) := by decide +kernel
theorem dX0_stepThatCalled_23 : decode cX0_stepThatCalled 23 = .ok (.iinc 2 1, 3) := by decide +kernel
theorem dX0_stepThatCalled_26 : decode cX0_stepThatCalled 26 = .ok (.goto (-24), 3) := by decide +kernel
theorem dX0_stepThatCalled_29 : decode cX0_stepThatCalled 29 = .ok (.iconst 0, 1) := by decide +kernel
theorem dX0_stepThatCalled_30 : decode cX0_stepThatCalled 30 = .ok (.ireturn, 1) := by decide +kernel
theorem dX0_sung_0 : decode cX0_sung 0 = .ok (.aload_n 0, 1) := by decide +kernel
theorem dX0_sung_1 : decode cX0_sung 1 = .ok (.iload_n 1, 1) := by decide +kernel
theorem dX0_sung_2 : decode cX0_sung 2 = .ok (.invokevirtual 88, 3) := by decide +kernel
theorem dX0_sung_5 : decode cX0_sung 5 = .ok (.istore_n 2, 1) := by decide +kernel
theorem dX0_sung_6 : decode cX0_sung 6 = .ok (.iload_n 2, 1) := by decide +kernel
theorem dX0_sung_7 : decode cX0_sung 7 = .ok (.ifCond .lt 18, 3) := by decide +kernel
theorem dX0_sung_10 : decode cX0_sung 10 = .ok (.aload_n 0, 1) := by decide +kernel
theorem dX0_sung_11 : decode cX0_sung 11 = .ok (.iconst 0, 1) := by decide +kernel
theorem dX0_sung_12 : decode cX0_sung 12 = .ok (.putfield 92, 3) := by decide +kernel
theorem dX0_sung_15 : decode cX0_sung 15 = .ok (.aload_n 0, 1) := by decide +kernel
theorem dX0_sung_16 : decode cX0_sung 16 = .ok (.iload_n 1, 1) := by decide +kernel
theorem dX0_sung_17 : decode cX0_sung 17 = .ok (.aload_n 0, 1) := by decide +kernel
theorem dX0_sung_18 : decode cX0_sung 18 = .ok (.getfield 26, 3) := by decide +kernel
theorem dX0_sung_21 : decode cX0_sung 21 = .ok (.iconst 0, 1) := by decide +kernel
theorem dX0_sung_22 : decode cX0_sung 22 = .ok (.invokevirtual 95, 3) := by decide +kernel
theorem dX0_sung_25 : decode cX0_sung 25 = .ok (.iload_n 2, 1) := by decide +kernel
theorem dX0_sung_26 : decode cX0_sung 26 = .ok (.ireturn, 1) := by decide +kernel
theorem dX0_heard_0 : decode cX0_heard 0 = .ok (.iload_n 1, 1) := by decide +kernel
theorem dX0_heard_1 : decode cX0_heard 1 = .ok (.ifCond .lt 20, 3) := by decide +kernel
theorem dX0_heard_4 : decode cX0_heard 4 = .ok (.iload_n 1, 1) := by decide +kernel
theorem dX0_heard_5 : decode cX0_heard 5 = .ok (.aload_n 0, 1) := by decide +kernel
theorem dX0_heard_6 : decode cX0_heard 6 = .ok (.getfield 92, 3) := by decide +kernel
theorem dX0_heard_9 : decode cX0_heard 9 = .ok (.if_icmp .ge 12, 3) := by decide +kernel
theorem dX0_heard_12 : decode cX0_heard 12 = .ok (.aload_n 0, 1) := by decide +kernel
theorem dX0_heard_13 : decode cX0_heard 13 = .ok (.getfield 18, 3) := by decide +kernel
theorem dX0_heard_16 : decode cX0_heard 16 = .ok (.iload_n 1, 1) := by decide +kernel
theorem dX0_heard_17 : decode cX0_heard 17 = .ok (.baload, 1) := by decide +kernel
theorem dX0_heard_18 : decode cX0_heard 18 = .ok (.goto 4, 3) := by decide +kernel
theorem dX0_heard_21 : decode cX0_heard 21 = .ok (.iconst 0, 1) := by decide +kernel
theorem dX0_heard_22 : decode cX0_heard 22 = .ok (.ireturn, 1) := by decide +kernel
theorem dX0_write_0 : decode cX0_write 0 = .ok (.iload_n 3, 1) := by decide +kernel
theorem dX0_write_1 : decode cX0_write 1 = .ok (.bipush 12, 2) := by decide +kernel
theorem dX0_write_3 : decode cX0_write 3 = .ok (.if_icmp .gt 11, 3) := by decide +kernel
theorem dX0_write_6 : decode cX0_write 6 = .ok (.aload_n 0, 1) := by decide +kernel
theorem dX0_write_7 : decode cX0_write 7 = .ok (.iload_n 1, 1) := by decide +kernel
theorem dX0_write_8 : decode cX0_write 8 = .ok (.invokevirtual 38, 3) := by decide +kernel
theorem dX0_write_11 : decode cX0_write 11 = .ok (.ifCond .ne 4, 3) := by decide +kernel
theorem dX0_write_14 : decode cX0_write 14 = .ok (.return_, 1) := by decide +kernel
theorem dX0_write_15 : decode cX0_write 15 = .ok (.aload_n 0, 1) := by decide +kernel
theorem dX0_write_16 : decode cX0_write 16 = .ok (.getfield 12, 3) := by decide +kernel
theorem dX0_write_19 : decode cX0_write 19 = .ok (.iload_n 1, 1) := by decide +kernel
theorem dX0_write_20 : decode cX0_write 20 = .ok (.invokevirtual 42, 3) := by decide +kernel
theorem dX0_write_23 : decode cX0_write 23 = .ok (.checkcast 46, 3) := by decide +kernel
theorem dX0_write_26 : decode cX0_write 26 = .ok (.getfield 48, 3) := by decide +kernel
theorem dX0_write_29 : decode cX0_write 29 = .ok (.astore 4, 2) := by decide +kernel
theorem dX0_write_31 : decode cX0_write 31 = .ok (.aload_n 0, 1) := by decide +kernel
theorem dX0_write_32 : decode cX0_write 32 = .ok (.getfield 92, 3) := by decide +kernel
theorem dX0_write_35 : decode cX0_write 35 = .ok (.istore 5, 2) := by decide +kernel
theorem dX0_write_37 : decode cX0_write 37 = .ok (.iconst 0, 1) := by decide +kernel
theorem dX0_write_38 : decode cX0_write 38 = .ok (.istore 6, 2) := by decide +kernel
theorem dX0_write_40 : decode cX0_write 40 = .ok (.iload 6, 2) := by decide +kernel
theorem dX0_write_42 : decode cX0_write 42 = .ok (.aload 4, 2) := by decide +kernel
theorem dX0_write_44 : decode cX0_write 44 = .ok (.invokevirtual 34, 3) := by decide +kernel
theorem dX0_write_47 : decode cX0_write 47 = .ok (.if_icmp .ge 27, 3) := by decide +kernel
theorem dX0_write_50 : decode cX0_write 50 = .ok (.aload_n 0, 1) := by decide +kernel
theorem dX0_write_51 : decode cX0_write 51 = .ok (.aload 4, 2) := by decide +kernel
theorem dX0_write_53 : decode cX0_write 53 = .ok (.iload 6, 2) := by decide +kernel
theorem dX0_write_55 : decode cX0_write 55 = .ok (.invokevirtual 42, 3) := by decide +kernel
theorem dX0_write_58 : decode cX0_write 58 = .ok (.checkcast 51, 3) := by decide +kernel
theorem dX0_write_61 : decode cX0_write 61 = .ok (.iload 5, 2) := by decide +kernel
theorem dX0_write_63 : decode cX0_write 63 = .ok (.iload_n 2, 1) := by decide +kernel
theorem dX0_write_64 : decode cX0_write 64 = .ok (.iload_n 3, 1) := by decide +kernel
theorem dX0_write_65 : decode cX0_write 65 = .ok (.invokevirtual 98, 3) := by decide +kernel
theorem dX0_write_68 : decode cX0_write 68 = .ok (.iinc 6 1, 3) := by decide +kernel
theorem dX0_write_71 : decode cX0_write 71 = .ok (.goto (-31), 3) := by decide +kernel
theorem dX0_write_74 : decode cX0_write 74 = .ok (.return_, 1) := by decide +kernel
theorem dX0_writeStep_0 : decode cX0_writeStep 0 = .ok (.aload_n 0, 1) := by decide +kernel
theorem dX0_writeStep_1 : decode cX0_writeStep 1 = .ok (.getfield 92, 3) := by decide +kernel
theorem dX0_writeStep_4 : decode cX0_writeStep 4 = .ok (.iload_n 2, 1) := by decide +kernel
theorem dX0_writeStep_5 : decode cX0_writeStep 5 = .ok (.isub, 1) := by decide +kernel
theorem dX0_writeStep_6 : decode cX0_writeStep 6 = .ok (.istore 5, 2) := by decide +kernel
theorem dX0_writeStep_8 : decode cX0_writeStep 8 = .ok (.aload_n 1, 1) := by decide +kernel
theorem dX0_writeStep_9 : decode cX0_writeStep 9 = .ok (.getfield 76, 3) := by decide +kernel
theorem dX0_writeStep_12 : decode cX0_writeStep 12 = .ok (.tableswitch 110 0 4 #[36, 51, 66, 76, 91], 36) := by decide +kernel
theorem dX0_writeStep_48 : decode cX0_writeStep 48 = .ok (.aload_n 0, 1) := by decide +kernel
theorem dX0_writeStep_49 : decode cX0_writeStep 49 = .ok (.aload_n 1, 1) := by decide +kernel
theorem dX0_writeStep_50 : decode cX0_writeStep 50 = .ok (.getfield 102, 3) := by decide +kernel
theorem dX0_writeStep_53 : decode cX0_writeStep 53 = .ok (.aload_n 1, 1) := by decide +kernel
theorem dX0_writeStep_54 : decode cX0_writeStep 54 = .ok (.getfield 79, 3) := by decide +kernel
theorem dX0_writeStep_57 : decode cX0_writeStep 57 = .ok (.invokevirtual 105, 3) := by decide +kernel
theorem dX0_writeStep_60 : decode cX0_writeStep 60 = .ok (.goto 73, 3) := by decide +kernel
theorem dX0_writeStep_63 : decode cX0_writeStep 63 = .ok (.aload_n 0, 1) := by decide +kernel
theorem dX0_writeStep_64 : decode cX0_writeStep 64 = .ok (.aload_n 1, 1) := by decide +kernel
theorem dX0_writeStep_65 : decode cX0_writeStep 65 = .ok (.getfield 102, 3) := by decide +kernel
theorem dX0_writeStep_68 : decode cX0_writeStep 68 = .ok (.iload_n 3, 1) := by decide +kernel
theorem dX0_writeStep_69 : decode cX0_writeStep 69 = .ok (.iload 5, 2) := by decide +kernel
theorem dX0_writeStep_71 : decode cX0_writeStep 71 = .ok (.isub, 1) := by decide +kernel
theorem dX0_writeStep_72 : decode cX0_writeStep 72 = .ok (.invokevirtual 105, 3) := by decide +kernel
theorem dX0_writeStep_75 : decode cX0_writeStep 75 = .ok (.goto 58, 3) := by decide +kernel
theorem dX0_writeStep_78 : decode cX0_writeStep 78 = .ok (.aload_n 0, 1) := by decide +kernel
theorem dX0_writeStep_79 : decode cX0_writeStep 79 = .ok (.iload_n 2, 1) := by decide +kernel
theorem dX0_writeStep_80 : decode cX0_writeStep 80 = .ok (.iload 5, 2) := by decide +kernel
theorem dX0_writeStep_82 : decode cX0_writeStep 82 = .ok (.invokevirtual 109, 3) := by decide +kernel
theorem dX0_writeStep_85 : decode cX0_writeStep 85 = .ok (.goto 48, 3) := by decide +kernel
theorem dX0_writeStep_88 : decode cX0_writeStep 88 = .ok (.aload_n 0, 1) := by decide +kernel
theorem dX0_writeStep_89 : decode cX0_writeStep 89 = .ok (.iload_n 2, 1) := by decide +kernel
theorem dX0_writeStep_90 : decode cX0_writeStep 90 = .ok (.iload 5, 2) := by decide +kernel
theorem dX0_writeStep_92 : decode cX0_writeStep 92 = .ok (.aload_n 1, 1) := by decide +kernel
theorem dX0_writeStep_93 : decode cX0_writeStep 93 = .ok (.getfield 79, 3) := by decide +kernel
theorem dX0_writeStep_96 : decode cX0_writeStep 96 = .ok (.imul, 1) := by decide +kernel
theorem dX0_writeStep_97 : decode cX0_writeStep 97 = .ok (.invokevirtual 112, 3) := by decide +kernel
theorem dX0_writeStep_100 : decode cX0_writeStep 100 = .ok (.goto 33, 3) := by decide +kernel
theorem dX0_writeStep_103 : decode cX0_writeStep 103 = .ok (.aload_n 0, 1) := by decide +kernel
theorem dX0_writeStep_104 : decode cX0_writeStep 104 = .ok (.aload_n 1, 1) := by decide +kernel
theorem dX0_writeStep_105 : decode cX0_writeStep 105 = .ok (.getfield 79, 3) := by decide +kernel
theorem dX0_writeStep_108 : decode cX0_writeStep 108 = .ok (.iload_n 3, 1) := by decide +kernel
theorem dX0_writeStep_109 : decode cX0_writeStep 109 = .ok (.iload 5, 2) := by decide +kernel
theorem dX0_writeStep_111 : decode cX0_writeStep 111 = .ok (.isub, 1) := by decide +kernel
theorem dX0_writeStep_112 : decode cX0_writeStep 112 = .ok (.iload 4, 2) := by decide +kernel
theorem dX0_writeStep_114 : decode cX0_writeStep 114 = .ok (.iconst 1, 1) := by decide +kernel
theorem dX0_writeStep_115 : decode cX0_writeStep 115 = .ok (.iadd, 1) := by decide +kernel
theorem dX0_writeStep_116 : decode cX0_writeStep 116 = .ok (.invokevirtual 95, 3) := by decide +kernel
theorem dX0_writeStep_119 : decode cX0_writeStep 119 = .ok (.goto 14, 3) := by decide +kernel
theorem dX0_writeStep_122 : decode cX0_writeStep 122 = .ok (.aload_n 0, 1) := by decide +kernel
theorem dX0_writeStep_123 : decode cX0_writeStep 123 = .ok (.aload_n 1, 1) := by decide +kernel
theorem dX0_writeStep_124 : decode cX0_writeStep 124 = .ok (.getfield 79, 3) := by decide +kernel
theorem dX0_writeStep_127 : decode cX0_writeStep 127 = .ok (.iload 5, 2) := by decide +kernel
theorem dX0_writeStep_129 : decode cX0_writeStep 129 = .ok (.iload_n 3, 1) := by decide +kernel
theorem dX0_writeStep_130 : decode cX0_writeStep 130 = .ok (.invokevirtual 115, 3) := by decide +kernel
theorem dX0_writeStep_133 : decode cX0_writeStep 133 = .ok (.return_, 1) := by decide +kernel
theorem dX0_writeKnot_0 : decode cX0_writeKnot 0 = .ok (.aload_n 0, 1) := by decide +kernel
theorem dX0_writeKnot_1 : decode cX0_writeKnot 1 = .ok (.getfield 92, 3) := by decide +kernel
theorem dX0_writeKnot_4 : decode cX0_writeKnot 4 = .ok (.aload_n 0, 1) := by decide +kernel
theorem dX0_writeKnot_5 : decode cX0_writeKnot 5 = .ok (.getfield 18, 3) := by decide +kernel
theorem dX0_writeKnot_8 : decode cX0_writeKnot 8 = .ok (.arraylength, 1) := by decide +kernel
theorem dX0_writeKnot_9 : decode cX0_writeKnot 9 = .ok (.if_icmp .ge 24, 3) := by decide +kernel
theorem dX0_writeKnot_12 : decode cX0_writeKnot 12 = .ok (.aload_n 0, 1) := by decide +kernel
theorem dX0_writeKnot_13 : decode cX0_writeKnot 13 = .ok (.getfield 18, 3) := by decide +kernel
theorem dX0_writeKnot_16 : decode cX0_writeKnot 16 = .ok (.aload_n 0, 1) := by decide +kernel
theorem dX0_writeKnot_17 : decode cX0_writeKnot 17 = .ok (.getfield 92, 3) := by decide +kernel
theorem dX0_writeKnot_20 : decode cX0_writeKnot 20 = .ok (.iload_n 1, 1) := by decide +kernel
theorem dX0_writeKnot_21 : decode cX0_writeKnot 21 = .ok (.i2b, 1) := by decide +kernel
theorem dX0_writeKnot_22 : decode cX0_writeKnot 22 = .ok (.bastore, 1) := by decide +kernel
theorem dX0_writeKnot_23 : decode cX0_writeKnot 23 = .ok (.aload_n 0, 1) := by decide +kernel
theorem dX0_writeKnot_24 : decode cX0_writeKnot 24 = .ok (.dup, 1) := by decide +kernel
theorem dX0_writeKnot_25 : decode cX0_writeKnot 25 = .ok (.getfield 92, 3) := by decide +kernel
theorem dX0_writeKnot_28 : decode cX0_writeKnot 28 = .ok (.iconst 1, 1) := by decide +kernel
theorem dX0_writeKnot_29 : decode cX0_writeKnot 29 = .ok (.iadd, 1) := by decide +kernel
theorem dX0_writeKnot_30 : decode cX0_writeKnot 30 = .ok (.putfield 92, 3) := by decide +kernel
theorem dX0_writeKnot_33 : decode cX0_writeKnot 33 = .ok (.return_, 1) := by decide +kernel
theorem dX0_writeColour_0 : decode cX0_writeColour 0 = .ok (.iconst 0, 1) := by decide +kernel
theorem dX0_writeColour_1 : decode cX0_writeColour 1 = .ok (.istore_n 3, 1) := by decide +kernel
theorem dX0_writeColour_2 : decode cX0_writeColour 2 = .ok (.iload_n 3, 1) := by decide +kernel
theorem dX0_writeColour_3 : decode cX0_writeColour 3 = .ok (.iload_n 2, 1) := by decide +kernel
theorem dX0_writeColour_4 : decode cX0_writeColour 4 = .ok (.if_icmp .ge 14, 3) := by decide +kernel
theorem dX0_writeColour_7 : decode cX0_writeColour 7 = .ok (.aload_n 0, 1) := by decide +kernel
theorem dX0_writeColour_8 : decode cX0_writeColour 8 = .ok (.iload_n 1, 1) := by decide +kernel
theorem dX0_writeColour_9 : decode cX0_writeColour 9 = .ok (.invokevirtual 118, 3) := by decide +kernel
theorem dX0_writeColour_12 : decode cX0_writeColour 12 = .ok (.iinc 3 1, 3) := by decide +kernel
theorem dX0_writeColour_15 : decode cX0_writeColour 15 = .ok (.goto (-13), 3) := by decide +kernel
theorem dX0_writeColour_18 : decode cX0_writeColour 18 = .ok (.return_, 1) := by decide +kernel
theorem dX0_writeBackward_0 : decode cX0_writeBackward 0 = .ok (.iload_n 2, 1) := by decide +kernel
theorem dX0_writeBackward_1 : decode cX0_writeBackward 1 = .ok (.iconst 1, 1) := by decide +kernel
theorem dX0_writeBackward_2 : decode cX0_writeBackward 2 = .ok (.isub, 1) := by decide +kernel
theorem dX0_writeBackward_3 : decode cX0_writeBackward 3 = .ok (.istore_n 3, 1) := by decide +kernel
theorem dX0_writeBackward_4 : decode cX0_writeBackward 4 = .ok (.iload_n 3, 1) := by decide +kernel
theorem dX0_writeBackward_5 : decode cX0_writeBackward 5 = .ok (.ifCond .lt 20, 3) := by decide +kernel
theorem dX0_writeBackward_8 : decode cX0_writeBackward 8 = .ok (.aload_n 0, 1) := by decide +kernel
theorem dX0_writeBackward_9 : decode cX0_writeBackward 9 = .ok (.aload_n 0, 1) := by decide +kernel
theorem dX0_writeBackward_10 : decode cX0_writeBackward 10 = .ok (.iload_n 1, 1) := by decide +kernel
theorem dX0_writeBackward_11 : decode cX0_writeBackward 11 = .ok (.iload_n 3, 1) := by decide +kernel
theorem dX0_writeBackward_12 : decode cX0_writeBackward 12 = .ok (.iadd, 1) := by decide +kernel
theorem dX0_writeBackward_13 : decode cX0_writeBackward 13 = .ok (.invokevirtual 122, 3) := by decide +kernel
theorem dX0_writeBackward_16 : decode cX0_writeBackward 16 = .ok (.invokevirtual 118, 3) := by decide +kernel
theorem dX0_writeBackward_19 : decode cX0_writeBackward 19 = .ok (.iinc 3 (-1), 3) := by decide +kernel
theorem dX0_writeBackward_22 : decode cX0_writeBackward 22 = .ok (.goto (-18), 3) := by decide +kernel
theorem dX0_writeBackward_25 : decode cX0_writeBackward 25 = .ok (.return_, 1) := by decide +kernel
theorem dX0_writeAgain_0 : decode cX0_writeAgain 0 = .ok (.iconst 0, 1) := by decide +kernel
theorem dX0_writeAgain_1 : decode cX0_writeAgain 1 = .ok (.istore_n 3, 1) := by decide +kernel
theorem dX0_writeAgain_2 : decode cX0_writeAgain 2 = .ok (.iload_n 3, 1) := by decide +kernel
theorem dX0_writeAgain_3 : decode cX0_writeAgain 3 = .ok (.iload_n 2, 1) := by decide +kernel
theorem dX0_writeAgain_4 : decode cX0_writeAgain 4 = .ok (.if_icmp .ge 20, 3) := by decide +kernel
theorem dX0_writeAgain_7 : decode cX0_writeAgain 7 = .ok (.aload_n 0, 1) := by decide +kernel
theorem dX0_writeAgain_8 : decode cX0_writeAgain 8 = .ok (.aload_n 0, 1) := by decide +kernel
theorem dX0_writeAgain_9 : decode cX0_writeAgain 9 = .ok (.iload_n 1, 1) := by decide +kernel
theorem dX0_writeAgain_10 : decode cX0_writeAgain 10 = .ok (.iload_n 3, 1) := by decide +kernel
theorem dX0_writeAgain_11 : decode cX0_writeAgain 11 = .ok (.iadd, 1) := by decide +kernel
theorem dX0_writeAgain_12 : decode cX0_writeAgain 12 = .ok (.invokevirtual 122, 3) := by decide +kernel
theorem dX0_writeAgain_15 : decode cX0_writeAgain 15 = .ok (.invokevirtual 118, 3) := by decide +kernel
theorem dX0_writeAgain_18 : decode cX0_writeAgain 18 = .ok (.iinc 3 1, 3) := by decide +kernel
theorem dX0_writeAgain_21 : decode cX0_writeAgain 21 = .ok (.goto (-19), 3) := by decide +kernel
theorem dX0_writeAgain_24 : decode cX0_writeAgain 24 = .ok (.return_, 1) := by decide +kernel
theorem dX0_writeLike_0 : decode cX0_writeLike 0 = .ok (.iload_n 2, 1) := by decide +kernel
theorem dX0_writeLike_1 : decode cX0_writeLike 1 = .ok (.istore 4, 2) := by decide +kernel
theorem dX0_writeLike_3 : decode cX0_writeLike 3 = .ok (.iload 4, 2) := by decide +kernel
theorem dX0_writeLike_5 : decode cX0_writeLike 5 = .ok (.iload_n 3, 1) := by decide +kernel
theorem dX0_writeLike_6 : decode cX0_writeLike 6 = .ok (.if_icmp .ge 23, 3) := by decide +kernel
theorem dX0_writeLike_9 : decode cX0_writeLike 9 = .ok (.aload_n 0, 1) := by decide +kernel
theorem dX0_writeLike_10 : decode cX0_writeLike 10 = .ok (.aload_n 0, 1) := by decide +kernel
theorem dX0_writeLike_11 : decode cX0_writeLike 11 = .ok (.getfield 30, 3) := by decide +kernel
theorem dX0_writeLike_14 : decode cX0_writeLike 14 = .ok (.iload_n 1, 1) := by decide +kernel
theorem dX0_writeLike_15 : decode cX0_writeLike 15 = .ok (.iload 4, 2) := by decide +kernel
theorem dX0_writeLike_17 : decode cX0_writeLike 17 = .ok (.invokevirtual 125, 3) := by decide +kernel
theorem dX0_writeLike_20 : decode cX0_writeLike 20 = .ok (.invokevirtual 118, 3) := by decide +kernel
theorem dX0_writeLike_23 : decode cX0_writeLike 23 = .ok (.iinc 4 1, 3) := by decide +kernel
theorem dX0_writeLike_26 : decode cX0_writeLike 26 = .ok (.goto (-23), 3) := by decide +kernel
theorem dX0_writeLike_29 : decode cX0_writeLike 29 = .ok (.return_, 1) := by decide +kernel
theorem dX0_findMend_0 : decode cX0_findMend 0 = .ok (.aload_n 0, 1) := by decide +kernel
theorem dX0_findMend_1 : decode cX0_findMend 1 = .ok (.iload_n 1, 1) := by decide +kernel
theorem dX0_findMend_2 : decode cX0_findMend 2 = .ok (.invokevirtual 88, 3) := by decide +kernel
theorem dX0_findMend_5 : decode cX0_findMend 5 = .ok (.istore_n 2, 1) := by decide +kernel
theorem dX0_findMend_6 : decode cX0_findMend 6 = .ok (.iload_n 2, 1) := by decide +kernel
theorem dX0_findMend_7 : decode cX0_findMend 7 = .ok (.ifCond .ge 6, 3) := by decide +kernel
theorem dX0_findMend_10 : decode cX0_findMend 10 = .ok (.bipush (-6), 2) := by decide +kernel
theorem dX0_findMend_12 : decode cX0_findMend 12 = .ok (.ireturn, 1) := by decide +kernel
theorem dX0_findMend_13 : decode cX0_findMend 13 = .ok (.iload_n 2, 1) := by decide +kernel
theorem dX0_findMend_14 : decode cX0_findMend 14 = .ok (.aload_n 0, 1) := by decide +kernel
theorem dX0_findMend_15 : decode cX0_findMend 15 = .ok (.getfield 26, 3) := by decide +kernel
theorem dX0_findMend_18 : decode cX0_findMend 18 = .ok (.if_icmp .ne 6, 3) := by decide +kernel
theorem dX0_findMend_21 : decode cX0_findMend 21 = .ok (.bipush (-4), 2) := by decide +kernel
theorem dX0_findMend_23 : decode cX0_findMend 23 = .ok (.ireturn, 1) := by decide +kernel
theorem dX0_findMend_24 : decode cX0_findMend 24 = .ok (.aload_n 0, 1) := by decide +kernel
theorem dX0_findMend_25 : decode cX0_findMend 25 = .ok (.getfield 12, 3) := by decide +kernel
theorem dX0_findMend_28 : decode cX0_findMend 28 = .ok (.iload_n 1, 1) := by decide +kernel
theorem dX0_findMend_29 : decode cX0_findMend 29 = .ok (.invokevirtual 42, 3) := by decide +kernel
theorem dX0_findMend_32 : decode cX0_findMend 32 = .ok (.checkcast 46, 3) := by decide +kernel
theorem dX0_findMend_35 : decode cX0_findMend 35 = .ok (.getfield 48, 3) := by decide +kernel
theorem dX0_findMend_38 : decode cX0_findMend 38 = .ok (.invokevirtual 34, 3) := by decide +kernel
theorem dX0_findMend_41 : decode cX0_findMend 41 = .ok (.istore_n 3, 1) := by decide +kernel
theorem dX0_findMend_42 : decode cX0_findMend 42 = .ok (.iconst 1, 1) := by decide +kernel
theorem dX0_findMend_43 : decode cX0_findMend 43 = .ok (.istore 4, 2) := by decide +kernel
theorem dX0_findMend_45 : decode cX0_findMend 45 = .ok (.iload 4, 2) := by decide +kernel
theorem dX0_findMend_47 : decode cX0_findMend 47 = .ok (.bipush 40, 2) := by decide +kernel
theorem dX0_findMend_49 : decode cX0_findMend 49 = .ok (.if_icmp .ge 51, 3) := by decide +kernel
theorem dX0_findMend_52 : decode cX0_findMend 52 = .ok (.iconst 0, 1) := by decide +kernel
theorem dX0_findMend_53 : decode cX0_findMend 53 = .ok (.istore 5, 2) := by decide +kernel
theorem dX0_findMend_55 : decode cX0_findMend 55 = .ok (.iload 5, 2) := by decide +kernel
theorem dX0_findMend_57 : decode cX0_findMend 57 = .ok (.iload_n 3, 1) := by decide +kernel
theorem dX0_findMend_58 : decode cX0_findMend 58 = .ok (.if_icmp .ge 36, 3) := by decide +kernel
theorem dX0_findMend_61 : decode cX0_findMend 61 = .ok (.aload_n 0, 1) := by decide +kernel
theorem dX0_findMend_62 : decode cX0_findMend 62 = .ok (.iload_n 1, 1) := by decide +kernel
theorem dX0_findMend_63 : decode cX0_findMend 63 = .ok (.iload 5, 2) := by decide +kernel
theorem dX0_findMend_65 : decode cX0_findMend 65 = .ok (.iload 4, 2) := by decide +kernel
theorem dX0_findMend_67 : decode cX0_findMend 67 = .ok (.ineg, 1) := by decide +kernel
theorem dX0_findMend_68 : decode cX0_findMend 68 = .ok (.invokevirtual 130, 3) := by decide +kernel
theorem dX0_findMend_71 : decode cX0_findMend 71 = .ok (.ifCond .ne 15, 3) := by decide +kernel
theorem dX0_findMend_74 : decode cX0_findMend 74 = .ok (.aload_n 0, 1) := by decide +kernel
theorem dX0_findMend_75 : decode cX0_findMend 75 = .ok (.iload_n 1, 1) := by decide +kernel
theorem dX0_findMend_76 : decode cX0_findMend 76 = .ok (.iload 5, 2) := by decide +kernel
theorem dX0_findMend_78 : decode cX0_findMend 78 = .ok (.iload 4, 2) := by decide +kernel
theorem dX0_findMend_80 : decode cX0_findMend 80 = .ok (.invokevirtual 130, 3) := by decide +kernel
theorem dX0_findMend_83 : decode cX0_findMend 83 = .ok (.ifCond .eq 5, 3) := by decide +kernel
theorem dX0_findMend_86 : decode cX0_findMend 86 = .ok (.iconst 0, 1) := by decide +kernel
theorem dX0_findMend_87 : decode cX0_findMend 87 = .ok (.ireturn, 1) := by decide +kernel
theorem dX0_findMend_88 : decode cX0_findMend 88 = .ok (.iinc 5 1, 3) := by decide +kernel
theorem dX0_findMend_91 : decode cX0_findMend 91 = .ok (.goto (-36), 3) := by decide +kernel
theorem dX0_findMend_94 : decode cX0_findMend 94 = .ok (.iinc 4 1, 3) := by decide +kernel
theorem dX0_findMend_97 : decode cX0_findMend 97 = .ok (.goto (-52), 3) := by decide +kernel
theorem dX0_findMend_100 : decode cX0_findMend 100 = .ok (.bipush (-4), 2) := by decide +kernel
theorem dX0_findMend_102 : decode cX0_findMend 102 = .ok (.ireturn, 1) := by decide +kernel
theorem dX0_isMendedBy_0 : decode cX0_isMendedBy 0 = .ok (.aload_n 0, 1) := by decide +kernel
theorem dX0_isMendedBy_1 : decode cX0_isMendedBy 1 = .ok (.iload_n 1, 1) := by decide +kernel
theorem dX0_isMendedBy_2 : decode cX0_isMendedBy 2 = .ok (.iload_n 2, 1) := by decide +kernel
theorem dX0_isMendedBy_3 : decode cX0_isMendedBy 3 = .ok (.invokevirtual 134, 3) := by decide +kernel
theorem dX0_isMendedBy_6 : decode cX0_isMendedBy 6 = .ok (.astore 4, 2) := by decide +kernel
theorem dX0_isMendedBy_8 : decode cX0_isMendedBy 8 = .ok (.aload 4, 2) := by decide +kernel
theorem dX0_isMendedBy_10 : decode cX0_isMendedBy 10 = .ok (.getfield 76, 3) := by decide +kernel
theorem dX0_isMendedBy_13 : decode cX0_isMendedBy 13 = .ok (.ifCond .ne 19, 3) := by decide +kernel
theorem dX0_isMendedBy_16 : decode cX0_isMendedBy 16 = .ok (.aload 4, 2) := by decide +kernel
theorem dX0_isMendedBy_18 : decode cX0_isMendedBy 18 = .ok (.getfield 79, 3) := by decide +kernel
theorem dX0_isMendedBy_21 : decode cX0_isMendedBy 21 = .ok (.iload_n 3, 1) := by decide +kernel
theorem dX0_isMendedBy_22 : decode cX0_isMendedBy 22 = .ok (.iadd, 1) := by decide +kernel
theorem dX0_isMendedBy_23 : decode cX0_isMendedBy 23 = .ok (.iconst 1, 1) := by decide +kernel
theorem dX0_isMendedBy_24 : decode cX0_isMendedBy 24 = .ok (.bipush 40, 2) := by decide +kernel
theorem dX0_isMendedBy_26 : decode cX0_isMendedBy 26 = .ok (.invokestatic 138, 3) := by decide +kernel
theorem dX0_isMendedBy_29 : decode cX0_isMendedBy 29 = .ok (.ifCond .ne 5, 3) := by decide +kernel
theorem dX0_isMendedBy_32 : decode cX0_isMendedBy 32 = .ok (.iconst 0, 1) := by decide +kernel
theorem dX0_isMendedBy_33 : decode cX0_isMendedBy 33 = .ok (.ireturn, 1) := by decide +kernel
theorem dX0_isMendedBy_34 : decode cX0_isMendedBy 34 = .ok (.aload 4, 2) := by decide +kernel
theorem dX0_isMendedBy_36 : decode cX0_isMendedBy 36 = .ok (.getfield 79, 3) := by decide +kernel
theorem dX0_isMendedBy_39 : decode cX0_isMendedBy 39 = .ok (.istore 5, 2) := by decide +kernel
theorem dX0_isMendedBy_41 : decode cX0_isMendedBy 41 = .ok (.iload 5, 2) := by decide +kernel
theorem dX0_isMendedBy_43 : decode cX0_isMendedBy 43 = .ok (.iload_n 3, 1) := by decide +kernel
theorem dX0_isMendedBy_44 : decode cX0_isMendedBy 44 = .ok (.iadd, 1) := by decide +kernel
theorem dX0_isMendedBy_45 : decode cX0_isMendedBy 45 = .ok (.istore 6, 2) := by decide +kernel
theorem dX0_isMendedBy_47 : decode cX0_isMendedBy 47 = .ok (.aload 4, 2) := by decide +kernel
theorem dX0_isMendedBy_49 : decode cX0_isMendedBy 49 = .ok (.iload 6, 2) := by decide +kernel
theorem dX0_isMendedBy_51 : decode cX0_isMendedBy 51 = .ok (.putfield 79, 3) := by decide +kernel
theorem dX0_isMendedBy_54 : decode cX0_isMendedBy 54 = .ok (.aload_n 0, 1) := by decide +kernel
theorem dX0_isMendedBy_55 : decode cX0_isMendedBy 55 = .ok (.iload_n 1, 1) := by decide +kernel
theorem dX0_isMendedBy_56 : decode cX0_isMendedBy 56 = .ok (.invokevirtual 88, 3) := by decide +kernel
theorem dX0_isMendedBy_59 : decode cX0_isMendedBy 59 = .ok (.aload_n 0, 1) := by decide +kernel
theorem dX0_isMendedBy_60 : decode cX0_isMendedBy 60 = .ok (.getfield 26, 3) := by decide +kernel
theorem dX0_isMendedBy_63 : decode cX0_isMendedBy 63 = .ok (.if_icmp .ne 7, 3) := by decide +kernel
theorem dX0_isMendedBy_66 : decode cX0_isMendedBy 66 = .ok (.iconst 1, 1) := by decide +kernel
theorem dX0_isMendedBy_67 : decode cX0_isMendedBy 67 = .ok (.goto 4, 3) := by decide +kernel
theorem dX0_isMendedBy_70 : decode cX0_isMendedBy 70 = .ok (.iconst 0, 1) := by decide +kernel
theorem dX0_isMendedBy_71 : decode cX0_isMendedBy 71 = .ok (.istore 7, 2) := by decide +kernel
theorem dX0_isMendedBy_73 : decode cX0_isMendedBy 73 = .ok (.aload 4, 2) := by decide +kernel
theorem dX0_isMendedBy_75 : decode cX0_isMendedBy 75 = .ok (.iload 5, 2) := by decide +kernel
theorem dX0_isMendedBy_77 : decode cX0_isMendedBy 77 = .ok (.putfield 79, 3) := by decide +kernel
theorem dX0_isMendedBy_80 : decode cX0_isMendedBy 80 = .ok (.iload 7, 2) := by decide +kernel
theorem dX0_isMendedBy_82 : decode cX0_isMendedBy 82 = .ok (.ifCond .eq 14, 3) := by decide +kernel
theorem dX0_isMendedBy_85 : decode cX0_isMendedBy 85 = .ok (.aload_n 0, 1) := by decide +kernel
theorem dX0_isMendedBy_86 : decode cX0_isMendedBy 86 = .ok (.iload_n 2, 1) := by decide +kernel
theorem dX0_isMendedBy_87 : decode cX0_isMendedBy 87 = .ok (.putfield 141, 3) := by decide +kernel
theorem dX0_isMendedBy_90 : decode cX0_isMendedBy 90 = .ok (.aload_n 0, 1) := by decide +kernel
theorem dX0_isMendedBy_91 : decode cX0_isMendedBy 91 = .ok (.iload 6, 2) := by decide +kernel
theorem dX0_isMendedBy_93 : decode cX0_isMendedBy 93 = .ok (.putfield 144, 3) := by decide +kernel
theorem dX0_isMendedBy_96 : decode cX0_isMendedBy 96 = .ok (.iload 7, 2) := by decide +kernel
theorem dX0_isMendedBy_98 : decode cX0_isMendedBy 98 = .ok (.ireturn, 1) := by decide +kernel
theorem dX0_mendAsFound_0 : decode cX0_mendAsFound 0 = .ok (.aload_n 0, 1) := by decide +kernel
theorem dX0_mendAsFound_1 : decode cX0_mendAsFound 1 = .ok (.iload_n 1, 1) := by decide +kernel
theorem dX0_mendAsFound_2 : decode cX0_mendAsFound 2 = .ok (.aload_n 0, 1) := by decide +kernel
theorem dX0_mendAsFound_3 : decode cX0_mendAsFound 3 = .ok (.getfield 141, 3) := by decide +kernel
theorem dX0_mendAsFound_6 : decode cX0_mendAsFound 6 = .ok (.invokevirtual 147, 3) := by decide +kernel
theorem dX0_mendAsFound_9 : decode cX0_mendAsFound 9 = .ok (.ifCond .eq 19, 3) := by decide +kernel
theorem dX0_mendAsFound_12 : decode cX0_mendAsFound 12 = .ok (.aload_n 0, 1) := by decide +kernel
theorem dX0_mendAsFound_13 : decode cX0_mendAsFound 13 = .ok (.iload_n 1, 1) := by decide +kernel
theorem dX0_mendAsFound_14 : decode cX0_mendAsFound 14 = .ok (.aload_n 0, 1) := by decide +kernel
theorem dX0_mendAsFound_15 : decode cX0_mendAsFound 15 = .ok (.getfield 141, 3) := by decide +kernel
theorem dX0_mendAsFound_18 : decode cX0_mendAsFound 18 = .ok (.invokevirtual 134, 3) := by decide +kernel
theorem dX0_mendAsFound_21 : decode cX0_mendAsFound 21 = .ok (.aload_n 0, 1) := by decide +kernel
theorem dX0_mendAsFound_22 : decode cX0_mendAsFound 22 = .ok (.getfield 144, 3) := by decide +kernel
theorem dX0_mendAsFound_25 : decode cX0_mendAsFound 25 = .ok (.putfield 79, 3) := by decide +kernel
theorem dX0_mendAsFound_28 : decode cX0_mendAsFound 28 = .ok (.return_, 1) := by decide +kernel
