theorem dX9_rivals_127 : decode cX9_rivals 127 = .ok (.goto (-20), 3) := by decide +kernel
theorem dX9_rivals_130 : decode cX9_rivals 130 = .ok (.iload_n 3, 1) := by decide +kernel
theorem dX9_rivals_131 : decode cX9_rivals 131 = .ok (.iload 5, 2) := by decide +kernel
theorem dX9_rivals_133 : decode cX9_rivals 133 = .ok (.aload_n 0, 1) := by decide +kernel
theorem dX9_rivals_134 : decode cX9_rivals 134 = .ok (.getfield 89, 3) := by decide +kernel
theorem dX9_rivals_137 : decode cX9_rivals 137 = .ok (.iconst 1, 1) := by decide +kernel
theorem dX9_rivals_138 : decode cX9_rivals 138 = .ok (.isub, 1) := by decide +kernel
theorem dX9_rivals_139 : decode cX9_rivals 139 = .ok (.if_icmp .ne 18, 3) := by decide +kernel
theorem dX9_rivals_142 : decode cX9_rivals 142 = .ok (.aload_n 0, 1) := by decide +kernel
theorem dX9_rivals_143 : decode cX9_rivals 143 = .ok (.iload 4, 2) := by decide +kernel
theorem dX9_rivals_145 : decode cX9_rivals 145 = .ok (.iload_n 2, 1) := by decide +kernel
theorem dX9_rivals_146 : decode cX9_rivals 146 = .ok (.iload_n 1, 1) := by decide +kernel
theorem dX9_rivals_147 : decode cX9_rivals 147 = .ok (.invokevirtual 215, 3) := by decide +kernel
theorem dX9_rivals_150 : decode cX9_rivals 150 = .ok (.ifCond .eq 7, 3) := by decide +kernel
theorem dX9_rivals_153 : decode cX9_rivals 153 = .ok (.iconst 1, 1) := by decide +kernel
theorem dX9_rivals_154 : decode cX9_rivals 154 = .ok (.goto 4, 3) := by decide +kernel
theorem dX9_rivals_157 : decode cX9_rivals 157 = .ok (.iconst 0, 1) := by decide +kernel
theorem dX9_rivals_158 : decode cX9_rivals 158 = .ok (.iadd, 1) := by decide +kernel
theorem dX9_rivals_159 : decode cX9_rivals 159 = .ok (.istore_n 3, 1) := by decide +kernel
theorem dX9_rivals_160 : decode cX9_rivals 160 = .ok (.iinc 4 1, 3) := by decide +kernel
theorem dX9_rivals_163 : decode cX9_rivals 163 = .ok (.goto (-71), 3) := by decide +kernel
theorem dX9_rivals_166 : decode cX9_rivals 166 = .ok (.iload_n 3, 1) := by decide +kernel
theorem dX9_rivals_167 : decode cX9_rivals 167 = .ok (.ireturn, 1) := by decide +kernel
theorem dX9_faults_0 : decode cX9_faults 0 = .ok (.iconst 0, 1) := by decide +kernel
theorem dX9_faults_1 : decode cX9_faults 1 = .ok (.istore_n 1, 1) := by decide +kernel
theorem dX9_faults_2 : decode cX9_faults 2 = .ok (.iconst 0, 1) := by decide +kernel
theorem dX9_faults_3 : decode cX9_faults 3 = .ok (.istore_n 2, 1) := by decide +kernel
theorem dX9_faults_4 : decode cX9_faults 4 = .ok (.iload_n 2, 1) := by decide +kernel
theorem dX9_faults_5 : decode cX9_faults 5 = .ok (.aload_n 0, 1) := by decide +kernel
theorem dX9_faults_6 : decode cX9_faults 6 = .ok (.getfield 71, 3) := by decide +kernel
theorem dX9_faults_9 : decode cX9_faults 9 = .ok (.if_icmp .ge 58, 3) := by decide +kernel
theorem dX9_faults_12 : decode cX9_faults 12 = .ok (.iconst 0, 1) := by decide +kernel
theorem dX9_faults_13 : decode cX9_faults 13 = .ok (.istore_n 3, 1) := by decide +kernel
theorem dX9_faults_14 : decode cX9_faults 14 = .ok (.iload_n 3, 1) := by decide +kernel
theorem dX9_faults_15 : decode cX9_faults 15 = .ok (.aload_n 0, 1) := by decide +kernel
theorem dX9_faults_16 : decode cX9_faults 16 = .ok (.getfield 134, 3) := by decide +kernel
theorem dX9_faults_19 : decode cX9_faults 19 = .ok (.if_icmp .ge 42, 3) := by decide +kernel
theorem dX9_faults_22 : decode cX9_faults 22 = .ok (.iload_n 1, 1) := by decide +kernel
theorem dX9_faults_23 : decode cX9_faults 23 = .ok (.aload_n 0, 1) := by decide +kernel
theorem dX9_faults_24 : decode cX9_faults 24 = .ok (.getfield 77, 3) := by decide +kernel
theorem dX9_faults_27 : decode cX9_faults 27 = .ok (.bipush 40, 2) := by decide +kernel
theorem dX9_faults_29 : decode cX9_faults 29 = .ok (.iload_n 2, 1) := by decide +kernel
theorem dX9_faults_30 : decode cX9_faults 30 = .ok (.imul, 1) := by decide +kernel
theorem dX9_faults_31 : decode cX9_faults 31 = .ok (.iload_n 3, 1) := by decide +kernel
theorem dX9_faults_32 : decode cX9_faults 32 = .ok (.iadd, 1) := by decide +kernel
theorem dX9_faults_33 : decode cX9_faults 33 = .ok (.iaload, 1) := by decide +kernel
theorem dX9_faults_34 : decode cX9_faults 34 = .ok (.aload_n 0, 1) := by decide +kernel
theorem dX9_faults_35 : decode cX9_faults 35 = .ok (.getfield 74, 3) := by decide +kernel
theorem dX9_faults_38 : decode cX9_faults 38 = .ok (.bipush 40, 2) := by decide +kernel
theorem dX9_faults_40 : decode cX9_faults 40 = .ok (.iload_n 2, 1) := by decide +kernel
theorem dX9_faults_41 : decode cX9_faults 41 = .ok (.imul, 1) := by decide +kernel
theorem dX9_faults_42 : decode cX9_faults 42 = .ok (.iload_n 3, 1) := by decide +kernel
theorem dX9_faults_43 : decode cX9_faults 43 = .ok (.iadd, 1) := by decide +kernel
theorem dX9_faults_44 : decode cX9_faults 44 = .ok (.iaload, 1) := by decide +kernel
theorem dX9_faults_45 : decode cX9_faults 45 = .ok (.if_icmp .eq 7, 3) := by decide +kernel
theorem dX9_faults_48 : decode cX9_faults 48 = .ok (.iconst 1, 1) := by decide +kernel
theorem dX9_faults_49 : decode cX9_faults 49 = .ok (.goto 4, 3) := by decide +kernel
theorem dX9_faults_52 : decode cX9_faults 52 = .ok (.iconst 0, 1) := by decide +kernel
theorem dX9_faults_53 : decode cX9_faults 53 = .ok (.iadd, 1) := by decide +kernel
theorem dX9_faults_54 : decode cX9_faults 54 = .ok (.istore_n 1, 1) := by decide +kernel
theorem dX9_faults_55 : decode cX9_faults 55 = .ok (.iinc 3 1, 3) := by decide +kernel
theorem dX9_faults_58 : decode cX9_faults 58 = .ok (.goto (-44), 3) := by decide +kernel
theorem dX9_faults_61 : decode cX9_faults 61 = .ok (.iinc 2 1, 3) := by decide +kernel
theorem dX9_faults_64 : decode cX9_faults 64 = .ok (.goto (-60), 3) := by decide +kernel
theorem dX9_faults_67 : decode cX9_faults 67 = .ok (.iload_n 1, 1) := by decide +kernel
theorem dX9_faults_68 : decode cX9_faults 68 = .ok (.ireturn, 1) := by decide +kernel
theorem dX9_count_0 : decode cX9_count 0 = .ok (.iconst 0, 1) := by decide +kernel
theorem dX9_count_1 : decode cX9_count 1 = .ok (.istore_n 2, 1) := by decide +kernel
theorem dX9_count_2 : decode cX9_count 2 = .ok (.iload_n 1, 1) := by decide +kernel
theorem dX9_count_3 : decode cX9_count 3 = .ok (.tableswitch 89 0 5 #[37, 42, 47, 52, 57, 62], 37) := by decide +kernel
theorem dX9_count_40 : decode cX9_count 40 = .ok (.aload_n 0, 1) := by decide +kernel
theorem dX9_count_41 : decode cX9_count 41 = .ok (.getfield 13, 3) := by decide +kernel
theorem dX9_count_44 : decode cX9_count 44 = .ok (.ireturn, 1) := by decide +kernel
theorem dX9_count_45 : decode cX9_count 45 = .ok (.aload_n 0, 1) := by decide +kernel
theorem dX9_count_46 : decode cX9_count 46 = .ok (.getfield 71, 3) := by decide +kernel
theorem dX9_count_49 : decode cX9_count 49 = .ok (.ireturn, 1) := by decide +kernel
theorem dX9_count_50 : decode cX9_count 50 = .ok (.aload_n 0, 1) := by decide +kernel
theorem dX9_count_51 : decode cX9_count 51 = .ok (.invokevirtual 218, 3) := by decide +kernel
theorem dX9_count_54 : decode cX9_count 54 = .ok (.ireturn, 1) := by decide +kernel
theorem dX9_count_55 : decode cX9_count 55 = .ok (.aload_n 0, 1) := by decide +kernel
theorem dX9_count_56 : decode cX9_count 56 = .ok (.getfield 89, 3) := by decide +kernel
theorem dX9_count_59 : decode cX9_count 59 = .ok (.ireturn, 1) := by decide +kernel
theorem dX9_count_60 : decode cX9_count 60 = .ok (.aload_n 0, 1) := by decide +kernel
theorem dX9_count_61 : decode cX9_count 61 = .ok (.getfield 134, 3) := by decide +kernel
theorem dX9_count_64 : decode cX9_count 64 = .ok (.ireturn, 1) := by decide +kernel
theorem dX9_count_65 : decode cX9_count 65 = .ok (.iconst 0, 1) := by decide +kernel
theorem dX9_count_66 : decode cX9_count 66 = .ok (.istore_n 3, 1) := by decide +kernel
theorem dX9_count_67 : decode cX9_count 67 = .ok (.iload_n 3, 1) := by decide +kernel
theorem dX9_count_68 : decode cX9_count 68 = .ok (.aload_n 0, 1) := by decide +kernel
theorem dX9_count_69 : decode cX9_count 69 = .ok (.getfield 71, 3) := by decide +kernel
theorem dX9_count_72 : decode cX9_count 72 = .ok (.if_icmp .ge 18, 3) := by decide +kernel
theorem dX9_count_75 : decode cX9_count 75 = .ok (.iload_n 2, 1) := by decide +kernel
theorem dX9_count_76 : decode cX9_count 76 = .ok (.aload_n 0, 1) := by decide +kernel
theorem dX9_count_77 : decode cX9_count 77 = .ok (.getfield 86, 3) := by decide +kernel
theorem dX9_count_80 : decode cX9_count 80 = .ok (.iload_n 3, 1) := by decide +kernel
theorem dX9_count_81 : decode cX9_count 81 = .ok (.iaload, 1) := by decide +kernel
theorem dX9_count_82 : decode cX9_count 82 = .ok (.iadd, 1) := by decide +kernel
theorem dX9_count_83 : decode cX9_count 83 = .ok (.istore_n 2, 1) := by decide +kernel
theorem dX9_count_84 : decode cX9_count 84 = .ok (.iinc 3 1, 3) := by decide +kernel
theorem dX9_count_87 : decode cX9_count 87 = .ok (.goto (-20), 3) := by decide +kernel
theorem dX9_count_90 : decode cX9_count 90 = .ok (.iload_n 2, 1) := by decide +kernel
theorem dX9_count_91 : decode cX9_count 91 = .ok (.ireturn, 1) := by decide +kernel
theorem dX9_count_92 : decode cX9_count 92 = .ok (.iconst (-1), 1) := by decide +kernel
theorem dX9_count_93 : decode cX9_count 93 = .ok (.ireturn, 1) := by decide +kernel
theorem dX9_isShelf_0 : decode cX9_isShelf 0 = .ok (.aload_n 0, 1) := by decide +kernel
theorem dX9_isShelf_1 : decode cX9_isShelf 1 = .ok (.iload_n 1, 1) := by decide +kernel
theorem dX9_isShelf_2 : decode cX9_isShelf 2 = .ok (.iconst 0, 1) := by decide +kernel
theorem dX9_isShelf_3 : decode cX9_isShelf 3 = .ok (.bipush 7, 2) := by decide +kernel
theorem dX9_isShelf_5 : decode cX9_isShelf 5 = .ok (.invokevirtual 137, 3) := by decide +kernel
theorem dX9_isShelf_8 : decode cX9_isShelf 8 = .ok (.ireturn, 1) := by decide +kernel
theorem dX9_wipe_0 : decode cX9_wipe 0 = .ok (.iconst 0, 1) := by decide +kernel
theorem dX9_wipe_1 : decode cX9_wipe 1 = .ok (.istore_n 2, 1) := by decide +kernel
theorem dX9_wipe_2 : decode cX9_wipe 2 = .ok (.iload_n 2, 1) := by decide +kernel
theorem dX9_wipe_3 : decode cX9_wipe 3 = .ok (.bipush 60, 2) := by decide +kernel
theorem dX9_wipe_5 : decode cX9_wipe 5 = .ok (.if_icmp .ge 21, 3) := by decide +kernel
theorem dX9_wipe_8 : decode cX9_wipe 8 = .ok (.aload_n 0, 1) := by decide +kernel
theorem dX9_wipe_9 : decode cX9_wipe 9 = .ok (.getfield 128, 3) := by decide +kernel
theorem dX9_wipe_12 : decode cX9_wipe 12 = .ok (.bipush 60, 2) := by decide +kernel
theorem dX9_wipe_14 : decode cX9_wipe 14 = .ok (.iload_n 1, 1) := by decide +kernel
theorem dX9_wipe_15 : decode cX9_wipe 15 = .ok (.imul, 1) := by decide +kernel
theorem dX9_wipe_16 : decode cX9_wipe 16 = .ok (.iload_n 2, 1) := by decide +kernel
theorem dX9_wipe_17 : decode cX9_wipe 17 = .ok (.iadd, 1) := by decide +kernel
theorem dX9_wipe_18 : decode cX9_wipe 18 = .ok (.iconst 0, 1) := by decide +kernel
theorem dX9_wipe_19 : decode cX9_wipe 19 = .ok (.iastore, 1) := by decide +kernel
theorem dX9_wipe_20 : decode cX9_wipe 20 = .ok (.iinc 2 1, 3) := by decide +kernel
theorem dX9_wipe_23 : decode cX9_wipe 23 = .ok (.goto (-21), 3) := by decide +kernel
theorem dX9_wipe_26 : decode cX9_wipe 26 = .ok (.return_, 1) := by decide +kernel
theorem dX9_keep_0 : decode cX9_keep 0 = .ok (.aload_n 0, 1) := by decide +kernel
theorem dX9_keep_1 : decode cX9_keep 1 = .ok (.iload_n 1, 1) := by decide +kernel
theorem dX9_keep_2 : decode cX9_keep 2 = .ok (.invokevirtual 222, 3) := by decide +kernel
theorem dX9_keep_5 : decode cX9_keep 5 = .ok (.ifCond .eq 67, 3) := by decide +kernel
theorem dX9_keep_8 : decode cX9_keep 8 = .ok (.iload_n 2, 1) := by decide +kernel
theorem dX9_keep_9 : decode cX9_keep 9 = .ok (.ifCond .eq 59, 3) := by decide +kernel
theorem dX9_keep_12 : decode cX9_keep 12 = .ok (.iload_n 2, 1) := by decide +kernel
theorem dX9_keep_13 : decode cX9_keep 13 = .ok (.iconst 4, 1) := by decide +kernel
theorem dX9_keep_14 : decode cX9_keep 14 = .ok (.if_icmp .eq 54, 3) := by decide +kernel
theorem dX9_keep_17 : decode cX9_keep 17 = .ok (.iload_n 2, 1) := by decide +kernel
theorem dX9_keep_18 : decode cX9_keep 18 = .ok (.iconst 1, 1) := by decide +kernel
theorem dX9_keep_19 : decode cX9_keep 19 = .ok (.if_icmp .ne 29, 3) := by decide +kernel
theorem dX9_keep_22 : decode cX9_keep 22 = .ok (.aload_n 0, 1) := by decide +kernel
theorem dX9_keep_23 : decode cX9_keep 23 = .ok (.iload_n 3, 1) := by decide +kernel
theorem dX9_keep_24 : decode cX9_keep 24 = .ok (.invokevirtual 165, 3) := by decide +kernel
theorem dX9_keep_27 : decode cX9_keep 27 = .ok (.ifCond .eq 21, 3) := by decide +kernel
theorem dX9_keep_30 : decode cX9_keep 30 = .ok (.aload_n 0, 1) := by decide +kernel
theorem dX9_keep_31 : decode cX9_keep 31 = .ok (.iload 4, 2) := by decide +kernel
theorem dX9_keep_33 : decode cX9_keep 33 = .ok (.iconst 0, 1) := by decide +kernel
theorem dX9_keep_34 : decode cX9_keep 34 = .ok (.aload_n 0, 1) := by decide +kernel
theorem dX9_keep_35 : decode cX9_keep 35 = .ok (.getfield 16, 3) := by decide +kernel
theorem dX9_keep_38 : decode cX9_keep 38 = .ok (.iload_n 3, 1) := by decide +kernel
theorem dX9_keep_39 : decode cX9_keep 39 = .ok (.iaload, 1) := by decide +kernel
theorem dX9_keep_40 : decode cX9_keep 40 = .ok (.iconst 1, 1) := by decide +kernel
theorem dX9_keep_41 : decode cX9_keep 41 = .ok (.isub, 1) := by decide +kernel
theorem dX9_keep_42 : decode cX9_keep 42 = .ok (.invokevirtual 137, 3) := by decide +kernel
theorem dX9_keep_45 : decode cX9_keep 45 = .ok (.ifCond .ne 23, 3) := by decide +kernel
theorem dX9_keep_48 : decode cX9_keep 48 = .ok (.iload_n 2, 1) := by decide +kernel
theorem dX9_keep_49 : decode cX9_keep 49 = .ok (.iconst 3, 1) := by decide +kernel
theorem dX9_keep_50 : decode cX9_keep 50 = .ok (.if_icmp .ne 22, 3) := by decide +kernel
theorem dX9_keep_53 : decode cX9_keep 53 = .ok (.aload_n 0, 1) := by decide +kernel
theorem dX9_keep_54 : decode cX9_keep 54 = .ok (.iload_n 3, 1) := by decide +kernel
theorem dX9_keep_55 : decode cX9_keep 55 = .ok (.iconst 0, 1) := by decide +kernel
theorem dX9_keep_56 : decode cX9_keep 56 = .ok (.aload_n 0, 1) := by decide +kernel
theorem dX9_keep_57 : decode cX9_keep 57 = .ok (.getfield 71, 3) := by decide +kernel
theorem dX9_keep_60 : decode cX9_keep 60 = .ok (.iconst 1, 1) := by decide +kernel
theorem dX9_keep_61 : decode cX9_keep 61 = .ok (.isub, 1) := by decide +kernel
theorem dX9_keep_62 : decode cX9_keep 62 = .ok (.invokevirtual 137, 3) := by decide +kernel
theorem dX9_keep_65 : decode cX9_keep 65 = .ok (.ifCond .eq 7, 3) := by decide +kernel
theorem dX9_keep_68 : decode cX9_keep 68 = .ok (.iconst 1, 1) := by decide +kernel
theorem dX9_keep_69 : decode cX9_keep 69 = .ok (.goto 4, 3) := by decide +kernel
theorem dX9_keep_72 : decode cX9_keep 72 = .ok (.iconst 0, 1) := by decide +kernel
theorem dX9_keep_73 : decode cX9_keep 73 = .ok (.istore 5, 2) := by decide +kernel
theorem dX9_keep_75 : decode cX9_keep 75 = .ok (.iload 5, 2) := by decide +kernel
theorem dX9_keep_77 : decode cX9_keep 77 = .ok (.ifCond .ne 5, 3) := by decide +kernel
theorem dX9_keep_80 : decode cX9_keep 80 = .ok (.iconst (-1), 1) := by decide +kernel
theorem dX9_keep_81 : decode cX9_keep 81 = .ok (.ireturn, 1) := by decide +kernel
theorem dX9_keep_82 : decode cX9_keep 82 = .ok (.aload_n 0, 1) := by decide +kernel
theorem dX9_keep_83 : decode cX9_keep 83 = .ok (.getfield 113, 3) := by decide +kernel
theorem dX9_keep_86 : decode cX9_keep 86 = .ok (.iload_n 1, 1) := by decide +kernel
theorem dX9_keep_87 : decode cX9_keep 87 = .ok (.iload_n 2, 1) := by decide +kernel
theorem dX9_keep_88 : decode cX9_keep 88 = .ok (.iastore, 1) := by decide +kernel
theorem dX9_keep_89 : decode cX9_keep 89 = .ok (.aload_n 0, 1) := by decide +kernel
theorem dX9_keep_90 : decode cX9_keep 90 = .ok (.iload_n 1, 1) := by decide +kernel
theorem dX9_keep_91 : decode cX9_keep 91 = .ok (.invokevirtual 225, 3) := by decide +kernel
theorem dX9_keep_94 : decode cX9_keep 94 = .ok (.iload_n 2, 1) := by decide +kernel
theorem dX9_keep_95 : decode cX9_keep 95 = .ok (.iconst 1, 1) := by decide +kernel
theorem dX9_keep_96 : decode cX9_keep 96 = .ok (.if_icmp .ne 57, 3) := by decide +kernel
theorem dX9_keep_99 : decode cX9_keep 99 = .ok (.aload_n 0, 1) := by decide +kernel
theorem dX9_keep_100 : decode cX9_keep 100 = .ok (.getfield 116, 3) := by decide +kernel
theorem dX9_keep_103 : decode cX9_keep 103 = .ok (.iload_n 1, 1) := by decide +kernel
theorem dX9_keep_104 : decode cX9_keep 104 = .ok (.aload_n 0, 1) := by decide +kernel
theorem dX9_keep_105 : decode cX9_keep 105 = .ok (.getfield 20, 3) := by decide +kernel
theorem dX9_keep_108 : decode cX9_keep 108 = .ok (.bipush 12, 2) := by decide +kernel
theorem dX9_keep_110 : decode cX9_keep 110 = .ok (.iload_n 3, 1) := by decide +kernel
theorem dX9_keep_111 : decode cX9_keep 111 = .ok (.imul, 1) := by decide +kernel
theorem dX9_keep_112 : decode cX9_keep 112 = .ok (.iload 4, 2) := by decide +kernel
theorem dX9_keep_114 : decode cX9_keep 114 = .ok (.iadd, 1) := by decide +kernel
theorem dX9_keep_115 : decode cX9_keep 115 = .ok (.iaload, 1) := by decide +kernel
theorem dX9_keep_116 : decode cX9_keep 116 = .ok (.iastore, 1) := by decide +kernel
theorem dX9_keep_117 : decode cX9_keep 117 = .ok (.aload_n 0, 1) := by decide +kernel
theorem dX9_keep_118 : decode cX9_keep 118 = .ok (.getfield 119, 3) := by decide +kernel
theorem dX9_keep_121 : decode cX9_keep 121 = .ok (.iload_n 1, 1) := by decide +kernel
theorem dX9_keep_122 : decode cX9_keep 122 = .ok (.aload_n 0, 1) := by decide +kernel
theorem dX9_keep_123 : decode cX9_keep 123 = .ok (.getfield 23, 3) := by decide +kernel
theorem dX9_keep_126 : decode cX9_keep 126 = .ok (.bipush 12, 2) := by decide +kernel
theorem dX9_keep_128 : decode cX9_keep 128 = .ok (.iload_n 3, 1) := by decide +kernel
theorem dX9_keep_129 : decode cX9_keep 129 = .ok (.imul, 1) := by decide +kernel
theorem dX9_keep_130 : decode cX9_keep 130 = .ok (.iload 4, 2) := by decide +kernel
theorem dX9_keep_132 : decode cX9_keep 132 = .ok (.iadd, 1) := by decide +kernel
theorem dX9_keep_133 : decode cX9_keep 133 = .ok (.iaload, 1) := by decide +kernel
theorem dX9_keep_134 : decode cX9_keep 134 = .ok (.iastore, 1) := by decide +kernel
theorem dX9_keep_135 : decode cX9_keep 135 = .ok (.aload_n 0, 1) := by decide +kernel
theorem dX9_keep_136 : decode cX9_keep 136 = .ok (.getfield 122, 3) := by decide +kernel
theorem dX9_keep_139 : decode cX9_keep 139 = .ok (.iload_n 1, 1) := by decide +kernel
theorem dX9_keep_140 : decode cX9_keep 140 = .ok (.aload_n 0, 1) := by decide +kernel
theorem dX9_keep_141 : decode cX9_keep 141 = .ok (.getfield 26, 3) := by decide +kernel
theorem dX9_keep_144 : decode cX9_keep 144 = .ok (.bipush 12, 2) := by decide +kernel
theorem dX9_keep_146 : decode cX9_keep 146 = .ok (.iload_n 3, 1) := by decide +kernel
theorem dX9_keep_147 : decode cX9_keep 147 = .ok (.imul, 1) := by decide +kernel
theorem dX9_keep_148 : decode cX9_keep 148 = .ok (.iload 4, 2) := by decide +kernel
theorem dX9_keep_150 : decode cX9_keep 150 = .ok (.iadd, 1) := by decide +kernel
theorem dX9_keep_151 : decode cX9_keep 151 = .ok (.iaload, 1) := by decide +kernel
theorem dX9_keep_152 : decode cX9_keep 152 = .ok (.iastore, 1) := by decide +kernel
theorem dX9_keep_153 : decode cX9_keep 153 = .ok (.aload_n 0, 1) := by decide +kernel
theorem dX9_keep_154 : decode cX9_keep 154 = .ok (.getfield 125, 3) := by decide +kernel
theorem dX9_keep_157 : decode cX9_keep 157 = .ok (.iload_n 1, 1) := by decide +kernel
theorem dX9_keep_158 : decode cX9_keep 158 = .ok (.iload_n 2, 1) := by decide +kernel
theorem dX9_keep_159 : decode cX9_keep 159 = .ok (.iconst 3, 1) := by decide +kernel
theorem dX9_keep_160 : decode cX9_keep 160 = .ok (.if_icmp .ne 10, 3) := by decide +kernel
theorem dX9_keep_163 : decode cX9_keep 163 = .ok (.aload_n 0, 1) := by decide +kernel
theorem dX9_keep_164 : decode cX9_keep 164 = .ok (.getfield 134, 3) := by decide +kernel
theorem dX9_keep_167 : decode cX9_keep 167 = .ok (.goto 7, 3) := by decide +kernel
theorem dX9_keep_170 : decode cX9_keep 170 = .ok (.aload_n 0, 1) := by decide +kernel
theorem dX9_keep_171 : decode cX9_keep 171 = .ok (.getfield 71, 3) := by decide +kernel
theorem dX9_keep_174 : decode cX9_keep 174 = .ok (.iastore, 1) := by decide +kernel
theorem dX9_keep_175 : decode cX9_keep 175 = .ok (.iconst 0, 1) := by decide +kernel
theorem dX9_keep_176 : decode cX9_keep 176 = .ok (.istore 6, 2) := by decide +kernel
theorem dX9_keep_178 : decode cX9_keep 178 = .ok (.iload 6, 2) := by decide +kernel
theorem dX9_keep_180 : decode cX9_keep 180 = .ok (.aload_n 0, 1) := by decide +kernel
theorem dX9_keep_181 : decode cX9_keep 181 = .ok (.getfield 134, 3) := by decide +kernel
theorem dX9_keep_184 : decode cX9_keep 184 = .ok (.if_icmp .ge 38, 3) := by decide +kernel
theorem dX9_keep_187 : decode cX9_keep 187 = .ok (.iload_n 2, 1) := by decide +kernel
theorem dX9_keep_188 : decode cX9_keep 188 = .ok (.iconst 3, 1) := by decide +kernel
theorem dX9_keep_189 : decode cX9_keep 189 = .ok (.if_icmp .ne 33, 3) := by decide +kernel
theorem dX9_keep_192 : decode cX9_keep 192 = .ok (.aload_n 0, 1) := by decide +kernel
theorem dX9_keep_193 : decode cX9_keep 193 = .ok (.getfield 128, 3) := by decide +kernel
theorem dX9_keep_196 : decode cX9_keep 196 = .ok (.bipush 60, 2) := by decide +kernel
theorem dX9_keep_198 : decode cX9_keep 198 = .ok (.iload_n 1, 1) := by decide +kernel
theorem dX9_keep_199 : decode cX9_keep 199 = .ok (.imul, 1) := by decide +kernel
theorem dX9_keep_200 : decode cX9_keep 200 = .ok (.iload 6, 2) := by decide +kernel
theorem dX9_keep_202 : decode cX9_keep 202 = .ok (.iadd, 1) := by decide +kernel
theorem dX9_keep_203 : decode cX9_keep 203 = .ok (.aload_n 0, 1) := by decide +kernel
theorem dX9_keep_204 : decode cX9_keep 204 = .ok (.getfield 77, 3) := by decide +kernel
theorem dX9_keep_207 : decode cX9_keep 207 = .ok (.bipush 40, 2) := by decide +kernel
theorem dX9_keep_209 : decode cX9_keep 209 = .ok (.iload_n 3, 1) := by decide +kernel
theorem dX9_keep_210 : decode cX9_keep 210 = .ok (.imul, 1) := by decide +kernel
theorem dX9_keep_211 : decode cX9_keep 211 = .ok (.iload 6, 2) := by decide +kernel
theorem dX9_keep_213 : decode cX9_keep 213 = .ok (.iadd, 1) := by decide +kernel
theorem dX9_keep_214 : decode cX9_keep 214 = .ok (.iaload, 1) := by decide +kernel
theorem dX9_keep_215 : decode cX9_keep 215 = .ok (.iastore, 1) := by decide +kernel
theorem dX9_keep_216 : decode cX9_keep 216 = .ok (.iinc 6 1, 3) := by decide +kernel
theorem dX9_keep_219 : decode cX9_keep 219 = .ok (.goto (-41), 3) := by decide +kernel
theorem dX9_keep_222 : decode cX9_keep 222 = .ok (.iconst 0, 1) := by decide +kernel
theorem dX9_keep_223 : decode cX9_keep 223 = .ok (.istore 6, 2) := by decide +kernel
theorem dX9_keep_225 : decode cX9_keep 225 = .ok (.iload 6, 2) := by decide +kernel
theorem dX9_keep_227 : decode cX9_keep 227 = .ok (.aload_n 0, 1) := by decide +kernel
theorem dX9_keep_228 : decode cX9_keep 228 = .ok (.getfield 71, 3) := by decide +kernel
theorem dX9_keep_231 : decode cX9_keep 231 = .ok (.if_icmp .ge 33, 3) := by decide +kernel
theorem dX9_keep_234 : decode cX9_keep 234 = .ok (.iload_n 2, 1) := by decide +kernel
theorem dX9_keep_235 : decode cX9_keep 235 = .ok (.iconst 4, 1) := by decide +kernel
theorem dX9_keep_236 : decode cX9_keep 236 = .ok (.if_icmp .ne 28, 3) := by decide +kernel
theorem dX9_keep_239 : decode cX9_keep 239 = .ok (.aload_n 0, 1) := by decide +kernel
theorem dX9_keep_240 : decode cX9_keep 240 = .ok (.getfield 128, 3) := by decide +kernel
theorem dX9_keep_243 : decode cX9_keep 243 = .ok (.bipush 60, 2) := by decide +kernel
theorem dX9_keep_245 : decode cX9_keep 245 = .ok (.iload_n 1, 1) := by decide +kernel
theorem dX9_keep_246 : decode cX9_keep 246 = .ok (.imul, 1) := by decide +kernel
theorem dX9_keep_247 : decode cX9_keep 247 = .ok (.iload 6, 2) := by decide +kernel
theorem dX9_keep_249 : decode cX9_keep 249 = .ok (.iadd, 1) := by decide +kernel
theorem dX9_keep_250 : decode cX9_keep 250 = .ok (.aload_n 0, 1) := by decide +kernel
theorem dX9_keep_251 : decode cX9_keep 251 = .ok (.getfield 86, 3) := by decide +kernel
theorem dX9_keep_254 : decode cX9_keep 254 = .ok (.iload 6, 2) := by decide +kernel
theorem dX9_keep_256 : decode cX9_keep 256 = .ok (.iaload, 1) := by decide +kernel
theorem dX9_keep_257 : decode cX9_keep 257 = .ok (.iastore, 1) := by decide +kernel
theorem dX9_keep_258 : decode cX9_keep 258 = .ok (.iinc 6 1, 3) := by decide +kernel
theorem dX9_keep_261 : decode cX9_keep 261 = .ok (.goto (-36), 3) := by decide +kernel
theorem dX9_keep_264 : decode cX9_keep 264 = .ok (.iconst 0, 1) := by decide +kernel
theorem dX9_keep_265 : decode cX9_keep 265 = .ok (.ireturn, 1) := by decide +kernel
theorem dX9_make_0 : decode cX9_make 0 = .ok (.aload_n 0, 1) := by decide +kernel
theorem dX9_make_1 : decode cX9_make 1 = .ok (.iload_n 1, 1) := by decide +kernel
theorem dX9_make_2 : decode cX9_make 2 = .ok (.invokevirtual 222, 3) := by decide +kernel
theorem dX9_make_5 : decode cX9_make 5 = .ok (.ifCond .eq 19, 3) := by decide +kernel
theorem dX9_make_8 : decode cX9_make 8 = .ok (.aload_n 0, 1) := by decide +kernel
theorem dX9_make_9 : decode cX9_make 9 = .ok (.iload_n 2, 1) := by decide +kernel
theorem dX9_make_10 : decode cX9_make 10 = .ok (.iconst 3, 1) := by decide +kernel
theorem dX9_make_11 : decode cX9_make 11 = .ok (.iconst 4, 1) := by decide +kernel
theorem dX9_make_12 : decode cX9_make 12 = .ok (.invokevirtual 137, 3) := by decide +kernel
theorem dX9_make_15 : decode cX9_make 15 = .ok (.ifCond .eq 9, 3) := by decide +kernel
theorem dX9_make_18 : decode cX9_make 18 = .ok (.iload_n 3, 1) := by decide +kernel
theorem dX9_make_19 : decode cX9_make 19 = .ok (.bipush 60, 2) := by decide +kernel
theorem dX9_make_21 : decode cX9_make 21 = .ok (.if_icmp .le 5, 3) := by decide +kernel
theorem dX9_make_24 : decode cX9_make 24 = .ok (.iconst (-1), 1) := by decide +kernel
theorem dX9_make_25 : decode cX9_make 25 = .ok (.ireturn, 1) := by decide +kernel
theorem dX9_make_26 : decode cX9_make 26 = .ok (.iload_n 3, 1) := by decide +kernel
theorem dX9_make_27 : decode cX9_make 27 = .ok (.ifCond .ge 6, 3) := by decide +kernel
theorem dX9_make_30 : decode cX9_make 30 = .ok (.bipush (-14), 2) := by decide +kernel
theorem dX9_make_32 : decode cX9_make 32 = .ok (.ireturn, 1) := by decide +kernel
theorem dX9_make_33 : decode cX9_make 33 = .ok (.aload_n 0, 1) := by decide +kernel
theorem dX9_make_34 : decode cX9_make 34 = .ok (.getfield 113, 3) := by decide +kernel
theorem dX9_make_37 : decode cX9_make 37 = .ok (.iload_n 1, 1) := by decide +kernel
theorem dX9_make_38 : decode cX9_make 38 = .ok (.iload_n 2, 1) := by decide +kernel
theorem dX9_make_39 : decode cX9_make 39 = .ok (.iastore, 1) := by decide +kernel
theorem dX9_make_40 : decode cX9_make 40 = .ok (.aload_n 0, 1) := by decide +kernel
theorem dX9_make_41 : decode cX9_make 41 = .ok (.getfield 125, 3) := by decide +kernel
theorem dX9_make_44 : decode cX9_make 44 = .ok (.iload_n 1, 1) := by decide +kernel
theorem dX9_make_45 : decode cX9_make 45 = .ok (.iload_n 3, 1) := by decide +kernel
theorem dX9_make_46 : decode cX9_make 46 = .ok (.iastore, 1) := by decide +kernel
theorem dX9_make_47 : decode cX9_make 47 = .ok (.aload_n 0, 1) := by decide +kernel
theorem dX9_make_48 : decode cX9_make 48 = .ok (.iload_n 1, 1) := by decide +kernel
theorem dX9_make_49 : decode cX9_make 49 = .ok (.invokevirtual 225, 3) := by decide +kernel
theorem dX9_make_52 : decode cX9_make 52 = .ok (.iconst 0, 1) := by decide +kernel
theorem dX9_make_53 : decode cX9_make 53 = .ok (.ireturn, 1) := by decide +kernel
theorem dX9_element_0 : decode cX9_element 0 = .ok (.aload_n 0, 1) := by decide +kernel
theorem dX9_element_1 : decode cX9_element 1 = .ok (.aload_n 0, 1) := by decide +kernel
theorem dX9_element_2 : decode cX9_element 2 = .ok (.iload_n 1, 1) := by decide +kernel
theorem dX9_element_3 : decode cX9_element 3 = .ok (.invokevirtual 222, 3) := by decide +kernel
theorem dX9_element_6 : decode cX9_element 6 = .ok (.ifCond .ne 7, 3) := by decide +kernel
theorem dX9_element_9 : decode cX9_element 9 = .ok (.iconst 1, 1) := by decide +kernel
theorem dX9_element_10 : decode cX9_element 10 = .ok (.goto 35, 3) := by decide +kernel
theorem dX9_element_13 : decode cX9_element 13 = .ok (.aload_n 0, 1) := by decide +kernel
theorem dX9_element_14 : decode cX9_element 14 = .ok (.getfield 113, 3) := by decide +kernel
theorem dX9_element_17 : decode cX9_element 17 = .ok (.iload_n 1, 1) := by decide +kernel
theorem dX9_element_18 : decode cX9_element 18 = .ok (.iaload, 1) := by decide +kernel
theorem dX9_element_19 : decode cX9_element 19 = .ok (.iconst 3, 1) := by decide +kernel
theorem dX9_element_20 : decode cX9_element 20 = .ok (.if_icmp .lt 20, 3) := by decide +kernel
theorem dX9_element_23 : decode cX9_element 23 = .ok (.aload_n 0, 1) := by decide +kernel
theorem dX9_element_24 : decode cX9_element 24 = .ok (.iload_n 2, 1) := by decide +kernel
theorem dX9_element_25 : decode cX9_element 25 = .ok (.iconst 0, 1) := by decide +kernel
theorem dX9_element_26 : decode cX9_element 26 = .ok (.aload_n 0, 1) := by decide +kernel
theorem dX9_element_27 : decode cX9_element 27 = .ok (.getfield 125, 3) := by decide +kernel
theorem dX9_element_30 : decode cX9_element 30 = .ok (.iload_n 1, 1) := by decide +kernel
theorem dX9_element_31 : decode cX9_element 31 = .ok (.iaload, 1) := by decide +kernel
theorem dX9_element_32 : decode cX9_element 32 = .ok (.iconst 1, 1) := by decide +kernel
theorem dX9_element_33 : decode cX9_element 33 = .ok (.isub, 1) := by decide +kernel
theorem dX9_element_34 : decode cX9_element 34 = .ok (.invokevirtual 137, 3) := by decide +kernel
theorem dX9_element_37 : decode cX9_element 37 = .ok (.ifCond .ne 7, 3) := by decide +kernel
theorem dX9_element_40 : decode cX9_element 40 = .ok (.iconst 2, 1) := by decide +kernel
theorem dX9_element_41 : decode cX9_element 41 = .ok (.goto 4, 3) := by decide +kernel
theorem dX9_element_44 : decode cX9_element 44 = .ok (.iconst 0, 1) := by decide +kernel
theorem dX9_element_45 : decode cX9_element 45 = .ok (.putfield 1, 3) := by decide +kernel
theorem dX9_element_48 : decode cX9_element 48 = .ok (.aload_n 0, 1) := by decide +kernel
theorem dX9_element_49 : decode cX9_element 49 = .ok (.getfield 1, 3) := by decide +kernel
theorem dX9_element_52 : decode cX9_element 52 = .ok (.ifCond .le 7, 3) := by decide +kernel
theorem dX9_element_55 : decode cX9_element 55 = .ok (.lconst 0, 1) := by decide +kernel
theorem dX9_element_56 : decode cX9_element 56 = .ok (.goto 15, 3) := by decide +kernel
theorem dX9_element_59 : decode cX9_element 59 = .ok (.aload_n 0, 1) := by decide +kernel
theorem dX9_element_60 : decode cX9_element 60 = .ok (.getfield 128, 3) := by decide +kernel
theorem dX9_element_63 : decode cX9_element 63 = .ok (.bipush 60, 2) := by decide +kernel
theorem dX9_element_65 : decode cX9_element 65 = .ok (.iload_n 1, 1) := by decide +kernel
theorem dX9_element_66 : decode cX9_element 66 = .ok (.imul, 1) := by decide +kernel
theorem dX9_element_67 : decode cX9_element 67 = .ok (.iload_n 2, 1) := by decide +kernel
theorem dX9_element_68 : decode cX9_element 68 = .ok (.iadd, 1) := by decide +kernel
theorem dX9_element_69 : decode cX9_element 69 = .ok (.iaload, 1) := by decide +kernel
theorem dX9_element_70 : decode cX9_element 70 = .ok (.i2l, 1) := by decide +kernel
theorem dX9_element_71 : decode cX9_element 71 = .ok (.lreturn, 1) := by decide +kernel
theorem dX9_copy_0 : decode cX9_copy 0 = .ok (.aload_n 0, 1) := by decide +kernel
theorem dX9_copy_1 : decode cX9_copy 1 = .ok (.iload_n 1, 1) := by decide +kernel
theorem dX9_copy_2 : decode cX9_copy 2 = .ok (.invokevirtual 222, 3) := by decide +kernel
theorem dX9_copy_5 : decode cX9_copy 5 = .ok (.ifCond .eq 11, 3) := by decide +kernel
theorem dX9_copy_8 : decode cX9_copy 8 = .ok (.aload_n 0, 1) := by decide +kernel
theorem dX9_copy_9 : decode cX9_copy 9 = .ok (.iload_n 3, 1) := by decide +kernel
theorem dX9_copy_10 : decode cX9_copy 10 = .ok (.invokevirtual 222, 3) := by decide +kernel
theorem dX9_copy_13 : decode cX9_copy 13 = .ok (.ifCond .ne 5, 3) := by decide +kernel
theorem dX9_copy_16 : decode cX9_copy 16 = .ok (.iconst (-1), 1) := by decide +kernel
theorem dX9_copy_17 : decode cX9_copy 17 = .ok (.ireturn, 1) := by decide +kernel
theorem dX9_copy_18 : decode cX9_copy 18 = .ok (.aload_n 0, 1) := by decide +kernel
theorem dX9_copy_19 : decode cX9_copy 19 = .ok (.getfield 113, 3) := by decide +kernel
theorem dX9_copy_22 : decode cX9_copy 22 = .ok (.iload_n 1, 1) := by decide +kernel
theorem dX9_copy_23 : decode cX9_copy 23 = .ok (.iaload, 1) := by decide +kernel
theorem dX9_copy_24 : decode cX9_copy 24 = .ok (.ifCond .eq 12, 3) := by decide +kernel
theorem dX9_copy_27 : decode cX9_copy 27 = .ok (.aload_n 0, 1) := by decide +kernel
theorem dX9_copy_28 : decode cX9_copy 28 = .ok (.getfield 113, 3) := by decide +kernel
theorem dX9_copy_31 : decode cX9_copy 31 = .ok (.iload_n 3, 1) := by decide +kernel
theorem dX9_copy_32 : decode cX9_copy 32 = .ok (.iaload, 1) := by decide +kernel
theorem dX9_copy_33 : decode cX9_copy 33 = .ok (.ifCond .ne 6, 3) := by decide +kernel
theorem dX9_copy_36 : decode cX9_copy 36 = .ok (.bipush (-11), 2) := by decide +kernel
theorem dX9_copy_38 : decode cX9_copy 38 = .ok (.ireturn, 1) := by decide +kernel
theorem dX9_copy_39 : decode cX9_copy 39 = .ok (.aload_n 0, 1) := by decide +kernel
theorem dX9_copy_40 : decode cX9_copy 40 = .ok (.getfield 113, 3) := by decide +kernel
theorem dX9_copy_43 : decode cX9_copy 43 = .ok (.iload_n 1, 1) := by decide +kernel
theorem dX9_copy_44 : decode cX9_copy 44 = .ok (.iaload, 1) := by decide +kernel
theorem dX9_copy_45 : decode cX9_copy 45 = .ok (.iconst 3, 1) := by decide +kernel
theorem dX9_copy_46 : decode cX9_copy 46 = .ok (.if_icmp .lt 18, 3) := by decide +kernel
theorem dX9_copy_49 : decode cX9_copy 49 = .ok (.aload_n 0, 1) := by decide +kernel
theorem dX9_copy_50 : decode cX9_copy 50 = .ok (.getfield 113, 3) := by decide +kernel
theorem dX9_copy_53 : decode cX9_copy 53 = .ok (.iload_n 1, 1) := by decide +kernel
theorem dX9_copy_54 : decode cX9_copy 54 = .ok (.iaload, 1) := by decide +kernel
theorem dX9_copy_55 : decode cX9_copy 55 = .ok (.aload_n 0, 1) := by decide +kernel
theorem dX9_copy_56 : decode cX9_copy 56 = .ok (.getfield 113, 3) := by decide +kernel
theorem dX9_copy_59 : decode cX9_copy 59 = .ok (.iload_n 3, 1) := by decide +kernel
theorem dX9_copy_60 : decode cX9_copy 60 = .ok (.iaload, 1) := by decide +kernel
theorem dX9_copy_61 : decode cX9_copy 61 = .ok (.if_icmp .eq 6, 3) := by decide +kernel
theorem dX9_copy_64 : decode cX9_copy 64 = .ok (.bipush (-12), 2) := by decide +kernel
theorem dX9_copy_66 : decode cX9_copy 66 = .ok (.ireturn, 1) := by decide +kernel
theorem dX9_copy_67 : decode cX9_copy 67 = .ok (.iload 5, 2) := by decide +kernel
theorem dX9_copy_69 : decode cX9_copy 69 = .ok (.ifCond .lt 39, 3) := by decide +kernel
theorem dX9_copy_72 : decode cX9_copy 72 = .ok (.iload_n 2, 1) := by decide +kernel
theorem dX9_copy_73 : decode cX9_copy 73 = .ok (.ifCond .lt 35, 3) := by decide +kernel
theorem dX9_copy_76 : decode cX9_copy 76 = .ok (.iload 4, 2) := by decide +kernel
theorem dX9_copy_78 : decode cX9_copy 78 = .ok (.ifCond .lt 30, 3) := by decide +kernel
theorem dX9_copy_81 : decode cX9_copy 81 = .ok (.iload_n 2, 1) := by decide +kernel
theorem dX9_copy_82 : decode cX9_copy 82 = .ok (.aload_n 0, 1) := by decide +kernel
theorem dX9_copy_83 : decode cX9_copy 83 = .ok (.getfield 125, 3) := by decide +kernel
theorem dX9_copy_86 : decode cX9_copy 86 = .ok (.iload_n 1, 1) := by decide +kernel
theorem dX9_copy_87 : decode cX9_copy 87 = .ok (.iaload, 1) := by decide +kernel
theorem dX9_copy_88 : decode cX9_copy 88 = .ok (.iload 5, 2) := by decide +kernel
theorem dX9_copy_90 : decode cX9_copy 90 = .ok (.isub, 1) := by decide +kernel
theorem dX9_copy_91 : decode cX9_copy 91 = .ok (.if_icmp .gt 17, 3) := by decide +kernel
theorem dX9_copy_94 : decode cX9_copy 94 = .ok (.iload 4, 2) := by decide +kernel
theorem dX9_copy_96 : decode cX9_copy 96 = .ok (.aload_n 0, 1) := by decide +kernel
theorem dX9_copy_97 : decode cX9_copy 97 = .ok (.getfield 125, 3) := by decide +kernel
theorem dX9_copy_100 : decode cX9_copy 100 = .ok (.iload_n 3, 1) := by decide +kernel
theorem dX9_copy_101 : decode cX9_copy 101 = .ok (.iaload, 1) := by decide +kernel
theorem dX9_copy_102 : decode cX9_copy 102 = .ok (.iload 5, 2) := by decide +kernel
theorem dX9_copy_104 : decode cX9_copy 104 = .ok (.isub, 1) := by decide +kernel
theorem dX9_copy_105 : decode cX9_copy 105 = .ok (.if_icmp .le 6, 3) := by decide +kernel
theorem dX9_copy_108 : decode cX9_copy 108 = .ok (.bipush (-13), 2) := by decide +kernel
theorem dX9_copy_110 : decode cX9_copy 110 = .ok (.ireturn, 1) := by decide +kernel
theorem dX9_copy_111 : decode cX9_copy 111 = .ok (.iconst 0, 1) := by decide +kernel
theorem dX9_copy_112 : decode cX9_copy 112 = .ok (.istore 6, 2) := by decide +kernel
theorem dX9_copy_114 : decode cX9_copy 114 = .ok (.iload 6, 2) := by decide +kernel
theorem dX9_copy_116 : decode cX9_copy 116 = .ok (.iload 5, 2) := by decide +kernel
theorem dX9_copy_118 : decode cX9_copy 118 = .ok (.if_icmp .ge 30, 3) := by decide +kernel
theorem dX9_copy_121 : decode cX9_copy 121 = .ok (.aload_n 0, 1) := by decide +kernel
theorem dX9_copy_122 : decode cX9_copy 122 = .ok (.getfield 131, 3) := by decide +kernel
theorem dX9_copy_125 : decode cX9_copy 125 = .ok (.iload 6, 2) := by decide +kernel
theorem dX9_copy_127 : decode cX9_copy 127 = .ok (.aload_n 0, 1) := by decide +kernel
theorem dX9_copy_128 : decode cX9_copy 128 = .ok (.getfield 128, 3) := by decide +kernel
theorem dX9_copy_131 : decode cX9_copy 131 = .ok (.bipush 60, 2) := by decide +kernel
theorem dX9_copy_133 : decode cX9_copy 133 = .ok (.iload_n 1, 1) := by decide +kernel
theorem dX9_copy_134 : decode cX9_copy 134 = .ok (.imul, 1) := by decide +kernel
theorem dX9_copy_135 : decode cX9_copy 135 = .ok (.iload_n 2, 1) := by decide +kernel
theorem dX9_copy_136 : decode cX9_copy 136 = .ok (.iadd, 1) := by decide +kernel
theorem dX9_copy_137 : decode cX9_copy 137 = .ok (.iload 6, 2) := by decide +kernel
theorem dX9_copy_139 : decode cX9_copy 139 = .ok (.iadd, 1) := by decide +kernel
theorem dX9_copy_140 : decode cX9_copy 140 = .ok (.iaload, 1) := by decide +kernel
theorem dX9_copy_141 : decode cX9_copy 141 = .ok (.iastore, 1) := by decide +kernel
theorem dX9_copy_142 : decode cX9_copy 142 = .ok (.iinc 6 1, 3) := by decide +kernel
theorem dX9_copy_145 : decode cX9_copy 145 = .ok (.goto (-31), 3) := by decide +kernel
theorem dX9_copy_148 : decode cX9_copy 148 = .ok (.iconst 0, 1) := by decide +kernel
theorem dX9_copy_149 : decode cX9_copy 149 = .ok (.istore 6, 2) := by decide +kernel
theorem dX9_copy_151 : decode cX9_copy 151 = .ok (.iload 6, 2) := by decide +kernel
theorem dX9_copy_153 : decode cX9_copy 153 = .ok (.iload 5, 2) := by decide +kernel
theorem dX9_copy_155 : decode cX9_copy 155 = .ok (.if_icmp .ge 31, 3) := by decide +kernel
theorem dX9_copy_158 : decode cX9_copy 158 = .ok (.aload_n 0, 1) := by decide +kernel
theorem dX9_copy_159 : decode cX9_copy 159 = .ok (.getfield 128, 3) := by decide +kernel
theorem dX9_copy_162 : decode cX9_copy 162 = .ok (.bipush 60, 2) := by decide +kernel
theorem dX9_copy_164 : decode cX9_copy 164 = .ok (.iload_n 3, 1) := by decide +kernel
theorem dX9_copy_165 : decode cX9_copy 165 = .ok (.imul, 1) := by decide +kernel
theorem dX9_copy_166 : decode cX9_copy 166 = .ok (.iload 4, 2) := by decide +kernel
theorem dX9_copy_168 : decode cX9_copy 168 = .ok (.iadd, 1) := by decide +kernel
theorem dX9_copy_169 : decode cX9_copy 169 = .ok (.iload 6, 2) := by decide +kernel
theorem dX9_copy_171 : decode cX9_copy 171 = .ok (.iadd, 1) := by decide +kernel
theorem dX9_copy_172 : decode cX9_copy 172 = .ok (.aload_n 0, 1) := by decide +kernel
theorem dX9_copy_173 : decode cX9_copy 173 = .ok (.getfield 131, 3) := by decide +kernel
theorem dX9_copy_176 : decode cX9_copy 176 = .ok (.iload 6, 2) := by decide +kernel
theorem dX9_copy_178 : decode cX9_copy 178 = .ok (.iaload, 1) := by decide +kernel
theorem dX9_copy_179 : decode cX9_copy 179 = .ok (.iastore, 1) := by decide +kernel
theorem dX9_copy_180 : decode cX9_copy 180 = .ok (.iinc 6 1, 3) := by decide +kernel
theorem dX9_copy_183 : decode cX9_copy 183 = .ok (.goto (-32), 3) := by decide +kernel
theorem dX9_copy_186 : decode cX9_copy 186 = .ok (.iload 5, 2) := by decide +kernel
theorem dX9_copy_188 : decode cX9_copy 188 = .ok (.ireturn, 1) := by decide +kernel
theorem dX9_lacksStep_0 : decode cX9_lacksStep 0 = .ok (.aload_n 0, 1) := by decide +kernel
theorem dX9_lacksStep_1 : decode cX9_lacksStep 1 = .ok (.iload_n 1, 1) := by decide +kernel
theorem dX9_lacksStep_2 : decode cX9_lacksStep 2 = .ok (.invokevirtual 222, 3) := by decide +kernel
theorem dX9_lacksStep_5 : decode cX9_lacksStep 5 = .ok (.ifCond .ne 7, 3) := by decide +kernel
theorem dX9_lacksStep_8 : decode cX9_lacksStep 8 = .ok (.iconst (-1), 1) := by decide +kernel
theorem dX9_lacksStep_9 : decode cX9_lacksStep 9 = .ok (.goto 33, 3) := by decide +kernel
theorem dX9_lacksStep_12 : decode cX9_lacksStep 12 = .ok (.aload_n 0, 1) := by decide +kernel
theorem dX9_lacksStep_13 : decode cX9_lacksStep 13 = .ok (.getfield 113, 3) := by decide +kernel
theorem dX9_lacksStep_16 : decode cX9_lacksStep 16 = .ok (.iload_n 1, 1) := by decide +kernel
theorem dX9_lacksStep_17 : decode cX9_lacksStep 17 = .ok (.iaload, 1) := by decide +kernel
theorem dX9_lacksStep_18 : decode cX9_lacksStep 18 = .ok (.ifCond .ne 8, 3) := by decide +kernel
theorem dX9_lacksStep_21 : decode cX9_lacksStep 21 = .ok (.bipush (-11), 2) := by decide +kernel
theorem dX9_lacksStep_23 : decode cX9_lacksStep 23 = .ok (.goto 19, 3) := by decide +kernel
theorem dX9_lacksStep_26 : decode cX9_lacksStep 26 = .ok (.aload_n 0, 1) := by decide +kernel
theorem dX9_lacksStep_27 : decode cX9_lacksStep 27 = .ok (.getfield 113, 3) := by decide +kernel
theorem dX9_lacksStep_30 : decode cX9_lacksStep 30 = .ok (.iload_n 1, 1) := by decide +kernel
theorem dX9_lacksStep_31 : decode cX9_lacksStep 31 = .ok (.iaload, 1) := by decide +kernel
theorem dX9_lacksStep_32 : decode cX9_lacksStep 32 = .ok (.iconst 1, 1) := by decide +kernel
theorem dX9_lacksStep_33 : decode cX9_lacksStep 33 = .ok (.if_icmp .eq 8, 3) := by decide +kernel
theorem dX9_lacksStep_36 : decode cX9_lacksStep 36 = .ok (.bipush (-12), 2) := by decide +kernel
theorem dX9_lacksStep_38 : decode cX9_lacksStep 38 = .ok (.goto 4, 3) := by decide +kernel
theorem dX9_lacksStep_41 : decode cX9_lacksStep 41 = .ok (.iconst 0, 1) := by decide +kernel
theorem dX9_lacksStep_42 : decode cX9_lacksStep 42 = .ok (.ireturn, 1) := by decide +kernel
theorem dX9_weight_0 : decode cX9_weight 0 = .ok (.aload_n 0, 1) := by decide +kernel
theorem dX9_weight_1 : decode cX9_weight 1 = .ok (.iload_n 1, 1) := by decide +kernel
theorem dX9_weight_2 : decode cX9_weight 2 = .ok (.invokevirtual 229, 3) := by decide +kernel
theorem dX9_weight_5 : decode cX9_weight 5 = .ok (.ifCond .eq 9, 3) := by decide +kernel
theorem dX9_weight_8 : decode cX9_weight 8 = .ok (.aload_n 0, 1) := by decide +kernel
theorem dX9_weight_9 : decode cX9_weight 9 = .ok (.iload_n 1, 1) := by decide +kernel
theorem dX9_weight_10 : decode cX9_weight 10 = .ok (.invokevirtual 229, 3) := by decide +kernel
theorem dX9_weight_13 : decode cX9_weight 13 = .ok (.ireturn, 1) := by decide +kernel
theorem dX9_weight_14 : decode cX9_weight 14 = .ok (.aload_n 0, 1) := by decide +kernel
theorem dX9_weight_15 : decode cX9_weight 15 = .ok (.getfield 116, 3) := by decide +kernel
theorem dX9_weight_18 : decode cX9_weight 18 = .ok (.iload_n 1, 1) := by decide +kernel
theorem dX9_weight_19 : decode cX9_weight 19 = .ok (.iaload, 1) := by decide +kernel
theorem dX9_weight_20 : decode cX9_weight 20 = .ok (.istore_n 2, 1) := by decide +kernel
theorem dX9_weight_21 : decode cX9_weight 21 = .ok (.bipush 10, 2) := by decide +kernel
theorem dX9_weight_23 : decode cX9_weight 23 = .ok (.iload_n 2, 1) := by decide +kernel
theorem dX9_weight_24 : decode cX9_weight 24 = .ok (.iadd, 1) := by decide +kernel
theorem dX9_weight_25 : decode cX9_weight 25 = .ok (.aload_n 0, 1) := by decide +kernel
theorem dX9_weight_26 : decode cX9_weight 26 = .ok (.iload_n 2, 1) := by decide +kernel
theorem dX9_weight_27 : decode cX9_weight 27 = .ok (.invokevirtual 141, 3) := by decide +kernel
theorem dX9_weight_30 : decode cX9_weight 30 = .ok (.ifCond .eq 12, 3) := by decide +kernel
theorem dX9_weight_33 : decode cX9_weight 33 = .ok (.aload_n 0, 1) := by decide +kernel
theorem dX9_weight_34 : decode cX9_weight 34 = .ok (.getfield 122, 3) := by decide +kernel
theorem dX9_weight_37 : decode cX9_weight 37 = .ok (.iload_n 1, 1) := by decide +kernel
theorem dX9_weight_38 : decode cX9_weight 38 = .ok (.iaload, 1) := by decide +kernel
theorem dX9_weight_39 : decode cX9_weight 39 = .ok (.goto 4, 3) := by decide +kernel
theorem dX9_weight_42 : decode cX9_weight 42 = .ok (.iconst 0, 1) := by decide +kernel
theorem dX9_weight_43 : decode cX9_weight 43 = .ok (.iadd, 1) := by decide +kernel
theorem dX9_weight_44 : decode cX9_weight 44 = .ok (.iload_n 2, 1) := by decide +kernel
theorem dX9_weight_45 : decode cX9_weight 45 = .ok (.iconst 1, 1) := by decide +kernel
theorem dX9_weight_46 : decode cX9_weight 46 = .ok (.if_icmp .ne 8, 3) := by decide +kernel
theorem dX9_weight_49 : decode cX9_weight 49 = .ok (.bipush 100, 2) := by decide +kernel
theorem dX9_weight_51 : decode cX9_weight 51 = .ok (.goto 4, 3) := by decide +kernel
theorem dX9_weight_54 : decode cX9_weight 54 = .ok (.iconst 0, 1) := by decide +kernel
theorem dX9_weight_55 : decode cX9_weight 55 = .ok (.iadd, 1) := by decide +kernel
theorem dX9_weight_56 : decode cX9_weight 56 = .ok (.iload_n 2, 1) := by decide +kernel
theorem dX9_weight_57 : decode cX9_weight 57 = .ok (.iconst 2, 1) := by decide +kernel
theorem dX9_weight_58 : decode cX9_weight 58 = .ok (.if_icmp .eq 8, 3) := by decide +kernel
theorem dX9_weight_61 : decode cX9_weight 61 = .ok (.iload_n 2, 1) := by decide +kernel
theorem dX9_weight_62 : decode cX9_weight 62 = .ok (.iconst 3, 1) := by decide +kernel
theorem dX9_weight_63 : decode cX9_weight 63 = .ok (.if_icmp .ne 9, 3) := by decide +kernel
theorem dX9_weight_66 : decode cX9_weight 66 = .ok (.sipush 1000, 3) := by decide +kernel
theorem dX9_weight_69 : decode cX9_weight 69 = .ok (.goto 4, 3) := by decide +kernel
theorem dX9_weight_72 : decode cX9_weight 72 = .ok (.iconst 0, 1) := by decide +kernel
theorem dX9_weight_73 : decode cX9_weight 73 = .ok (.iadd, 1) := by decide +kernel
theorem dX9_weight_74 : decode cX9_weight 74 = .ok (.aload_n 0, 1) := by decide +kernel
theorem dX9_weight_75 : decode cX9_weight 75 = .ok (.iload_n 2, 1) := by decide +kernel
theorem dX9_weight_76 : decode cX9_weight 76 = .ok (.invokevirtual 148, 3) := by decide +kernel
theorem dX9_weight_79 : decode cX9_weight 79 = .ok (.ifCond .eq 12, 3) := by decide +kernel
theorem dX9_weight_82 : decode cX9_weight 82 = .ok (.aload_n 0, 1) := by decide +kernel
theorem dX9_weight_83 : decode cX9_weight 83 = .ok (.getfield 119, 3) := by decide +kernel
theorem dX9_weight_86 : decode cX9_weight 86 = .ok (.iload_n 1, 1) := by decide +kernel
theorem dX9_weight_87 : decode cX9_weight 87 = .ok (.iaload, 1) := by decide +kernel
theorem dX9_weight_88 : decode cX9_weight 88 = .ok (.goto 4, 3) := by decide +kernel
theorem dX9_weight_91 : decode cX9_weight 91 = .ok (.iconst 0, 1) := by decide +kernel
theorem dX9_weight_92 : decode cX9_weight 92 = .ok (.iadd, 1) := by decide +kernel
theorem dX9_weight_93 : decode cX9_weight 93 = .ok (.istore_n 3, 1) := by decide +kernel
theorem dX9_weight_94 : decode cX9_weight 94 = .ok (.iload_n 2, 1) := by decide +kernel
theorem dX9_weight_95 : decode cX9_weight 95 = .ok (.iconst 3, 1) := by decide +kernel
theorem dX9_weight_96 : decode cX9_weight 96 = .ok (.if_icmp .ne 9, 3) := by decide +kernel
theorem dX9_weight_99 : decode cX9_weight 99 = .ok (.iconst 2, 1) := by decide +kernel
theorem dX9_weight_100 : decode cX9_weight 100 = .ok (.iload_n 3, 1) := by decide +kernel
theorem dX9_weight_101 : decode cX9_weight 101 = .ok (.imul, 1) := by decide +kernel
theorem dX9_weight_102 : decode cX9_weight 102 = .ok (.goto 4, 3) := by decide +kernel
theorem dX9_weight_105 : decode cX9_weight 105 = .ok (.iload_n 3, 1) := by decide +kernel
theorem dX9_weight_106 : decode cX9_weight 106 = .ok (.ireturn, 1) := by decide +kernel
theorem dX9_toss_0 : decode cX9_toss 0 = .ok (.aload_n 0, 1) := by decide +kernel
theorem dX9_toss_1 : decode cX9_toss 1 = .ok (.iload_n 1, 1) := by decide +kernel
theorem dX9_toss_2 : decode cX9_toss 2 = .ok (.invokevirtual 229, 3) := by decide +kernel
theorem dX9_toss_5 : decode cX9_toss 5 = .ok (.ifCond .eq 9, 3) := by decide +kernel
theorem dX9_toss_8 : decode cX9_toss 8 = .ok (.aload_n 0, 1) := by decide +kernel
theorem dX9_toss_9 : decode cX9_toss 9 = .ok (.iload_n 1, 1) := by decide +kernel
theorem dX9_toss_10 : decode cX9_toss 10 = .ok (.invokevirtual 229, 3) := by decide +kernel
theorem dX9_toss_13 : decode cX9_toss 13 = .ok (.ireturn, 1) := by decide +kernel
theorem dX9_toss_14 : decode cX9_toss 14 = .ok (.aload_n 0, 1) := by decide +kernel
theorem dX9_toss_15 : decode cX9_toss 15 = .ok (.aload_n 0, 1) := by decide +kernel
theorem dX9_toss_16 : decode cX9_toss 16 = .ok (.getfield 116, 3) := by decide +kernel
theorem dX9_toss_19 : decode cX9_toss 19 = .ok (.iload_n 1, 1) := by decide +kernel
theorem dX9_toss_20 : decode cX9_toss 20 = .ok (.iaload, 1) := by decide +kernel
theorem dX9_toss_21 : decode cX9_toss 21 = .ok (.invokevirtual 148, 3) := by decide +kernel
theorem dX9_toss_24 : decode cX9_toss 24 = .ok (.ifCond .eq 12, 3) := by decide +kernel
theorem dX9_toss_27 : decode cX9_toss 27 = .ok (.aload_n 0, 1) := by decide +kernel
theorem dX9_toss_28 : decode cX9_toss 28 = .ok (.getfield 119, 3) := by decide +kernel
theorem dX9_toss_31 : decode cX9_toss 31 = .ok (.iload_n 1, 1) := by decide +kernel
theorem dX9_toss_32 : decode cX9_toss 32 = .ok (.iaload, 1) := by decide +kernel
theorem dX9_toss_33 : decode cX9_toss 33 = .ok (.goto 5, 3) := by decide +kernel
theorem dX9_toss_36 : decode cX9_toss 36 = .ok (.bipush (-15), 2) := by decide +kernel
theorem dX9_toss_38 : decode cX9_toss 38 = .ok (.ireturn, 1) := by decide +kernel
