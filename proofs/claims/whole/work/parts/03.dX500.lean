theorem dX5_init_0 : decode cX5_init 0 = .ok (.aload_n 0, 1) := by decide +kernel
theorem dX5_init_1 : decode cX5_init 1 = .ok (.invokespecial 3, 3) := by decide +kernel
theorem dX5_init_4 : decode cX5_init 4 = .ok (.aload_n 0, 1) := by decide +kernel
theorem dX5_init_5 : decode cX5_init 5 = .ok (.iload_n 1, 1) := by decide +kernel
theorem dX5_init_6 : decode cX5_init 6 = .ok (.putfield 9, 3) := by decide +kernel
theorem dX5_init_9 : decode cX5_init 9 = .ok (.aload_n 0, 1) := by decide +kernel
theorem dX5_init_10 : decode cX5_init 10 = .ok (.iload_n 2, 1) := by decide +kernel
theorem dX5_init_11 : decode cX5_init 11 = .ok (.putfield 15, 3) := by decide +kernel
theorem dX5_init_14 : decode cX5_init 14 = .ok (.aload_n 0, 1) := by decide +kernel
theorem dX5_init_15 : decode cX5_init 15 = .ok (.iload_n 3, 1) := by decide +kernel
theorem dX5_init_16 : decode cX5_init 16 = .ok (.putfield 18, 3) := by decide +kernel
theorem dX5_init_19 : decode cX5_init 19 = .ok (.return_, 1) := by decide +kernel
theorem dX5_hasN_0 : decode cX5_hasN 0 = .ok (.aload_n 0, 1) := by decide +kernel
theorem dX5_hasN_1 : decode cX5_hasN 1 = .ok (.getfield 9, 3) := by decide +kernel
theorem dX5_hasN_4 : decode cX5_hasN 4 = .ok (.iconst 1, 1) := by decide +kernel
theorem dX5_hasN_5 : decode cX5_hasN 5 = .ok (.if_icmp .eq 15, 3) := by decide +kernel
theorem dX5_hasN_8 : decode cX5_hasN 8 = .ok (.aload_n 0, 1) := by decide +kernel
theorem dX5_hasN_9 : decode cX5_hasN 9 = .ok (.getfield 9, 3) := by decide +kernel
theorem dX5_hasN_12 : decode cX5_hasN 12 = .ok (.iconst 2, 1) := by decide +kernel
theorem dX5_hasN_13 : decode cX5_hasN 13 = .ok (.if_icmp .eq 7, 3) := by decide +kernel
theorem dX5_hasN_16 : decode cX5_hasN 16 = .ok (.iconst 1, 1) := by decide +kernel
theorem dX5_hasN_17 : decode cX5_hasN 17 = .ok (.goto 4, 3) := by decide +kernel
theorem dX5_hasN_20 : decode cX5_hasN 20 = .ok (.iconst 0, 1) := by decide +kernel
theorem dX5_hasN_21 : decode cX5_hasN 21 = .ok (.ireturn, 1) := by decide +kernel
theorem dX5_hasColour_0 : decode cX5_hasColour 0 = .ok (.aload_n 0, 1) := by decide +kernel
theorem dX5_hasColour_1 : decode cX5_hasColour 1 = .ok (.getfield 9, 3) := by decide +kernel
theorem dX5_hasColour_4 : decode cX5_hasColour 4 = .ok (.ifCond .eq 11, 3) := by decide +kernel
theorem dX5_hasColour_7 : decode cX5_hasColour 7 = .ok (.aload_n 0, 1) := by decide +kernel
theorem dX5_hasColour_8 : decode cX5_hasColour 8 = .ok (.getfield 9, 3) := by decide +kernel
theorem dX5_hasColour_11 : decode cX5_hasColour 11 = .ok (.iconst 1, 1) := by decide +kernel
theorem dX5_hasColour_12 : decode cX5_hasColour 12 = .ok (.if_icmp .ne 7, 3) := by decide +kernel
theorem dX5_hasColour_15 : decode cX5_hasColour 15 = .ok (.iconst 1, 1) := by decide +kernel
theorem dX5_hasColour_16 : decode cX5_hasColour 16 = .ok (.goto 4, 3) := by decide +kernel
theorem dX5_hasColour_19 : decode cX5_hasColour 19 = .ok (.iconst 0, 1) := by decide +kernel
theorem dX5_hasColour_20 : decode cX5_hasColour 20 = .ok (.ireturn, 1) := by decide +kernel
theorem dX5_heft_0 : decode cX5_heft 0 = .ok (.bipush 10, 2) := by decide +kernel
theorem dX5_heft_2 : decode cX5_heft 2 = .ok (.aload_n 0, 1) := by decide +kernel
theorem dX5_heft_3 : decode cX5_heft 3 = .ok (.getfield 9, 3) := by decide +kernel
theorem dX5_heft_6 : decode cX5_heft 6 = .ok (.iadd, 1) := by decide +kernel
theorem dX5_heft_7 : decode cX5_heft 7 = .ok (.istore_n 1, 1) := by decide +kernel
theorem dX5_heft_8 : decode cX5_heft 8 = .ok (.aload_n 0, 1) := by decide +kernel
theorem dX5_heft_9 : decode cX5_heft 9 = .ok (.invokevirtual 21, 3) := by decide +kernel
theorem dX5_heft_12 : decode cX5_heft 12 = .ok (.ifCond .eq 10, 3) := by decide +kernel
theorem dX5_heft_15 : decode cX5_heft 15 = .ok (.iload_n 1, 1) := by decide +kernel
theorem dX5_heft_16 : decode cX5_heft 16 = .ok (.aload_n 0, 1) := by decide +kernel
theorem dX5_heft_17 : decode cX5_heft 17 = .ok (.getfield 18, 3) := by decide +kernel
theorem dX5_heft_20 : decode cX5_heft 20 = .ok (.iadd, 1) := by decide +kernel
theorem dX5_heft_21 : decode cX5_heft 21 = .ok (.istore_n 1, 1) := by decide +kernel
theorem dX5_heft_22 : decode cX5_heft 22 = .ok (.aload_n 0, 1) := by decide +kernel
theorem dX5_heft_23 : decode cX5_heft 23 = .ok (.invokevirtual 25, 3) := by decide +kernel
theorem dX5_heft_26 : decode cX5_heft 26 = .ok (.ifCond .eq 10, 3) := by decide +kernel
theorem dX5_heft_29 : decode cX5_heft 29 = .ok (.iload_n 1, 1) := by decide +kernel
theorem dX5_heft_30 : decode cX5_heft 30 = .ok (.aload_n 0, 1) := by decide +kernel
theorem dX5_heft_31 : decode cX5_heft 31 = .ok (.getfield 15, 3) := by decide +kernel
theorem dX5_heft_34 : decode cX5_heft 34 = .ok (.iadd, 1) := by decide +kernel
theorem dX5_heft_35 : decode cX5_heft 35 = .ok (.istore_n 1, 1) := by decide +kernel
theorem dX5_heft_36 : decode cX5_heft 36 = .ok (.aload_n 0, 1) := by decide +kernel
theorem dX5_heft_37 : decode cX5_heft 37 = .ok (.getfield 9, 3) := by decide +kernel
theorem dX5_heft_40 : decode cX5_heft 40 = .ok (.tableswitch 47 1 3 #[28, 33, 39], 28) := by decide +kernel
theorem dX5_heft_68 : decode cX5_heft 68 = .ok (.iload_n 1, 1) := by decide +kernel
theorem dX5_heft_69 : decode cX5_heft 69 = .ok (.bipush 100, 2) := by decide +kernel
theorem dX5_heft_71 : decode cX5_heft 71 = .ok (.iadd, 1) := by decide +kernel
theorem dX5_heft_72 : decode cX5_heft 72 = .ok (.ireturn, 1) := by decide +kernel
theorem dX5_heft_73 : decode cX5_heft 73 = .ok (.iload_n 1, 1) := by decide +kernel
theorem dX5_heft_74 : decode cX5_heft 74 = .ok (.sipush 1000, 3) := by decide +kernel
theorem dX5_heft_77 : decode cX5_heft 77 = .ok (.iadd, 1) := by decide +kernel
theorem dX5_heft_78 : decode cX5_heft 78 = .ok (.ireturn, 1) := by decide +kernel
theorem dX5_heft_79 : decode cX5_heft 79 = .ok (.iconst 2, 1) := by decide +kernel
theorem dX5_heft_80 : decode cX5_heft 80 = .ok (.iload_n 1, 1) := by decide +kernel
theorem dX5_heft_81 : decode cX5_heft 81 = .ok (.sipush 1000, 3) := by decide +kernel
theorem dX5_heft_84 : decode cX5_heft 84 = .ok (.iadd, 1) := by decide +kernel
theorem dX5_heft_85 : decode cX5_heft 85 = .ok (.imul, 1) := by decide +kernel
theorem dX5_heft_86 : decode cX5_heft 86 = .ok (.ireturn, 1) := by decide +kernel
theorem dX5_heft_87 : decode cX5_heft 87 = .ok (.iload_n 1, 1) := by decide +kernel
theorem dX5_heft_88 : decode cX5_heft 88 = .ok (.ireturn, 1) := by decide +kernel
theorem dX5_fail_0 : decode cX5_fail 0 = .ok (.aload_n 0, 1) := by decide +kernel
theorem dX5_fail_1 : decode cX5_fail 1 = .ok (.invokevirtual 25, 3) := by decide +kernel
theorem dX5_fail_4 : decode cX5_fail 4 = .ok (.ifCond .eq 13, 3) := by decide +kernel
theorem dX5_fail_7 : decode cX5_fail 7 = .ok (.new 28, 3) := by decide +kernel
theorem dX5_fail_10 : decode cX5_fail 10 = .ok (.dup, 1) := by decide +kernel
theorem dX5_fail_11 : decode cX5_fail 11 = .ok (.ldc 30, 2) := by decide +kernel
theorem dX5_fail_13 : decode cX5_fail 13 = .ok (.invokespecial 32, 3) := by decide +kernel
theorem dX5_fail_16 : decode cX5_fail 16 = .ok (.athrow, 1) := by decide +kernel
theorem dX5_fail_17 : decode cX5_fail 17 = .ok (.return_, 1) := by decide +kernel
