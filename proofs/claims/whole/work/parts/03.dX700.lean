theorem dX7_init_0 : decode cX7_init 0 = .ok (.aload_n 0, 1) := by decide +kernel
theorem dX7_init_1 : decode cX7_init 1 = .ok (.invokespecial 3, 3) := by decide +kernel
theorem dX7_init_4 : decode cX7_init 4 = .ok (.aload_n 0, 1) := by decide +kernel
theorem dX7_init_5 : decode cX7_init 5 = .ok (.bipush 10, 2) := by decide +kernel
theorem dX7_init_7 : decode cX7_init 7 = .ok (.newarray .int, 2) := by decide +kernel
theorem dX7_init_9 : decode cX7_init 9 = .ok (.putfield 9, 3) := by decide +kernel
theorem dX7_init_12 : decode cX7_init 12 = .ok (.aload_n 0, 1) := by decide +kernel
theorem dX7_init_13 : decode cX7_init 13 = .ok (.bipush 10, 2) := by decide +kernel
theorem dX7_init_15 : decode cX7_init 15 = .ok (.newarray .int, 2) := by decide +kernel
theorem dX7_init_17 : decode cX7_init 17 = .ok (.putfield 15, 3) := by decide +kernel
theorem dX7_init_20 : decode cX7_init 20 = .ok (.return_, 1) := by decide +kernel
theorem dX7_addLot_0 : decode cX7_addLot 0 = .ok (.aload_n 0, 1) := by decide +kernel
theorem dX7_addLot_1 : decode cX7_addLot 1 = .ok (.getfield 18, 3) := by decide +kernel
theorem dX7_addLot_4 : decode cX7_addLot 4 = .ok (.bipush 10, 2) := by decide +kernel
theorem dX7_addLot_6 : decode cX7_addLot 6 = .ok (.if_icmp .lt 6, 3) := by decide +kernel
theorem dX7_addLot_9 : decode cX7_addLot 9 = .ok (.bipush (-2), 2) := by decide +kernel
theorem dX7_addLot_11 : decode cX7_addLot 11 = .ok (.ireturn, 1) := by decide +kernel
theorem dX7_addLot_12 : decode cX7_addLot 12 = .ok (.aload_n 0, 1) := by decide +kernel
theorem dX7_addLot_13 : decode cX7_addLot 13 = .ok (.getfield 9, 3) := by decide +kernel
theorem dX7_addLot_16 : decode cX7_addLot 16 = .ok (.aload_n 0, 1) := by decide +kernel
theorem dX7_addLot_17 : decode cX7_addLot 17 = .ok (.getfield 18, 3) := by decide +kernel
theorem dX7_addLot_20 : decode cX7_addLot 20 = .ok (.iload_n 1, 1) := by decide +kernel
theorem dX7_addLot_21 : decode cX7_addLot 21 = .ok (.iastore, 1) := by decide +kernel
theorem dX7_addLot_22 : decode cX7_addLot 22 = .ok (.aload_n 0, 1) := by decide +kernel
theorem dX7_addLot_23 : decode cX7_addLot 23 = .ok (.getfield 15, 3) := by decide +kernel
theorem dX7_addLot_26 : decode cX7_addLot 26 = .ok (.aload_n 0, 1) := by decide +kernel
theorem dX7_addLot_27 : decode cX7_addLot 27 = .ok (.getfield 18, 3) := by decide +kernel
theorem dX7_addLot_30 : decode cX7_addLot 30 = .ok (.iload_n 2, 1) := by decide +kernel
theorem dX7_addLot_31 : decode cX7_addLot 31 = .ok (.iastore, 1) := by decide +kernel
theorem dX7_addLot_32 : decode cX7_addLot 32 = .ok (.aload_n 0, 1) := by decide +kernel
theorem dX7_addLot_33 : decode cX7_addLot 33 = .ok (.dup, 1) := by decide +kernel
theorem dX7_addLot_34 : decode cX7_addLot 34 = .ok (.getfield 18, 3) := by decide +kernel
theorem dX7_addLot_37 : decode cX7_addLot 37 = .ok (.iconst 1, 1) := by decide +kernel
theorem dX7_addLot_38 : decode cX7_addLot 38 = .ok (.iadd, 1) := by decide +kernel
theorem dX7_addLot_39 : decode cX7_addLot 39 = .ok (.putfield 18, 3) := by decide +kernel
theorem dX7_addLot_42 : decode cX7_addLot 42 = .ok (.aload_n 0, 1) := by decide +kernel
theorem dX7_addLot_43 : decode cX7_addLot 43 = .ok (.getfield 18, 3) := by decide +kernel
theorem dX7_addLot_46 : decode cX7_addLot 46 = .ok (.ireturn, 1) := by decide +kernel
theorem dX7_leftInAll_0 : decode cX7_leftInAll 0 = .ok (.iconst 0, 1) := by decide +kernel
theorem dX7_leftInAll_1 : decode cX7_leftInAll 1 = .ok (.istore_n 1, 1) := by decide +kernel
theorem dX7_leftInAll_2 : decode cX7_leftInAll 2 = .ok (.iconst 0, 1) := by decide +kernel
theorem dX7_leftInAll_3 : decode cX7_leftInAll 3 = .ok (.istore_n 2, 1) := by decide +kernel
theorem dX7_leftInAll_4 : decode cX7_leftInAll 4 = .ok (.iload_n 2, 1) := by decide +kernel
theorem dX7_leftInAll_5 : decode cX7_leftInAll 5 = .ok (.aload_n 0, 1) := by decide +kernel
theorem dX7_leftInAll_6 : decode cX7_leftInAll 6 = .ok (.getfield 18, 3) := by decide +kernel
theorem dX7_leftInAll_9 : decode cX7_leftInAll 9 = .ok (.if_icmp .ge 18, 3) := by decide +kernel
theorem dX7_leftInAll_12 : decode cX7_leftInAll 12 = .ok (.iload_n 1, 1) := by decide +kernel
theorem dX7_leftInAll_13 : decode cX7_leftInAll 13 = .ok (.aload_n 0, 1) := by decide +kernel
theorem dX7_leftInAll_14 : decode cX7_leftInAll 14 = .ok (.getfield 15, 3) := by decide +kernel
theorem dX7_leftInAll_17 : decode cX7_leftInAll 17 = .ok (.iload_n 2, 1) := by decide +kernel
theorem dX7_leftInAll_18 : decode cX7_leftInAll 18 = .ok (.iaload, 1) := by decide +kernel
theorem dX7_leftInAll_19 : decode cX7_leftInAll 19 = .ok (.iadd, 1) := by decide +kernel
theorem dX7_leftInAll_20 : decode cX7_leftInAll 20 = .ok (.istore_n 1, 1) := by decide +kernel
theorem dX7_leftInAll_21 : decode cX7_leftInAll 21 = .ok (.iinc 2 1, 3) := by decide +kernel
theorem dX7_leftInAll_24 : decode cX7_leftInAll 24 = .ok (.goto (-20), 3) := by decide +kernel
theorem dX7_leftInAll_27 : decode cX7_leftInAll 27 = .ok (.iload_n 1, 1) := by decide +kernel
theorem dX7_leftInAll_28 : decode cX7_leftInAll 28 = .ok (.ireturn, 1) := by decide +kernel
theorem dX7_take_0 : decode cX7_take 0 = .ok (.iconst 0, 1) := by decide +kernel
theorem dX7_take_1 : decode cX7_take 1 = .ok (.istore_n 1, 1) := by decide +kernel
theorem dX7_take_2 : decode cX7_take 2 = .ok (.iload_n 1, 1) := by decide +kernel
theorem dX7_take_3 : decode cX7_take 3 = .ok (.aload_n 0, 1) := by decide +kernel
theorem dX7_take_4 : decode cX7_take 4 = .ok (.getfield 18, 3) := by decide +kernel
theorem dX7_take_7 : decode cX7_take 7 = .ok (.if_icmp .ge 35, 3) := by decide +kernel
theorem dX7_take_10 : decode cX7_take 10 = .ok (.aload_n 0, 1) := by decide +kernel
theorem dX7_take_11 : decode cX7_take 11 = .ok (.getfield 15, 3) := by decide +kernel
theorem dX7_take_14 : decode cX7_take 14 = .ok (.iload_n 1, 1) := by decide +kernel
theorem dX7_take_15 : decode cX7_take 15 = .ok (.iaload, 1) := by decide +kernel
theorem dX7_take_16 : decode cX7_take 16 = .ok (.ifCond .le 20, 3) := by decide +kernel
theorem dX7_take_19 : decode cX7_take 19 = .ok (.aload_n 0, 1) := by decide +kernel
theorem dX7_take_20 : decode cX7_take 20 = .ok (.getfield 15, 3) := by decide +kernel
theorem dX7_take_23 : decode cX7_take 23 = .ok (.iload_n 1, 1) := by decide +kernel
theorem dX7_take_24 : decode cX7_take 24 = .ok (.dup2, 1) := by decide +kernel
theorem dX7_take_25 : decode cX7_take 25 = .ok (.iaload, 1) := by decide +kernel
theorem dX7_take_26 : decode cX7_take 26 = .ok (.iconst 1, 1) := by decide +kernel
theorem dX7_take_27 : decode cX7_take 27 = .ok (.isub, 1) := by decide +kernel
theorem dX7_take_28 : decode cX7_take 28 = .ok (.iastore, 1) := by decide +kernel
theorem dX7_take_29 : decode cX7_take 29 = .ok (.aload_n 0, 1) := by decide +kernel
theorem dX7_take_30 : decode cX7_take 30 = .ok (.getfield 9, 3) := by decide +kernel
theorem dX7_take_33 : decode cX7_take 33 = .ok (.iload_n 1, 1) := by decide +kernel
theorem dX7_take_34 : decode cX7_take 34 = .ok (.iaload, 1) := by decide +kernel
theorem dX7_take_35 : decode cX7_take 35 = .ok (.ireturn, 1) := by decide +kernel
theorem dX7_take_36 : decode cX7_take 36 = .ok (.iinc 1 1, 3) := by decide +kernel
theorem dX7_take_39 : decode cX7_take 39 = .ok (.goto (-37), 3) := by decide +kernel
theorem dX7_take_42 : decode cX7_take 42 = .ok (.iconst 0, 1) := by decide +kernel
theorem dX7_take_43 : decode cX7_take 43 = .ok (.ireturn, 1) := by decide +kernel
