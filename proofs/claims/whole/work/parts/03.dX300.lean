theorem dX3_init_0 : decode cX3_init 0 = .ok (.aload_n 0, 1) := by decide +kernel
theorem dX3_init_1 : decode cX3_init 1 = .ok (.invokespecial 1, 3) := by decide +kernel
theorem dX3_init_4 : decode cX3_init 4 = .ok (.aload_n 0, 1) := by decide +kernel
theorem dX3_init_5 : decode cX3_init 5 = .ok (.iload_n 1, 1) := by decide +kernel
theorem dX3_init_6 : decode cX3_init 6 = .ok (.newarray .byte, 2) := by decide +kernel
theorem dX3_init_8 : decode cX3_init 8 = .ok (.putfield 7, 3) := by decide +kernel
theorem dX3_init_11 : decode cX3_init 11 = .ok (.aload_n 0, 1) := by decide +kernel
theorem dX3_init_12 : decode cX3_init 12 = .ok (.iload_n 1, 1) := by decide +kernel
theorem dX3_init_13 : decode cX3_init 13 = .ok (.newarray .byte, 2) := by decide +kernel
theorem dX3_init_15 : decode cX3_init 15 = .ok (.putfield 13, 3) := by decide +kernel
theorem dX3_init_18 : decode cX3_init 18 = .ok (.aload_n 0, 1) := by decide +kernel
theorem dX3_init_19 : decode cX3_init 19 = .ok (.iload_n 1, 1) := by decide +kernel
theorem dX3_init_20 : decode cX3_init 20 = .ok (.newarray .byte, 2) := by decide +kernel
theorem dX3_init_22 : decode cX3_init 22 = .ok (.putfield 16, 3) := by decide +kernel
theorem dX3_init_25 : decode cX3_init 25 = .ok (.aload_n 0, 1) := by decide +kernel
theorem dX3_init_26 : decode cX3_init 26 = .ok (.iload_n 1, 1) := by decide +kernel
theorem dX3_init_27 : decode cX3_init 27 = .ok (.newarray .byte, 2) := by decide +kernel
theorem dX3_init_29 : decode cX3_init 29 = .ok (.putfield 19, 3) := by decide +kernel
theorem dX3_init_32 : decode cX3_init 32 = .ok (.return_, 1) := by decide +kernel
theorem dX3_lay_0 : decode cX3_lay 0 = .ok (.aload_n 0, 1) := by decide +kernel
theorem dX3_lay_1 : decode cX3_lay 1 = .ok (.getfield 7, 3) := by decide +kernel
theorem dX3_lay_4 : decode cX3_lay 4 = .ok (.iload_n 1, 1) := by decide +kernel
theorem dX3_lay_5 : decode cX3_lay 5 = .ok (.iload_n 2, 1) := by decide +kernel
theorem dX3_lay_6 : decode cX3_lay 6 = .ok (.i2b, 1) := by decide +kernel
theorem dX3_lay_7 : decode cX3_lay 7 = .ok (.bastore, 1) := by decide +kernel
theorem dX3_lay_8 : decode cX3_lay 8 = .ok (.aload_n 0, 1) := by decide +kernel
theorem dX3_lay_9 : decode cX3_lay 9 = .ok (.getfield 13, 3) := by decide +kernel
theorem dX3_lay_12 : decode cX3_lay 12 = .ok (.iload_n 1, 1) := by decide +kernel
theorem dX3_lay_13 : decode cX3_lay 13 = .ok (.iload_n 2, 1) := by decide +kernel
theorem dX3_lay_14 : decode cX3_lay 14 = .ok (.i2b, 1) := by decide +kernel
theorem dX3_lay_15 : decode cX3_lay 15 = .ok (.bastore, 1) := by decide +kernel
theorem dX3_lay_16 : decode cX3_lay 16 = .ok (.aload_n 0, 1) := by decide +kernel
theorem dX3_lay_17 : decode cX3_lay 17 = .ok (.getfield 16, 3) := by decide +kernel
theorem dX3_lay_20 : decode cX3_lay 20 = .ok (.iload_n 1, 1) := by decide +kernel
theorem dX3_lay_21 : decode cX3_lay 21 = .ok (.iload_n 3, 1) := by decide +kernel
theorem dX3_lay_22 : decode cX3_lay 22 = .ok (.i2b, 1) := by decide +kernel
theorem dX3_lay_23 : decode cX3_lay 23 = .ok (.bastore, 1) := by decide +kernel
theorem dX3_lay_24 : decode cX3_lay 24 = .ok (.aload_n 0, 1) := by decide +kernel
theorem dX3_lay_25 : decode cX3_lay 25 = .ok (.getfield 19, 3) := by decide +kernel
theorem dX3_lay_28 : decode cX3_lay 28 = .ok (.iload_n 1, 1) := by decide +kernel
theorem dX3_lay_29 : decode cX3_lay 29 = .ok (.iload 4, 2) := by decide +kernel
theorem dX3_lay_31 : decode cX3_lay 31 = .ok (.i2b, 1) := by decide +kernel
theorem dX3_lay_32 : decode cX3_lay 32 = .ok (.bastore, 1) := by decide +kernel
theorem dX3_lay_33 : decode cX3_lay 33 = .ok (.return_, 1) := by decide +kernel
theorem dX3_isFault_0 : decode cX3_isFault 0 = .ok (.aload_n 0, 1) := by decide +kernel
theorem dX3_isFault_1 : decode cX3_isFault 1 = .ok (.getfield 13, 3) := by decide +kernel
theorem dX3_isFault_4 : decode cX3_isFault 4 = .ok (.iload_n 1, 1) := by decide +kernel
theorem dX3_isFault_5 : decode cX3_isFault 5 = .ok (.baload, 1) := by decide +kernel
theorem dX3_isFault_6 : decode cX3_isFault 6 = .ok (.aload_n 0, 1) := by decide +kernel
theorem dX3_isFault_7 : decode cX3_isFault 7 = .ok (.getfield 7, 3) := by decide +kernel
theorem dX3_isFault_10 : decode cX3_isFault 10 = .ok (.iload_n 1, 1) := by decide +kernel
theorem dX3_isFault_11 : decode cX3_isFault 11 = .ok (.baload, 1) := by decide +kernel
theorem dX3_isFault_12 : decode cX3_isFault 12 = .ok (.if_icmp .eq 7, 3) := by decide +kernel
theorem dX3_isFault_15 : decode cX3_isFault 15 = .ok (.iconst 1, 1) := by decide +kernel
theorem dX3_isFault_16 : decode cX3_isFault 16 = .ok (.goto 4, 3) := by decide +kernel
theorem dX3_isFault_19 : decode cX3_isFault 19 = .ok (.iconst 0, 1) := by decide +kernel
theorem dX3_isFault_20 : decode cX3_isFault 20 = .ok (.ireturn, 1) := by decide +kernel
