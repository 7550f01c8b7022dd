theorem dX4_init_0 : decode cX4_init 0 = .ok (.aload_n 0, 1) := by decide +kernel
theorem dX4_init_1 : decode cX4_init 1 = .ok (.invokespecial 3, 3) := by decide +kernel
theorem dX4_init_4 : decode cX4_init 4 = .ok (.aload_n 0, 1) := by decide +kernel
theorem dX4_init_5 : decode cX4_init 5 = .ok (.bipush 60, 2) := by decide +kernel
theorem dX4_init_7 : decode cX4_init 7 = .ok (.newarray .short, 2) := by decide +kernel
theorem dX4_init_9 : decode cX4_init 9 = .ok (.putfield 9, 3) := by decide +kernel
theorem dX4_init_12 : decode cX4_init 12 = .ok (.aload_n 0, 1) := by decide +kernel
theorem dX4_init_13 : decode cX4_init 13 = .ok (.iconst 0, 1) := by decide +kernel
theorem dX4_init_14 : decode cX4_init 14 = .ok (.putfield 15, 3) := by decide +kernel
theorem dX4_init_17 : decode cX4_init 17 = .ok (.return_, 1) := by decide +kernel
theorem dX4_holdNothing_0 : decode cX4_holdNothing 0 = .ok (.aload_n 0, 1) := by decide +kernel
theorem dX4_holdNothing_1 : decode cX4_holdNothing 1 = .ok (.iconst 0, 1) := by decide +kernel
theorem dX4_holdNothing_2 : decode cX4_holdNothing 2 = .ok (.putfield 15, 3) := by decide +kernel
theorem dX4_holdNothing_5 : decode cX4_holdNothing 5 = .ok (.aload_n 0, 1) := by decide +kernel
theorem dX4_holdNothing_6 : decode cX4_holdNothing 6 = .ok (.iconst 0, 1) := by decide +kernel
theorem dX4_holdNothing_7 : decode cX4_holdNothing 7 = .ok (.putfield 19, 3) := by decide +kernel
theorem dX4_holdNothing_10 : decode cX4_holdNothing 10 = .ok (.aload_n 0, 1) := by decide +kernel
theorem dX4_holdNothing_11 : decode cX4_holdNothing 11 = .ok (.aconst_null, 1) := by decide +kernel
theorem dX4_holdNothing_12 : decode cX4_holdNothing 12 = .ok (.putfield 22, 3) := by decide +kernel
theorem dX4_holdNothing_15 : decode cX4_holdNothing 15 = .ok (.return_, 1) := by decide +kernel
theorem dX4_holdStep_0 : decode cX4_holdStep 0 = .ok (.aload_n 0, 1) := by decide +kernel
theorem dX4_holdStep_1 : decode cX4_holdStep 1 = .ok (.iconst 1, 1) := by decide +kernel
theorem dX4_holdStep_2 : decode cX4_holdStep 2 = .ok (.putfield 15, 3) := by decide +kernel
theorem dX4_holdStep_5 : decode cX4_holdStep 5 = .ok (.aload_n 0, 1) := by decide +kernel
theorem dX4_holdStep_6 : decode cX4_holdStep 6 = .ok (.iconst 0, 1) := by decide +kernel
theorem dX4_holdStep_7 : decode cX4_holdStep 7 = .ok (.putfield 19, 3) := by decide +kernel
theorem dX4_holdStep_10 : decode cX4_holdStep 10 = .ok (.aload_n 0, 1) := by decide +kernel
theorem dX4_holdStep_11 : decode cX4_holdStep 11 = .ok (.aload_n 1, 1) := by decide +kernel
theorem dX4_holdStep_12 : decode cX4_holdStep 12 = .ok (.putfield 22, 3) := by decide +kernel
theorem dX4_holdStep_15 : decode cX4_holdStep 15 = .ok (.return_, 1) := by decide +kernel
theorem dX4_holdZeros_0 : decode cX4_holdZeros 0 = .ok (.aload_n 0, 1) := by decide +kernel
theorem dX4_holdZeros_1 : decode cX4_holdZeros 1 = .ok (.iload_n 1, 1) := by decide +kernel
theorem dX4_holdZeros_2 : decode cX4_holdZeros 2 = .ok (.putfield 15, 3) := by decide +kernel
theorem dX4_holdZeros_5 : decode cX4_holdZeros 5 = .ok (.aload_n 0, 1) := by decide +kernel
theorem dX4_holdZeros_6 : decode cX4_holdZeros 6 = .ok (.iconst 0, 1) := by decide +kernel
theorem dX4_holdZeros_7 : decode cX4_holdZeros 7 = .ok (.iload_n 2, 1) := by decide +kernel
theorem dX4_holdZeros_8 : decode cX4_holdZeros 8 = .ok (.aload_n 0, 1) := by decide +kernel
theorem dX4_holdZeros_9 : decode cX4_holdZeros 9 = .ok (.getfield 9, 3) := by decide +kernel
theorem dX4_holdZeros_12 : decode cX4_holdZeros 12 = .ok (.arraylength, 1) := by decide +kernel
theorem dX4_holdZeros_13 : decode cX4_holdZeros 13 = .ok (.invokestatic 26, 3) := by decide +kernel
theorem dX4_holdZeros_16 : decode cX4_holdZeros 16 = .ok (.invokestatic 32, 3) := by decide +kernel
theorem dX4_holdZeros_19 : decode cX4_holdZeros 19 = .ok (.putfield 19, 3) := by decide +kernel
theorem dX4_holdZeros_22 : decode cX4_holdZeros 22 = .ok (.aload_n 0, 1) := by decide +kernel
theorem dX4_holdZeros_23 : decode cX4_holdZeros 23 = .ok (.aconst_null, 1) := by decide +kernel
theorem dX4_holdZeros_24 : decode cX4_holdZeros 24 = .ok (.putfield 22, 3) := by decide +kernel
theorem dX4_holdZeros_27 : decode cX4_holdZeros 27 = .ok (.iconst 0, 1) := by decide +kernel
theorem dX4_holdZeros_28 : decode cX4_holdZeros 28 = .ok (.istore_n 3, 1) := by decide +kernel
theorem dX4_holdZeros_29 : decode cX4_holdZeros 29 = .ok (.iload_n 3, 1) := by decide +kernel
theorem dX4_holdZeros_30 : decode cX4_holdZeros 30 = .ok (.aload_n 0, 1) := by decide +kernel
theorem dX4_holdZeros_31 : decode cX4_holdZeros 31 = .ok (.getfield 19, 3) := by decide +kernel
theorem dX4_holdZeros_34 : decode cX4_holdZeros 34 = .ok (.if_icmp .ge 16, 3) := by decide +kernel
theorem dX4_holdZeros_37 : decode cX4_holdZeros 37 = .ok (.aload_n 0, 1) := by decide +kernel
theorem dX4_holdZeros_38 : decode cX4_holdZeros 38 = .ok (.getfield 9, 3) := by decide +kernel
theorem dX4_holdZeros_41 : decode cX4_holdZeros 41 = .ok (.iload_n 3, 1) := by decide +kernel
theorem dX4_holdZeros_42 : decode cX4_holdZeros 42 = .ok (.iconst 0, 1) := by decide +kernel
theorem dX4_holdZeros_43 : decode cX4_holdZeros 43 = .ok (.sastore, 1) := by decide +kernel
theorem dX4_holdZeros_44 : decode cX4_holdZeros 44 = .ok (.iinc 3 1, 3) := by decide +kernel
theorem dX4_holdZeros_47 : decode cX4_holdZeros 47 = .ok (.goto (-18), 3) := by decide +kernel
theorem dX4_holdZeros_50 : decode cX4_holdZeros 50 = .ok (.return_, 1) := by decide +kernel
theorem dX4_holdsRow_0 : decode cX4_holdsRow 0 = .ok (.aload_n 0, 1) := by decide +kernel
theorem dX4_holdsRow_1 : decode cX4_holdsRow 1 = .ok (.getfield 15, 3) := by decide +kernel
theorem dX4_holdsRow_4 : decode cX4_holdsRow 4 = .ok (.iconst 3, 1) := by decide +kernel
theorem dX4_holdsRow_5 : decode cX4_holdsRow 5 = .ok (.if_icmp .eq 11, 3) := by decide +kernel
theorem dX4_holdsRow_8 : decode cX4_holdsRow 8 = .ok (.aload_n 0, 1) := by decide +kernel
theorem dX4_holdsRow_9 : decode cX4_holdsRow 9 = .ok (.getfield 15, 3) := by decide +kernel
theorem dX4_holdsRow_12 : decode cX4_holdsRow 12 = .ok (.iconst 4, 1) := by decide +kernel
theorem dX4_holdsRow_13 : decode cX4_holdsRow 13 = .ok (.if_icmp .ne 7, 3) := by decide +kernel
theorem dX4_holdsRow_16 : decode cX4_holdsRow 16 = .ok (.iconst 1, 1) := by decide +kernel
theorem dX4_holdsRow_17 : decode cX4_holdsRow 17 = .ok (.goto 4, 3) := by decide +kernel
theorem dX4_holdsRow_20 : decode cX4_holdsRow 20 = .ok (.iconst 0, 1) := by decide +kernel
theorem dX4_holdsRow_21 : decode cX4_holdsRow 21 = .ok (.ireturn, 1) := by decide +kernel
theorem dX4_hasPlaces_0 : decode cX4_hasPlaces 0 = .ok (.iload_n 2, 1) := by decide +kernel
theorem dX4_hasPlaces_1 : decode cX4_hasPlaces 1 = .ok (.ifCond .lt 29, 3) := by decide +kernel
theorem dX4_hasPlaces_4 : decode cX4_hasPlaces 4 = .ok (.iload_n 2, 1) := by decide +kernel
theorem dX4_hasPlaces_5 : decode cX4_hasPlaces 5 = .ok (.aload_n 0, 1) := by decide +kernel
theorem dX4_hasPlaces_6 : decode cX4_hasPlaces 6 = .ok (.getfield 19, 3) := by decide +kernel
theorem dX4_hasPlaces_9 : decode cX4_hasPlaces 9 = .ok (.if_icmp .gt 21, 3) := by decide +kernel
theorem dX4_hasPlaces_12 : decode cX4_hasPlaces 12 = .ok (.iload_n 1, 1) := by decide +kernel
theorem dX4_hasPlaces_13 : decode cX4_hasPlaces 13 = .ok (.ifCond .lt 17, 3) := by decide +kernel
theorem dX4_hasPlaces_16 : decode cX4_hasPlaces 16 = .ok (.iload_n 1, 1) := by decide +kernel
theorem dX4_hasPlaces_17 : decode cX4_hasPlaces 17 = .ok (.aload_n 0, 1) := by decide +kernel
theorem dX4_hasPlaces_18 : decode cX4_hasPlaces 18 = .ok (.getfield 19, 3) := by decide +kernel
theorem dX4_hasPlaces_21 : decode cX4_hasPlaces 21 = .ok (.iload_n 2, 1) := by decide +kernel
theorem dX4_hasPlaces_22 : decode cX4_hasPlaces 22 = .ok (.isub, 1) := by decide +kernel
theorem dX4_hasPlaces_23 : decode cX4_hasPlaces 23 = .ok (.if_icmp .gt 7, 3) := by decide +kernel
theorem dX4_hasPlaces_26 : decode cX4_hasPlaces 26 = .ok (.iconst 1, 1) := by decide +kernel
theorem dX4_hasPlaces_27 : decode cX4_hasPlaces 27 = .ok (.goto 4, 3) := by decide +kernel
theorem dX4_hasPlaces_30 : decode cX4_hasPlaces 30 = .ok (.iconst 0, 1) := by decide +kernel
theorem dX4_hasPlaces_31 : decode cX4_hasPlaces 31 = .ok (.ireturn, 1) := by decide +kernel
