theorem dX0_init_0 : decode cX0_init 0 = .ok (.aload_n 0, 1) := by decide +kernel
theorem dX0_init_1 : decode cX0_init 1 = .ok (.invokespecial 3, 3) := by decide +kernel
theorem dX0_init_4 : decode cX0_init 4 = .ok (.aload_n 0, 1) := by decide +kernel
theorem dX0_init_5 : decode cX0_init 5 = .ok (.bipush 15, 2) := by decide +kernel
theorem dX0_init_7 : decode cX0_init 7 = .ok (.newarray .int, 2) := by decide +kernel
theorem dX0_init_9 : decode cX0_init 9 = .ok (.putfield 9, 3) := by decide +kernel
theorem dX0_init_12 : decode cX0_init 12 = .ok (.aload_n 0, 1) := by decide +kernel
theorem dX0_init_13 : decode cX0_init 13 = .ok (.bipush 15, 2) := by decide +kernel
theorem dX0_init_15 : decode cX0_init 15 = .ok (.newarray .boolean, 2) := by decide +kernel
theorem dX0_init_17 : decode cX0_init 17 = .ok (.putfield 15, 3) := by decide +kernel
theorem dX0_init_20 : decode cX0_init 20 = .ok (.aload_n 0, 1) := by decide +kernel
theorem dX0_init_21 : decode cX0_init 21 = .ok (.iconst 0, 1) := by decide +kernel
theorem dX0_init_22 : decode cX0_init 22 = .ok (.putfield 19, 3) := by decide +kernel
theorem dX0_init_25 : decode cX0_init 25 = .ok (.return_, 1) := by decide +kernel
theorem dX0_size_0 : decode cX0_size 0 = .ok (.aload_n 0, 1) := by decide +kernel
theorem dX0_size_1 : decode cX0_size 1 = .ok (.getfield 19, 3) := by decide +kernel
theorem dX0_size_4 : decode cX0_size 4 = .ok (.ireturn, 1) := by decide +kernel
theorem dX0_clear_0 : decode cX0_clear 0 = .ok (.aload_n 0, 1) := by decide +kernel
theorem dX0_clear_1 : decode cX0_clear 1 = .ok (.iconst 0, 1) := by decide +kernel
theorem dX0_clear_2 : decode cX0_clear 2 = .ok (.putfield 19, 3) := by decide +kernel
theorem dX0_clear_5 : decode cX0_clear 5 = .ok (.return_, 1) := by decide +kernel
theorem dX0_add_0 : decode cX0_add 0 = .ok (.aload_n 0, 1) := by decide +kernel
theorem dX0_add_1 : decode cX0_add 1 = .ok (.getfield 19, 3) := by decide +kernel
theorem dX0_add_4 : decode cX0_add 4 = .ok (.bipush 15, 2) := by decide +kernel
theorem dX0_add_6 : decode cX0_add 6 = .ok (.if_icmp .lt 5, 3) := by decide +kernel
theorem dX0_add_9 : decode cX0_add 9 = .ok (.iconst 0, 1) := by decide +kernel
theorem dX0_add_10 : decode cX0_add 10 = .ok (.ireturn, 1) := by decide +kernel
theorem dX0_add_11 : decode cX0_add 11 = .ok (.aload_n 0, 1) := by decide +kernel
theorem dX0_add_12 : decode cX0_add 12 = .ok (.getfield 9, 3) := by decide +kernel
theorem dX0_add_15 : decode cX0_add 15 = .ok (.aload_n 0, 1) := by decide +kernel
theorem dX0_add_16 : decode cX0_add 16 = .ok (.getfield 19, 3) := by decide +kernel
theorem dX0_add_19 : decode cX0_add 19 = .ok (.iload_n 1, 1) := by decide +kernel
theorem dX0_add_20 : decode cX0_add 20 = .ok (.iastore, 1) := by decide +kernel
theorem dX0_add_21 : decode cX0_add 21 = .ok (.aload_n 0, 1) := by decide +kernel
theorem dX0_add_22 : decode cX0_add 22 = .ok (.getfield 15, 3) := by decide +kernel
theorem dX0_add_25 : decode cX0_add 25 = .ok (.aload_n 0, 1) := by decide +kernel
theorem dX0_add_26 : decode cX0_add 26 = .ok (.getfield 19, 3) := by decide +kernel
theorem dX0_add_29 : decode cX0_add 29 = .ok (.iload_n 2, 1) := by decide +kernel
theorem dX0_add_30 : decode cX0_add 30 = .ok (.bastore, 1) := by decide +kernel
theorem dX0_add_31 : decode cX0_add 31 = .ok (.aload_n 0, 1) := by decide +kernel
theorem dX0_add_32 : decode cX0_add 32 = .ok (.dup, 1) := by decide +kernel
theorem dX0_add_33 : decode cX0_add 33 = .ok (.getfield 19, 3) := by decide +kernel
theorem dX0_add_36 : decode cX0_add 36 = .ok (.iconst 1, 1) := by decide +kernel
theorem dX0_add_37 : decode cX0_add 37 = .ok (.iadd, 1) := by decide +kernel
theorem dX0_add_38 : decode cX0_add 38 = .ok (.putfield 19, 3) := by decide +kernel
theorem dX0_add_41 : decode cX0_add 41 = .ok (.iconst 1, 1) := by decide +kernel
theorem dX0_add_42 : decode cX0_add 42 = .ok (.ireturn, 1) := by decide +kernel
theorem dX0_firstWrong_0 : decode cX0_firstWrong 0 = .ok (.iconst 0, 1) := by decide +kernel
theorem dX0_firstWrong_1 : decode cX0_firstWrong 1 = .ok (.istore_n 2, 1) := by decide +kernel
theorem dX0_firstWrong_2 : decode cX0_firstWrong 2 = .ok (.iload_n 2, 1) := by decide +kernel
theorem dX0_firstWrong_3 : decode cX0_firstWrong 3 = .ok (.aload_n 0, 1) := by decide +kernel
theorem dX0_firstWrong_4 : decode cX0_firstWrong 4 = .ok (.getfield 19, 3) := by decide +kernel
theorem dX0_firstWrong_7 : decode cX0_firstWrong 7 = .ok (.if_icmp .ge 30, 3) := by decide +kernel
theorem dX0_firstWrong_10 : decode cX0_firstWrong 10 = .ok (.iload_n 1, 1) := by decide +kernel
theorem dX0_firstWrong_11 : decode cX0_firstWrong 11 = .ok (.aload_n 0, 1) := by decide +kernel
theorem dX0_firstWrong_12 : decode cX0_firstWrong 12 = .ok (.getfield 9, 3) := by decide +kernel
theorem dX0_firstWrong_15 : decode cX0_firstWrong 15 = .ok (.iload_n 2, 1) := by decide +kernel
theorem dX0_firstWrong_16 : decode cX0_firstWrong 16 = .ok (.iaload, 1) := by decide +kernel
theorem dX0_firstWrong_17 : decode cX0_firstWrong 17 = .ok (.invokestatic 23, 3) := by decide +kernel
theorem dX0_firstWrong_20 : decode cX0_firstWrong 20 = .ok (.aload_n 0, 1) := by decide +kernel
theorem dX0_firstWrong_21 : decode cX0_firstWrong 21 = .ok (.getfield 15, 3) := by decide +kernel
theorem dX0_firstWrong_24 : decode cX0_firstWrong 24 = .ok (.iload_n 2, 1) := by decide +kernel
theorem dX0_firstWrong_25 : decode cX0_firstWrong 25 = .ok (.baload, 1) := by decide +kernel
theorem dX0_firstWrong_26 : decode cX0_firstWrong 26 = .ok (.if_icmp .eq 5, 3) := by decide +kernel
theorem dX0_firstWrong_29 : decode cX0_firstWrong 29 = .ok (.iload_n 2, 1) := by decide +kernel
theorem dX0_firstWrong_30 : decode cX0_firstWrong 30 = .ok (.ireturn, 1) := by decide +kernel
theorem dX0_firstWrong_31 : decode cX0_firstWrong 31 = .ok (.iinc 2 1, 3) := by decide +kernel
theorem dX0_firstWrong_34 : decode cX0_firstWrong 34 = .ok (.goto (-32), 3) := by decide +kernel
theorem dX0_firstWrong_37 : decode cX0_firstWrong 37 = .ok (.iconst (-1), 1) := by decide +kernel
theorem dX0_firstWrong_38 : decode cX0_firstWrong 38 = .ok (.ireturn, 1) := by decide +kernel
theorem dX1_init_0 : decode cX1_init 0 = .ok (.aload_n 0, 1) := by decide +kernel
theorem dX1_init_1 : decode cX1_init 1 = .ok (.invokespecial 3, 3) := by decide +kernel
theorem dX1_init_4 : decode cX1_init 4 = .ok (.aload_n 0, 1) := by decide +kernel
theorem dX1_init_5 : decode cX1_init 5 = .ok (.bipush 20, 2) := by decide +kernel
theorem dX1_init_7 : decode cX1_init 7 = .ok (.anewarray 9, 3) := by decide +kernel
theorem dX1_init_10 : decode cX1_init 10 = .ok (.putfield 11, 3) := by decide +kernel
theorem dX1_init_13 : decode cX1_init 13 = .ok (.aload_n 0, 1) := by decide +kernel
theorem dX1_init_14 : decode cX1_init 14 = .ok (.iconst 0, 1) := by decide +kernel
theorem dX1_init_15 : decode cX1_init 15 = .ok (.putfield 17, 3) := by decide +kernel
theorem dX1_init_18 : decode cX1_init 18 = .ok (.return_, 1) := by decide +kernel
theorem dX1_size_0 : decode cX1_size 0 = .ok (.aload_n 0, 1) := by decide +kernel
theorem dX1_size_1 : decode cX1_size 1 = .ok (.getfield 17, 3) := by decide +kernel
theorem dX1_size_4 : decode cX1_size 4 = .ok (.ireturn, 1) := by decide +kernel
theorem dX1_clear_0 : decode cX1_clear 0 = .ok (.aload_n 0, 1) := by decide +kernel
theorem dX1_clear_1 : decode cX1_clear 1 = .ok (.iconst 0, 1) := by decide +kernel
theorem dX1_clear_2 : decode cX1_clear 2 = .ok (.putfield 17, 3) := by decide +kernel
theorem dX1_clear_5 : decode cX1_clear 5 = .ok (.return_, 1) := by decide +kernel
theorem dX1_add_0 : decode cX1_add 0 = .ok (.aload_n 0, 1) := by decide +kernel
theorem dX1_add_1 : decode cX1_add 1 = .ok (.getfield 17, 3) := by decide +kernel
theorem dX1_add_4 : decode cX1_add 4 = .ok (.bipush 20, 2) := by decide +kernel
theorem dX1_add_6 : decode cX1_add 6 = .ok (.if_icmp .lt 7, 3) := by decide +kernel
theorem dX1_add_9 : decode cX1_add 9 = .ok (.aload_n 0, 1) := by decide +kernel
theorem dX1_add_10 : decode cX1_add 10 = .ok (.invokevirtual 21, 3) := by decide +kernel
theorem dX1_add_13 : decode cX1_add 13 = .ok (.aload_n 0, 1) := by decide +kernel
theorem dX1_add_14 : decode cX1_add 14 = .ok (.getfield 11, 3) := by decide +kernel
theorem dX1_add_17 : decode cX1_add 17 = .ok (.aload_n 0, 1) := by decide +kernel
theorem dX1_add_18 : decode cX1_add 18 = .ok (.getfield 17, 3) := by decide +kernel
theorem dX1_add_21 : decode cX1_add 21 = .ok (.aload_n 1, 1) := by decide +kernel
theorem dX1_add_22 : decode cX1_add 22 = .ok (.aastore, 1) := by decide +kernel
theorem dX1_add_23 : decode cX1_add 23 = .ok (.aload_n 0, 1) := by decide +kernel
theorem dX1_add_24 : decode cX1_add 24 = .ok (.dup, 1) := by decide +kernel
theorem dX1_add_25 : decode cX1_add 25 = .ok (.getfield 17, 3) := by decide +kernel
theorem dX1_add_28 : decode cX1_add 28 = .ok (.iconst 1, 1) := by decide +kernel
theorem dX1_add_29 : decode cX1_add 29 = .ok (.iadd, 1) := by decide +kernel
theorem dX1_add_30 : decode cX1_add 30 = .ok (.putfield 17, 3) := by decide +kernel
theorem dX1_add_33 : decode cX1_add 33 = .ok (.return_, 1) := by decide +kernel
theorem dX1_loseOldest_0 : decode cX1_loseOldest 0 = .ok (.iconst 1, 1) := by decide +kernel
theorem dX1_loseOldest_1 : decode cX1_loseOldest 1 = .ok (.istore_n 1, 1) := by decide +kernel
theorem dX1_loseOldest_2 : decode cX1_loseOldest 2 = .ok (.iload_n 1, 1) := by decide +kernel
theorem dX1_loseOldest_3 : decode cX1_loseOldest 3 = .ok (.bipush 20, 2) := by decide +kernel
theorem dX1_loseOldest_5 : decode cX1_loseOldest 5 = .ok (.if_icmp .ge 23, 3) := by decide +kernel
theorem dX1_loseOldest_8 : decode cX1_loseOldest 8 = .ok (.aload_n 0, 1) := by decide +kernel
theorem dX1_loseOldest_9 : decode cX1_loseOldest 9 = .ok (.getfield 11, 3) := by decide +kernel
theorem dX1_loseOldest_12 : decode cX1_loseOldest 12 = .ok (.iload_n 1, 1) := by decide +kernel
theorem dX1_loseOldest_13 : decode cX1_loseOldest 13 = .ok (.iconst 1, 1) := by decide +kernel
theorem dX1_loseOldest_14 : decode cX1_loseOldest 14 = .ok (.isub, 1) := by decide +kernel
theorem dX1_loseOldest_15 : decode cX1_loseOldest 15 = .ok (.aload_n 0, 1) := by decide +kernel
theorem dX1_loseOldest_16 : decode cX1_loseOldest 16 = .ok (.getfield 11, 3) := by decide +kernel
theorem dX1_loseOldest_19 : decode cX1_loseOldest 19 = .ok (.iload_n 1, 1) := by decide +kernel
theorem dX1_loseOldest_20 : decode cX1_loseOldest 20 = .ok (.aaload, 1) := by decide +kernel
theorem dX1_loseOldest_21 : decode cX1_loseOldest 21 = .ok (.aastore, 1) := by decide +kernel
theorem dX1_loseOldest_22 : decode cX1_loseOldest 22 = .ok (.iinc 1 1, 3) := by decide +kernel
theorem dX1_loseOldest_25 : decode cX1_loseOldest 25 = .ok (.goto (-23), 3) := by decide +kernel
theorem dX1_loseOldest_28 : decode cX1_loseOldest 28 = .ok (.aload_n 0, 1) := by decide +kernel
theorem dX1_loseOldest_29 : decode cX1_loseOldest 29 = .ok (.bipush 19, 2) := by decide +kernel
theorem dX1_loseOldest_31 : decode cX1_loseOldest 31 = .ok (.putfield 17, 3) := by decide +kernel
theorem dX1_loseOldest_34 : decode cX1_loseOldest 34 = .ok (.return_, 1) := by decide +kernel
theorem dX1_takeLatest_0 : decode cX1_takeLatest 0 = .ok (.aload_n 0, 1) := by decide +kernel
theorem dX1_takeLatest_1 : decode cX1_takeLatest 1 = .ok (.getfield 17, 3) := by decide +kernel
theorem dX1_takeLatest_4 : decode cX1_takeLatest 4 = .ok (.iconst 1, 1) := by decide +kernel
theorem dX1_takeLatest_5 : decode cX1_takeLatest 5 = .ok (.if_icmp .ge 5, 3) := by decide +kernel
theorem dX1_takeLatest_8 : decode cX1_takeLatest 8 = .ok (.aconst_null, 1) := by decide +kernel
theorem dX1_takeLatest_9 : decode cX1_takeLatest 9 = .ok (.areturn, 1) := by decide +kernel
theorem dX1_takeLatest_10 : decode cX1_takeLatest 10 = .ok (.aload_n 0, 1) := by decide +kernel
theorem dX1_takeLatest_11 : decode cX1_takeLatest 11 = .ok (.dup, 1) := by decide +kernel
theorem dX1_takeLatest_12 : decode cX1_takeLatest 12 = .ok (.getfield 17, 3) := by decide +kernel
theorem dX1_takeLatest_15 : decode cX1_takeLatest 15 = .ok (.iconst 1, 1) := by decide +kernel
theorem dX1_takeLatest_16 : decode cX1_takeLatest 16 = .ok (.isub, 1) := by decide +kernel
theorem dX1_takeLatest_17 : decode cX1_takeLatest 17 = .ok (.putfield 17, 3) := by decide +kernel
theorem dX1_takeLatest_20 : decode cX1_takeLatest 20 = .ok (.aload_n 0, 1) := by decide +kernel
theorem dX1_takeLatest_21 : decode cX1_takeLatest 21 = .ok (.getfield 11, 3) := by decide +kernel
theorem dX1_takeLatest_24 : decode cX1_takeLatest 24 = .ok (.aload_n 0, 1) := by decide +kernel
theorem dX1_takeLatest_25 : decode cX1_takeLatest 25 = .ok (.getfield 17, 3) := by decide +kernel
theorem dX1_takeLatest_28 : decode cX1_takeLatest 28 = .ok (.aaload, 1) := by decide +kernel
theorem dX1_takeLatest_29 : decode cX1_takeLatest 29 = .ok (.areturn, 1) := by decide +kernel
theorem dX2_init_0 : decode cX2_init 0 = .ok (.aload_n 0, 1) := by decide +kernel
theorem dX2_init_1 : decode cX2_init 1 = .ok (.invokespecial 1, 3) := by decide +kernel
theorem dX2_init_4 : decode cX2_init 4 = .ok (.aload_n 0, 1) := by decide +kernel
theorem dX2_init_5 : decode cX2_init 5 = .ok (.iload_n 1, 1) := by decide +kernel
theorem dX2_init_6 : decode cX2_init 6 = .ok (.putfield 7, 3) := by decide +kernel
theorem dX2_init_9 : decode cX2_init 9 = .ok (.aload_n 0, 1) := by decide +kernel
theorem dX2_init_10 : decode cX2_init 10 = .ok (.iload_n 2, 1) := by decide +kernel
theorem dX2_init_11 : decode cX2_init 11 = .ok (.putfield 13, 3) := by decide +kernel
theorem dX2_init_14 : decode cX2_init 14 = .ok (.aload_n 0, 1) := by decide +kernel
theorem dX2_init_15 : decode cX2_init 15 = .ok (.iload_n 3, 1) := by decide +kernel
theorem dX2_init_16 : decode cX2_init 16 = .ok (.putfield 16, 3) := by decide +kernel
theorem dX2_init_19 : decode cX2_init 19 = .ok (.aload_n 0, 1) := by decide +kernel
theorem dX2_init_20 : decode cX2_init 20 = .ok (.iload 4, 2) := by decide +kernel
theorem dX2_init_22 : decode cX2_init 22 = .ok (.putfield 19, 3) := by decide +kernel
theorem dX2_init_25 : decode cX2_init 25 = .ok (.return_, 1) := by decide +kernel
theorem dX3_init_0 : decode cX3_init 0 = .ok (.aload_n 0, 1) := by decide +kernel
theorem dX3_init_1 : decode cX3_init 1 = .ok (.invokespecial 3, 3) := by decide +kernel
theorem dX3_init_4 : decode cX3_init 4 = .ok (.aload_n 0, 1) := by decide +kernel
theorem dX3_init_5 : decode cX3_init 5 = .ok (.bipush 6, 2) := by decide +kernel
theorem dX3_init_7 : decode cX3_init 7 = .ok (.newarray .int, 2) := by decide +kernel
theorem dX3_init_9 : decode cX3_init 9 = .ok (.putfield 9, 3) := by decide +kernel
theorem dX3_init_12 : decode cX3_init 12 = .ok (.aload_n 0, 1) := by decide +kernel
theorem dX3_init_13 : decode cX3_init 13 = .ok (.bipush 6, 2) := by decide +kernel
theorem dX3_init_15 : decode cX3_init 15 = .ok (.newarray .int, 2) := by decide +kernel
theorem dX3_init_17 : decode cX3_init 17 = .ok (.putfield 15, 3) := by decide +kernel
theorem dX3_init_20 : decode cX3_init 20 = .ok (.aload_n 0, 1) := by decide +kernel
theorem dX3_init_21 : decode cX3_init 21 = .ok (.bipush 6, 2) := by decide +kernel
theorem dX3_init_23 : decode cX3_init 23 = .ok (.newarray .boolean, 2) := by decide +kernel
theorem dX3_init_25 : decode cX3_init 25 = .ok (.putfield 18, 3) := by decide +kernel
theorem dX3_init_28 : decode cX3_init 28 = .ok (.aload_n 0, 1) := by decide +kernel
theorem dX3_init_29 : decode cX3_init 29 = .ok (.iconst 0, 1) := by decide +kernel
theorem dX3_init_30 : decode cX3_init 30 = .ok (.putfield 22, 3) := by decide +kernel
theorem dX3_init_33 : decode cX3_init 33 = .ok (.return_, 1) := by decide +kernel
theorem dX3_size_0 : decode cX3_size 0 = .ok (.aload_n 0, 1) := by decide +kernel
theorem dX3_size_1 : decode cX3_size 1 = .ok (.getfield 22, 3) := by decide +kernel
theorem dX3_size_4 : decode cX3_size 4 = .ok (.ireturn, 1) := by decide +kernel
theorem dX3_clear_0 : decode cX3_clear 0 = .ok (.aload_n 0, 1) := by decide +kernel
theorem dX3_clear_1 : decode cX3_clear 1 = .ok (.iconst 0, 1) := by decide +kernel
theorem dX3_clear_2 : decode cX3_clear 2 = .ok (.putfield 22, 3) := by decide +kernel
theorem dX3_clear_5 : decode cX3_clear 5 = .ok (.return_, 1) := by decide +kernel
theorem dX3_add_0 : decode cX3_add 0 = .ok (.aload_n 0, 1) := by decide +kernel
theorem dX3_add_1 : decode cX3_add 1 = .ok (.getfield 22, 3) := by decide +kernel
theorem dX3_add_4 : decode cX3_add 4 = .ok (.bipush 6, 2) := by decide +kernel
theorem dX3_add_6 : decode cX3_add 6 = .ok (.if_icmp .lt 5, 3) := by decide +kernel
theorem dX3_add_9 : decode cX3_add 9 = .ok (.iconst 0, 1) := by decide +kernel
theorem dX3_add_10 : decode cX3_add 10 = .ok (.ireturn, 1) := by decide +kernel
theorem dX3_add_11 : decode cX3_add 11 = .ok (.aload_n 0, 1) := by decide +kernel
theorem dX3_add_12 : decode cX3_add 12 = .ok (.getfield 9, 3) := by decide +kernel
theorem dX3_add_15 : decode cX3_add 15 = .ok (.aload_n 0, 1) := by decide +kernel
theorem dX3_add_16 : decode cX3_add 16 = .ok (.getfield 22, 3) := by decide +kernel
theorem dX3_add_19 : decode cX3_add 19 = .ok (.iload_n 1, 1) := by decide +kernel
theorem dX3_add_20 : decode cX3_add 20 = .ok (.iastore, 1) := by decide +kernel
theorem dX3_add_21 : decode cX3_add 21 = .ok (.aload_n 0, 1) := by decide +kernel
theorem dX3_add_22 : decode cX3_add 22 = .ok (.getfield 15, 3) := by decide +kernel
theorem dX3_add_25 : decode cX3_add 25 = .ok (.aload_n 0, 1) := by decide +kernel
theorem dX3_add_26 : decode cX3_add 26 = .ok (.getfield 22, 3) := by decide +kernel
theorem dX3_add_29 : decode cX3_add 29 = .ok (.iload_n 2, 1) := by decide +kernel
theorem dX3_add_30 : decode cX3_add 30 = .ok (.iastore, 1) := by decide +kernel
theorem dX3_add_31 : decode cX3_add 31 = .ok (.aload_n 0, 1) := by decide +kernel
theorem dX3_add_32 : decode cX3_add 32 = .ok (.getfield 18, 3) := by decide +kernel
theorem dX3_add_35 : decode cX3_add 35 = .ok (.aload_n 0, 1) := by decide +kernel
theorem dX3_add_36 : decode cX3_add 36 = .ok (.getfield 22, 3) := by decide +kernel
theorem dX3_add_39 : decode cX3_add 39 = .ok (.iload_n 3, 1) := by decide +kernel
theorem dX3_add_40 : decode cX3_add 40 = .ok (.bastore, 1) := by decide +kernel
theorem dX3_add_41 : decode cX3_add 41 = .ok (.aload_n 0, 1) := by decide +kernel
theorem dX3_add_42 : decode cX3_add 42 = .ok (.dup, 1) := by decide +kernel
theorem dX3_add_43 : decode cX3_add 43 = .ok (.getfield 22, 3) := by decide +kernel
theorem dX3_add_46 : decode cX3_add 46 = .ok (.iconst 1, 1) := by decide +kernel
theorem dX3_add_47 : decode cX3_add 47 = .ok (.iadd, 1) := by decide +kernel
theorem dX3_add_48 : decode cX3_add 48 = .ok (.putfield 22, 3) := by decide +kernel
theorem dX3_add_51 : decode cX3_add 51 = .ok (.iconst 1, 1) := by decide +kernel
theorem dX3_add_52 : decode cX3_add 52 = .ok (.ireturn, 1) := by decide +kernel
theorem dX3_fit_0 : decode cX3_fit 0 = .ok (.iconst 0, 1) := by decide +kernel
theorem dX3_fit_1 : decode cX3_fit 1 = .ok (.istore_n 3, 1) := by decide +kernel
theorem dX3_fit_2 : decode cX3_fit 2 = .ok (.iload_n 3, 1) := by decide +kernel
theorem dX3_fit_3 : decode cX3_fit 3 = .ok (.aload_n 0, 1) := by decide +kernel
theorem dX3_fit_4 : decode cX3_fit 4 = .ok (.getfield 22, 3) := by decide +kernel
theorem dX3_fit_7 : decode cX3_fit 7 = .ok (.if_icmp .ge 40, 3) := by decide +kernel
theorem dX3_fit_10 : decode cX3_fit 10 = .ok (.aload_n 1, 1) := by decide +kernel
theorem dX3_fit_11 : decode cX3_fit 11 = .ok (.aload_n 0, 1) := by decide +kernel
theorem dX3_fit_12 : decode cX3_fit 12 = .ok (.getfield 9, 3) := by decide +kernel
theorem dX3_fit_15 : decode cX3_fit 15 = .ok (.iload_n 3, 1) := by decide +kernel
theorem dX3_fit_16 : decode cX3_fit 16 = .ok (.iaload, 1) := by decide +kernel
theorem dX3_fit_17 : decode cX3_fit 17 = .ok (.iload_n 2, 1) := by decide +kernel
theorem dX3_fit_18 : decode cX3_fit 18 = .ok (.invokevirtual 26, 3) := by decide +kernel
theorem dX3_fit_21 : decode cX3_fit 21 = .ok (.aload_n 0, 1) := by decide +kernel
theorem dX3_fit_22 : decode cX3_fit 22 = .ok (.getfield 15, 3) := by decide +kernel
theorem dX3_fit_25 : decode cX3_fit 25 = .ok (.iload_n 3, 1) := by decide +kernel
theorem dX3_fit_26 : decode cX3_fit 26 = .ok (.iaload, 1) := by decide +kernel
theorem dX3_fit_27 : decode cX3_fit 27 = .ok (.invokestatic 32, 3) := by decide +kernel
theorem dX3_fit_30 : decode cX3_fit 30 = .ok (.aload_n 0, 1) := by decide +kernel
theorem dX3_fit_31 : decode cX3_fit 31 = .ok (.getfield 18, 3) := by decide +kernel
theorem dX3_fit_34 : decode cX3_fit 34 = .ok (.iload_n 3, 1) := by decide +kernel
theorem dX3_fit_35 : decode cX3_fit 35 = .ok (.baload, 1) := by decide +kernel
theorem dX3_fit_36 : decode cX3_fit 36 = .ok (.if_icmp .eq 5, 3) := by decide +kernel
theorem dX3_fit_39 : decode cX3_fit 39 = .ok (.iconst 0, 1) := by decide +kernel
theorem dX3_fit_40 : decode cX3_fit 40 = .ok (.ireturn, 1) := by decide +kernel
theorem dX3_fit_41 : decode cX3_fit 41 = .ok (.iinc 3 1, 3) := by decide +kernel
theorem dX3_fit_44 : decode cX3_fit 44 = .ok (.goto (-42), 3) := by decide +kernel
theorem dX3_fit_47 : decode cX3_fit 47 = .ok (.iconst 1, 1) := by decide +kernel
theorem dX3_fit_48 : decode cX3_fit 48 = .ok (.ireturn, 1) := by decide +kernel
theorem dX4_init_0 : decode cX4_init 0 = .ok (.aload_n 0, 1) := by decide +kernel
theorem dX4_init_1 : decode cX4_init 1 = .ok (.invokespecial 3, 3) := by decide +kernel
theorem dX4_init_4 : decode cX4_init 4 = .ok (.aload_n 0, 1) := by decide +kernel
theorem dX4_init_5 : decode cX4_init 5 = .ok (.bipush 10, 2) := by decide +kernel
theorem dX4_init_7 : decode cX4_init 7 = .ok (.newarray .int, 2) := by decide +kernel
theorem dX4_init_9 : decode cX4_init 9 = .ok (.putfield 9, 3) := by decide +kernel
theorem dX4_init_12 : decode cX4_init 12 = .ok (.aload_n 0, 1) := by decide +kernel
theorem dX4_init_13 : decode cX4_init 13 = .ok (.bipush 10, 2) := by decide +kernel
theorem dX4_init_15 : decode cX4_init 15 = .ok (.newarray .int, 2) := by decide +kernel
theorem dX4_init_17 : decode cX4_init 17 = .ok (.putfield 15, 3) := by decide +kernel
theorem dX4_init_20 : decode cX4_init 20 = .ok (.aload_n 0, 1) := by decide +kernel
theorem dX4_init_21 : decode cX4_init 21 = .ok (.bipush 10, 2) := by decide +kernel
theorem dX4_init_23 : decode cX4_init 23 = .ok (.newarray .int, 2) := by decide +kernel
theorem dX4_init_25 : decode cX4_init 25 = .ok (.putfield 18, 3) := by decide +kernel
theorem dX4_init_28 : decode cX4_init 28 = .ok (.aload_n 0, 1) := by decide +kernel
theorem dX4_init_29 : decode cX4_init 29 = .ok (.iconst 0, 1) := by decide +kernel
theorem dX4_init_30 : decode cX4_init 30 = .ok (.putfield 21, 3) := by decide +kernel
theorem dX4_init_33 : decode cX4_init 33 = .ok (.aload_n 0, 1) := by decide +kernel
theorem dX4_init_34 : decode cX4_init 34 = .ok (.iconst 0, 1) := by decide +kernel
theorem dX4_init_35 : decode cX4_init 35 = .ok (.putfield 25, 3) := by decide +kernel
theorem dX4_init_38 : decode cX4_init 38 = .ok (.aload_n 0, 1) := by decide +kernel
theorem dX4_init_39 : decode cX4_init 39 = .ok (.iconst 0, 1) := by decide +kernel
theorem dX4_init_40 : decode cX4_init 40 = .ok (.putfield 28, 3) := by decide +kernel
theorem dX4_init_43 : decode cX4_init 43 = .ok (.return_, 1) := by decide +kernel
theorem dX4_clear_0 : decode cX4_clear 0 = .ok (.aload_n 0, 1) := by decide +kernel
theorem dX4_clear_1 : decode cX4_clear 1 = .ok (.iconst 0, 1) := by decide +kernel
theorem dX4_clear_2 : decode cX4_clear 2 = .ok (.putfield 21, 3) := by decide +kernel
theorem dX4_clear_5 : decode cX4_clear 5 = .ok (.aload_n 0, 1) := by decide +kernel
theorem dX4_clear_6 : decode cX4_clear 6 = .ok (.iconst 0, 1) := by decide +kernel
theorem dX4_clear_7 : decode cX4_clear 7 = .ok (.putfield 25, 3) := by decide +kernel
theorem dX4_clear_10 : decode cX4_clear 10 = .ok (.aload_n 0, 1) := by decide +kernel
theorem dX4_clear_11 : decode cX4_clear 11 = .ok (.iconst 0, 1) := by decide +kernel
theorem dX4_clear_12 : decode cX4_clear 12 = .ok (.putfield 28, 3) := by decide +kernel
theorem dX4_clear_15 : decode cX4_clear 15 = .ok (.return_, 1) := by decide +kernel
theorem dX4_isNone_0 : decode cX4_isNone 0 = .ok (.aload_n 0, 1) := by decide +kernel
theorem dX4_isNone_1 : decode cX4_isNone 1 = .ok (.getfield 21, 3) := by decide +kernel
theorem dX4_isNone_4 : decode cX4_isNone 4 = .ok (.ifCond .ne 7, 3) := by decide +kernel
theorem dX4_isNone_7 : decode cX4_isNone 7 = .ok (.iconst 1, 1) := by decide +kernel
theorem dX4_isNone_8 : decode cX4_isNone 8 = .ok (.goto 4, 3) := by decide +kernel
theorem dX4_isNone_11 : decode cX4_isNone 11 = .ok (.iconst 0, 1) := by decide +kernel
theorem dX4_isNone_12 : decode cX4_isNone 12 = .ok (.ireturn, 1) := by decide +kernel
theorem dX4_isFull_0 : decode cX4_isFull 0 = .ok (.aload_n 0, 1) := by decide +kernel
theorem dX4_isFull_1 : decode cX4_isFull 1 = .ok (.getfield 25, 3) := by decide +kernel
theorem dX4_isFull_4 : decode cX4_isFull 4 = .ok (.bipush 10, 2) := by decide +kernel
theorem dX4_isFull_6 : decode cX4_isFull 6 = .ok (.if_icmp .lt 7, 3) := by decide +kernel
theorem dX4_isFull_9 : decode cX4_isFull 9 = .ok (.iconst 1, 1) := by decide +kernel
theorem dX4_isFull_10 : decode cX4_isFull 10 = .ok (.goto 4, 3) := by decide +kernel
theorem dX4_isFull_13 : decode cX4_isFull 13 = .ok (.iconst 0, 1) := by decide +kernel
theorem dX4_isFull_14 : decode cX4_isFull 14 = .ok (.ireturn, 1) := by decide +kernel
theorem dX4_addRule_0 : decode cX4_addRule 0 = .ok (.aload_n 0, 1) := by decide +kernel
theorem dX4_addRule_1 : decode cX4_addRule 1 = .ok (.invokevirtual 31, 3) := by decide +kernel
theorem dX4_addRule_4 : decode cX4_addRule 4 = .ok (.ifCond .eq 4, 3) := by decide +kernel
theorem dX4_addRule_7 : decode cX4_addRule 7 = .ok (.return_, 1) := by decide +kernel
theorem dX4_addRule_8 : decode cX4_addRule 8 = .ok (.aload_n 0, 1) := by decide +kernel
theorem dX4_addRule_9 : decode cX4_addRule 9 = .ok (.getfield 9, 3) := by decide +kernel
theorem dX4_addRule_12 : decode cX4_addRule 12 = .ok (.aload_n 0, 1) := by decide +kernel
theorem dX4_addRule_13 : decode cX4_addRule 13 = .ok (.getfield 25, 3) := by decide +kernel
theorem dX4_addRule_16 : decode cX4_addRule 16 = .ok (.iload_n 1, 1) := by decide +kernel
theorem dX4_addRule_17 : decode cX4_addRule 17 = .ok (.iastore, 1) := by decide +kernel
theorem dX4_addRule_18 : decode cX4_addRule 18 = .ok (.aload_n 0, 1) := by decide +kernel
theorem dX4_addRule_19 : decode cX4_addRule 19 = .ok (.getfield 15, 3) := by decide +kernel
theorem dX4_addRule_22 : decode cX4_addRule 22 = .ok (.aload_n 0, 1) := by decide +kernel
theorem dX4_addRule_23 : decode cX4_addRule 23 = .ok (.getfield 25, 3) := by decide +kernel
theorem dX4_addRule_26 : decode cX4_addRule 26 = .ok (.iload_n 2, 1) := by decide +kernel
theorem dX4_addRule_27 : decode cX4_addRule 27 = .ok (.iastore, 1) := by decide +kernel
theorem dX4_addRule_28 : decode cX4_addRule 28 = .ok (.aload_n 0, 1) := by decide +kernel
theorem dX4_addRule_29 : decode cX4_addRule 29 = .ok (.getfield 18, 3) := by decide +kernel
theorem dX4_addRule_32 : decode cX4_addRule 32 = .ok (.aload_n 0, 1) := by decide +kernel
theorem dX4_addRule_33 : decode cX4_addRule 33 = .ok (.getfield 25, 3) := by decide +kernel
theorem dX4_addRule_36 : decode cX4_addRule 36 = .ok (.iload_n 3, 1) := by decide +kernel
theorem dX4_addRule_37 : decode cX4_addRule 37 = .ok (.iastore, 1) := by decide +kernel
theorem dX4_addRule_38 : decode cX4_addRule 38 = .ok (.aload_n 0, 1) := by decide +kernel
theorem dX4_addRule_39 : decode cX4_addRule 39 = .ok (.dup, 1) := by decide +kernel
theorem dX4_addRule_40 : decode cX4_addRule 40 = .ok (.getfield 25, 3) := by decide +kernel
theorem dX4_addRule_43 : decode cX4_addRule 43 = .ok (.iconst 1, 1) := by decide +kernel
theorem dX4_addRule_44 : decode cX4_addRule 44 = .ok (.iadd, 1) := by decide +kernel
theorem dX4_addRule_45 : decode cX4_addRule 45 = .ok (.putfield 25, 3) := by decide +kernel
theorem dX4_addRule_48 : decode cX4_addRule 48 = .ok (.return_, 1) := by decide +kernel
theorem dX4_sayings_0 : decode cX4_sayings 0 = .ok (.iconst 2, 1) := by decide +kernel
theorem dX4_sayings_1 : decode cX4_sayings 1 = .ok (.aload_n 0, 1) := by decide +kernel
theorem dX4_sayings_2 : decode cX4_sayings 2 = .ok (.getfield 21, 3) := by decide +kernel
theorem dX4_sayings_5 : decode cX4_sayings 5 = .ok (.imul, 1) := by decide +kernel
theorem dX4_sayings_6 : decode cX4_sayings 6 = .ok (.ireturn, 1) := by decide +kernel
theorem dX4_allSayings_0 : decode cX4_allSayings 0 = .ok (.iconst 1, 1) := by decide +kernel
theorem dX4_allSayings_1 : decode cX4_allSayings 1 = .ok (.aload_n 0, 1) := by decide +kernel
theorem dX4_allSayings_2 : decode cX4_allSayings 2 = .ok (.invokevirtual 35, 3) := by decide +kernel
theorem dX4_allSayings_5 : decode cX4_allSayings 5 = .ok (.ishl, 1) := by decide +kernel
theorem dX4_allSayings_6 : decode cX4_allSayings 6 = .ok (.iconst 1, 1) := by decide +kernel
theorem dX4_allSayings_7 : decode cX4_allSayings 7 = .ok (.isub, 1) := by decide +kernel
theorem dX4_allSayings_8 : decode cX4_allSayings 8 = .ok (.ireturn, 1) := by decide +kernel
theorem dX4_allRules_0 : decode cX4_allRules 0 = .ok (.iconst 1, 1) := by decide +kernel
theorem dX4_allRules_1 : decode cX4_allRules 1 = .ok (.aload_n 0, 1) := by decide +kernel
theorem dX4_allRules_2 : decode cX4_allRules 2 = .ok (.getfield 25, 3) := by decide +kernel
theorem dX4_allRules_5 : decode cX4_allRules 5 = .ok (.ishl, 1) := by decide +kernel
theorem dX4_allRules_6 : decode cX4_allRules 6 = .ok (.iconst 1, 1) := by decide +kernel
theorem dX4_allRules_7 : decode cX4_allRules 7 = .ok (.isub, 1) := by decide +kernel
theorem dX4_allRules_8 : decode cX4_allRules 8 = .ok (.ireturn, 1) := by decide +kernel
theorem dX4_hasSaying_0 : decode cX4_hasSaying 0 = .ok (.iload_n 1, 1) := by decide +kernel
theorem dX4_hasSaying_1 : decode cX4_hasSaying 1 = .ok (.ifCond .lt 15, 3) := by decide +kernel
theorem dX4_hasSaying_4 : decode cX4_hasSaying 4 = .ok (.iload_n 1, 1) := by decide +kernel
theorem dX4_hasSaying_5 : decode cX4_hasSaying 5 = .ok (.aload_n 0, 1) := by decide +kernel
theorem dX4_hasSaying_6 : decode cX4_hasSaying 6 = .ok (.invokevirtual 35, 3) := by decide +kernel
theorem dX4_hasSaying_9 : decode cX4_hasSaying 9 = .ok (.if_icmp .ge 7, 3) := by decide +kernel
theorem dX4_hasSaying_12 : decode cX4_hasSaying 12 = .ok (.iconst 1, 1) := by decide +kernel
theorem dX4_hasSaying_13 : decode cX4_hasSaying 13 = .ok (.goto 4, 3) := by decide +kernel
theorem dX4_hasSaying_16 : decode cX4_hasSaying 16 = .ok (.iconst 0, 1) := by decide +kernel
theorem dX4_hasSaying_17 : decode cX4_hasSaying 17 = .ok (.ireturn, 1) := by decide +kernel
theorem dX4_hasSayings_0 : decode cX4_hasSayings 0 = .ok (.iload_n 1, 1) := by decide +kernel
theorem dX4_hasSayings_1 : decode cX4_hasSayings 1 = .ok (.aload_n 0, 1) := by decide +kernel
theorem dX4_hasSayings_2 : decode cX4_hasSayings 2 = .ok (.invokevirtual 39, 3) := by decide +kernel
theorem dX4_hasSayings_5 : decode cX4_hasSayings 5 = .ok (.iconst (-1), 1) := by decide +kernel
theorem dX4_hasSayings_6 : decode cX4_hasSayings 6 = .ok (.ixor, 1) := by decide +kernel
theorem dX4_hasSayings_7 : decode cX4_hasSayings 7 = .ok (.iand, 1) := by decide +kernel
theorem dX4_hasSayings_8 : decode cX4_hasSayings 8 = .ok (.ifCond .ne 7, 3) := by decide +kernel
theorem dX4_hasSayings_11 : decode cX4_hasSayings 11 = .ok (.iconst 1, 1) := by decide +kernel
theorem dX4_hasSayings_12 : decode cX4_hasSayings 12 = .ok (.goto 4, 3) := by decide +kernel
theorem dX4_hasSayings_15 : decode cX4_hasSayings 15 = .ok (.iconst 0, 1) := by decide +kernel
theorem dX4_hasSayings_16 : decode cX4_hasSayings 16 = .ok (.ireturn, 1) := by decide +kernel
theorem dX4_hasRule_0 : decode cX4_hasRule 0 = .ok (.iload_n 1, 1) := by decide +kernel
theorem dX4_hasRule_1 : decode cX4_hasRule 1 = .ok (.ifCond .lt 15, 3) := by decide +kernel
theorem dX4_hasRule_4 : decode cX4_hasRule 4 = .ok (.iload_n 1, 1) := by decide +kernel
theorem dX4_hasRule_5 : decode cX4_hasRule 5 = .ok (.aload_n 0, 1) := by decide +kernel
theorem dX4_hasRule_6 : decode cX4_hasRule 6 = .ok (.getfield 25, 3) := by decide +kernel
theorem dX4_hasRule_9 : decode cX4_hasRule 9 = .ok (.if_icmp .ge 7, 3) := by decide +kernel
theorem dX4_hasRule_12 : decode cX4_hasRule 12 = .ok (.iconst 1, 1) := by decide +kernel
theorem dX4_hasRule_13 : decode cX4_hasRule 13 = .ok (.goto 4, 3) := by decide +kernel
theorem dX4_hasRule_16 : decode cX4_hasRule 16 = .ok (.iconst 0, 1) := by decide +kernel
theorem dX4_hasRule_17 : decode cX4_hasRule 17 = .ok (.ireturn, 1) := by decide +kernel
theorem dX4_closure_0 : decode cX4_closure 0 = .ok (.iload_n 1, 1) := by decide +kernel
theorem dX4_closure_1 : decode cX4_closure 1 = .ok (.istore_n 3, 1) := by decide +kernel
theorem dX4_closure_2 : decode cX4_closure 2 = .ok (.iload_n 2, 1) := by decide +kernel
theorem dX4_closure_3 : decode cX4_closure 3 = .ok (.aload_n 0, 1) := by decide +kernel
theorem dX4_closure_4 : decode cX4_closure 4 = .ok (.invokevirtual 42, 3) := by decide +kernel
theorem dX4_closure_7 : decode cX4_closure 7 = .ok (.iand, 1) := by decide +kernel
theorem dX4_closure_8 : decode cX4_closure 8 = .ok (.istore 4, 2) := by decide +kernel
theorem dX4_closure_10 : decode cX4_closure 10 = .ok (.iconst 0, 1) := by decide +kernel
theorem dX4_closure_11 : decode cX4_closure 11 = .ok (.istore 5, 2) := by decide +kernel
theorem dX4_closure_13 : decode cX4_closure 13 = .ok (.iload 5, 2) := by decide +kernel
theorem dX4_closure_15 : decode cX4_closure 15 = .ok (.bipush 10, 2) := by decide +kernel
theorem dX4_closure_17 : decode cX4_closure 17 = .ok (.if_icmp .ge 93, 3) := by decide +kernel
theorem dX4_closure_20 : decode cX4_closure 20 = .ok (.iload 4, 2) := by decide +kernel
theorem dX4_closure_22 : decode cX4_closure 22 = .ok (.ifCond .eq 88, 3) := by decide +kernel
theorem dX4_closure_25 : decode cX4_closure 25 = .ok (.iload 4, 2) := by decide +kernel
theorem dX4_closure_27 : decode cX4_closure 27 = .ok (.istore 6, 2) := by decide +kernel
theorem dX4_closure_29 : decode cX4_closure 29 = .ok (.iconst 0, 1) := by decide +kernel
theorem dX4_closure_30 : decode cX4_closure 30 = .ok (.istore 7, 2) := by decide +kernel
theorem dX4_closure_32 : decode cX4_closure 32 = .ok (.iload 7, 2) := by decide +kernel
theorem dX4_closure_34 : decode cX4_closure 34 = .ok (.aload_n 0, 1) := by decide +kernel
theorem dX4_closure_35 : decode cX4_closure 35 = .ok (.getfield 25, 3) := by decide +kernel
theorem dX4_closure_38 : decode cX4_closure 38 = .ok (.if_icmp .ge 56, 3) := by decide +kernel
theorem dX4_closure_41 : decode cX4_closure 41 = .ok (.iload 4, 2) := by decide +kernel
theorem dX4_closure_43 : decode cX4_closure 43 = .ok (.iload 7, 2) := by decide +kernel
theorem dX4_closure_45 : decode cX4_closure 45 = .ok (.ishr, 1) := by decide +kernel
theorem dX4_closure_46 : decode cX4_closure 46 = .ok (.iconst 1, 1) := by decide +kernel
theorem dX4_closure_47 : decode cX4_closure 47 = .ok (.iand, 1) := by decide +kernel
theorem dX4_closure_48 : decode cX4_closure 48 = .ok (.ifCond .eq 40, 3) := by decide +kernel
theorem dX4_closure_51 : decode cX4_closure 51 = .ok (.aload_n 0, 1) := by decide +kernel
theorem dX4_closure_52 : decode cX4_closure 52 = .ok (.getfield 18, 3) := by decide +kernel
theorem dX4_closure_55 : decode cX4_closure 55 = .ok (.iload 7, 2) := by decide +kernel
theorem dX4_closure_57 : decode cX4_closure 57 = .ok (.iaload, 1) := by decide +kernel
theorem dX4_closure_58 : decode cX4_closure 58 = .ok (.iload_n 3, 1) := by decide +kernel
theorem dX4_closure_59 : decode cX4_closure 59 = .ok (.iconst (-1), 1) := by decide +kernel
theorem dX4_closure_60 : decode cX4_closure 60 = .ok (.ixor, 1) := by decide +kernel
theorem dX4_closure_61 : decode cX4_closure 61 = .ok (.iand, 1) := by decide +kernel
theorem dX4_closure_62 : decode cX4_closure 62 = .ok (.ifCond .ne 26, 3) := by decide +kernel
theorem dX4_closure_65 : decode cX4_closure 65 = .ok (.iload_n 3, 1) := by decide +kernel
theorem dX4_closure_66 : decode cX4_closure 66 = .ok (.iconst 1, 1) := by decide +kernel
theorem dX4_closure_67 : decode cX4_closure 67 = .ok (.aload_n 0, 1) := by decide +kernel
theorem dX4_closure_68 : decode cX4_closure 68 = .ok (.getfield 15, 3) := by decide +kernel
theorem dX4_closure_71 : decode cX4_closure 71 = .ok (.iload 7, 2) := by decide +kernel
theorem dX4_closure_73 : decode cX4_closure 73 = .ok (.iaload, 1) := by decide +kernel
theorem dX4_closure_74 : decode cX4_closure 74 = .ok (.ishl, 1) := by decide +kernel
theorem dX4_closure_75 : decode cX4_closure 75 = .ok (.ior, 1) := by decide +kernel
theorem dX4_closure_76 : decode cX4_closure 76 = .ok (.istore_n 3, 1) := by decide +kernel
theorem dX4_closure_77 : decode cX4_closure 77 = .ok (.iload 4, 2) := by decide +kernel
theorem dX4_closure_79 : decode cX4_closure 79 = .ok (.iconst 1, 1) := by decide +kernel
theorem dX4_closure_80 : decode cX4_closure 80 = .ok (.iload 7, 2) := by decide +kernel
theorem dX4_closure_82 : decode cX4_closure 82 = .ok (.ishl, 1) := by decide +kernel
theorem dX4_closure_83 : decode cX4_closure 83 = .ok (.iconst (-1), 1) := by decide +kernel
theorem dX4_closure_84 : decode cX4_closure 84 = .ok (.ixor, 1) := by decide +kernel
theorem dX4_closure_85 : decode cX4_closure 85 = .ok (.iand, 1) := by decide +kernel
theorem dX4_closure_86 : decode cX4_closure 86 = .ok (.istore 4, 2) := by decide +kernel
theorem dX4_closure_88 : decode cX4_closure 88 = .ok (.iinc 7 1, 3) := by decide +kernel
theorem dX4_closure_91 : decode cX4_closure 91 = .ok (.goto (-59), 3) := by decide +kernel
theorem dX4_closure_94 : decode cX4_closure 94 = .ok (.iload 4, 2) := by decide +kernel
theorem dX4_closure_96 : decode cX4_closure 96 = .ok (.iload 6, 2) := by decide +kernel
theorem dX4_closure_98 : decode cX4_closure 98 = .ok (.if_icmp .ne 6, 3) := by decide +kernel
theorem dX4_closure_101 : decode cX4_closure 101 = .ok (.goto 9, 3) := by decide +kernel
theorem dX4_closure_104 : decode cX4_closure 104 = .ok (.iinc 5 1, 3) := by decide +kernel
theorem dX4_closure_107 : decode cX4_closure 107 = .ok (.goto (-94), 3) := by decide +kernel
theorem dX4_closure_110 : decode cX4_closure 110 = .ok (.iload_n 3, 1) := by decide +kernel
theorem dX4_closure_111 : decode cX4_closure 111 = .ok (.ireturn, 1) := by decide +kernel
theorem dX4_quarrelsIn_0 : decode cX4_quarrelsIn 0 = .ok (.iconst 0, 1) := by decide +kernel
theorem dX4_quarrelsIn_1 : decode cX4_quarrelsIn 1 = .ok (.istore_n 2, 1) := by decide +kernel
theorem dX4_quarrelsIn_2 : decode cX4_quarrelsIn 2 = .ok (.iconst 0, 1) := by decide +kernel
theorem dX4_quarrelsIn_3 : decode cX4_quarrelsIn 3 = .ok (.istore_n 3, 1) := by decide +kernel
theorem dX4_quarrelsIn_4 : decode cX4_quarrelsIn 4 = .ok (.iload_n 3, 1) := by decide +kernel
theorem dX4_quarrelsIn_5 : decode cX4_quarrelsIn 5 = .ok (.aload_n 0, 1) := by decide +kernel
theorem dX4_quarrelsIn_6 : decode cX4_quarrelsIn 6 = .ok (.getfield 21, 3) := by decide +kernel
theorem dX4_quarrelsIn_9 : decode cX4_quarrelsIn 9 = .ok (.if_icmp .ge 37, 3) := by decide +kernel
theorem dX4_quarrelsIn_12 : decode cX4_quarrelsIn 12 = .ok (.iload_n 1, 1) := by decide +kernel
theorem dX4_quarrelsIn_13 : decode cX4_quarrelsIn 13 = .ok (.iconst 2, 1) := by decide +kernel
theorem dX4_quarrelsIn_14 : decode cX4_quarrelsIn 14 = .ok (.iload_n 3, 1) := by decide +kernel
theorem dX4_quarrelsIn_15 : decode cX4_quarrelsIn 15 = .ok (.imul, 1) := by decide +kernel
theorem dX4_quarrelsIn_16 : decode cX4_quarrelsIn 16 = .ok (.invokestatic 45, 3) := by decide +kernel
theorem dX4_quarrelsIn_19 : decode cX4_quarrelsIn 19 = .ok (.ifCond .eq 21, 3) := by decide +kernel
theorem dX4_quarrelsIn_22 : decode cX4_quarrelsIn 22 = .ok (.iload_n 1, 1) := by decide +kernel
theorem dX4_quarrelsIn_23 : decode cX4_quarrelsIn 23 = .ok (.iconst 2, 1) := by decide +kernel
theorem dX4_quarrelsIn_24 : decode cX4_quarrelsIn 24 = .ok (.iload_n 3, 1) := by decide +kernel
theorem dX4_quarrelsIn_25 : decode cX4_quarrelsIn 25 = .ok (.imul, 1) := by decide +kernel
theorem dX4_quarrelsIn_26 : decode cX4_quarrelsIn 26 = .ok (.iconst 1, 1) := by decide +kernel
theorem dX4_quarrelsIn_27 : decode cX4_quarrelsIn 27 = .ok (.iadd, 1) := by decide +kernel
theorem dX4_quarrelsIn_28 : decode cX4_quarrelsIn 28 = .ok (.invokestatic 45, 3) := by decide +kernel
theorem dX4_quarrelsIn_31 : decode cX4_quarrelsIn 31 = .ok (.ifCond .eq 9, 3) := by decide +kernel
theorem dX4_quarrelsIn_34 : decode cX4_quarrelsIn 34 = .ok (.iload_n 2, 1) := by decide +kernel
theorem dX4_quarrelsIn_35 : decode cX4_quarrelsIn 35 = .ok (.iconst 1, 1) := by decide +kernel
theorem dX4_quarrelsIn_36 : decode cX4_quarrelsIn 36 = .ok (.iload_n 3, 1) := by decide +kernel
theorem dX4_quarrelsIn_37 : decode cX4_quarrelsIn 37 = .ok (.ishl, 1) := by decide +kernel
theorem dX4_quarrelsIn_38 : decode cX4_quarrelsIn 38 = .ok (.ior, 1) := by decide +kernel
theorem dX4_quarrelsIn_39 : decode cX4_quarrelsIn 39 = .ok (.istore_n 2, 1) := by decide +kernel
theorem dX4_quarrelsIn_40 : decode cX4_quarrelsIn 40 = .ok (.iinc 3 1, 3) := by decide +kernel
theorem dX4_quarrelsIn_43 : decode cX4_quarrelsIn 43 = .ok (.goto (-39), 3) := by decide +kernel
theorem dX4_quarrelsIn_46 : decode cX4_quarrelsIn 46 = .ok (.iload_n 2, 1) := by decide +kernel
theorem dX4_quarrelsIn_47 : decode cX4_quarrelsIn 47 = .ok (.ireturn, 1) := by decide +kernel
theorem dX4_costOf_0 : decode cX4_costOf 0 = .ok (.iconst 0, 1) := by decide +kernel
theorem dX4_costOf_1 : decode cX4_costOf 1 = .ok (.istore_n 2, 1) := by decide +kernel
theorem dX4_costOf_2 : decode cX4_costOf 2 = .ok (.iconst 0, 1) := by decide +kernel
theorem dX4_costOf_3 : decode cX4_costOf 3 = .ok (.istore_n 3, 1) := by decide +kernel
theorem dX4_costOf_4 : decode cX4_costOf 4 = .ok (.iload_n 3, 1) := by decide +kernel
theorem dX4_costOf_5 : decode cX4_costOf 5 = .ok (.aload_n 0, 1) := by decide +kernel
theorem dX4_costOf_6 : decode cX4_costOf 6 = .ok (.getfield 25, 3) := by decide +kernel
theorem dX4_costOf_9 : decode cX4_costOf 9 = .ok (.if_icmp .ge 30, 3) := by decide +kernel
theorem dX4_costOf_12 : decode cX4_costOf 12 = .ok (.iload_n 2, 1) := by decide +kernel
theorem dX4_costOf_13 : decode cX4_costOf 13 = .ok (.iload_n 1, 1) := by decide +kernel
theorem dX4_costOf_14 : decode cX4_costOf 14 = .ok (.iload_n 3, 1) := by decide +kernel
theorem dX4_costOf_15 : decode cX4_costOf 15 = .ok (.invokestatic 45, 3) := by decide +kernel
theorem dX4_costOf_18 : decode cX4_costOf 18 = .ok (.ifCond .eq 12, 3) := by decide +kernel
theorem dX4_costOf_21 : decode cX4_costOf 21 = .ok (.aload_n 0, 1) := by decide +kernel
theorem dX4_costOf_22 : decode cX4_costOf 22 = .ok (.getfield 9, 3) := by decide +kernel
theorem dX4_costOf_25 : decode cX4_costOf 25 = .ok (.iload_n 3, 1) := by decide +kernel
theorem dX4_costOf_26 : decode cX4_costOf 26 = .ok (.iaload, 1) := by decide +kernel
theorem dX4_costOf_27 : decode cX4_costOf 27 = .ok (.goto 4, 3) := by decide +kernel
theorem dX4_costOf_30 : decode cX4_costOf 30 = .ok (.iconst 0, 1) := by decide +kernel
theorem dX4_costOf_31 : decode cX4_costOf 31 = .ok (.iadd, 1) := by decide +kernel
theorem dX4_costOf_32 : decode cX4_costOf 32 = .ok (.istore_n 2, 1) := by decide +kernel
theorem dX4_costOf_33 : decode cX4_costOf 33 = .ok (.iinc 3 1, 3) := by decide +kernel
theorem dX4_costOf_36 : decode cX4_costOf 36 = .ok (.goto (-32), 3) := by decide +kernel
theorem dX4_costOf_39 : decode cX4_costOf 39 = .ok (.iload_n 2, 1) := by decide +kernel
theorem dX4_costOf_40 : decode cX4_costOf 40 = .ok (.ireturn, 1) := by decide +kernel
theorem dX4_concludedBy_0 : decode cX4_concludedBy 0 = .ok (.iconst 0, 1) := by decide +kernel
theorem dX4_concludedBy_1 : decode cX4_concludedBy 1 = .ok (.istore_n 2, 1) := by decide +kernel
theorem dX4_concludedBy_2 : decode cX4_concludedBy 2 = .ok (.iconst 0, 1) := by decide +kernel
theorem dX4_concludedBy_3 : decode cX4_concludedBy 3 = .ok (.istore_n 3, 1) := by decide +kernel
theorem dX4_concludedBy_4 : decode cX4_concludedBy 4 = .ok (.iload_n 3, 1) := by decide +kernel
theorem dX4_concludedBy_5 : decode cX4_concludedBy 5 = .ok (.aload_n 0, 1) := by decide +kernel
theorem dX4_concludedBy_6 : decode cX4_concludedBy 6 = .ok (.getfield 25, 3) := by decide +kernel
theorem dX4_concludedBy_9 : decode cX4_concludedBy 9 = .ok (.if_icmp .ge 32, 3) := by decide +kernel
theorem dX4_concludedBy_12 : decode cX4_concludedBy 12 = .ok (.iload_n 2, 1) := by decide +kernel
theorem dX4_concludedBy_13 : decode cX4_concludedBy 13 = .ok (.iload_n 1, 1) := by decide +kernel
theorem dX4_concludedBy_14 : decode cX4_concludedBy 14 = .ok (.iload_n 3, 1) := by decide +kernel
theorem dX4_concludedBy_15 : decode cX4_concludedBy 15 = .ok (.invokestatic 45, 3) := by decide +kernel
theorem dX4_concludedBy_18 : decode cX4_concludedBy 18 = .ok (.ifCond .eq 14, 3) := by decide +kernel
theorem dX4_concludedBy_21 : decode cX4_concludedBy 21 = .ok (.iconst 1, 1) := by decide +kernel
theorem dX4_concludedBy_22 : decode cX4_concludedBy 22 = .ok (.aload_n 0, 1) := by decide +kernel
theorem dX4_concludedBy_23 : decode cX4_concludedBy 23 = .ok (.getfield 15, 3) := by decide +kernel
theorem dX4_concludedBy_26 : decode cX4_concludedBy 26 = .ok (.iload_n 3, 1) := by decide +kernel
theorem dX4_concludedBy_27 : decode cX4_concludedBy 27 = .ok (.iaload, 1) := by decide +kernel
theorem dX4_concludedBy_28 : decode cX4_concludedBy 28 = .ok (.ishl, 1) := by decide +kernel
theorem dX4_concludedBy_29 : decode cX4_concludedBy 29 = .ok (.goto 4, 3) := by decide +kernel
theorem dX4_concludedBy_32 : decode cX4_concludedBy 32 = .ok (.iconst 0, 1) := by decide +kernel
theorem dX4_concludedBy_33 : decode cX4_concludedBy 33 = .ok (.ior, 1) := by decide +kernel
theorem dX4_concludedBy_34 : decode cX4_concludedBy 34 = .ok (.istore_n 2, 1) := by decide +kernel
theorem dX4_concludedBy_35 : decode cX4_concludedBy 35 = .ok (.iinc 3 1, 3) := by decide +kernel
theorem dX4_concludedBy_38 : decode cX4_concludedBy 38 = .ok (.goto (-34), 3) := by decide +kernel
theorem dX4_concludedBy_41 : decode cX4_concludedBy 41 = .ok (.iload_n 2, 1) := by decide +kernel
theorem dX4_concludedBy_42 : decode cX4_concludedBy 42 = .ok (.ireturn, 1) := by decide +kernel
theorem dX5_init_0 : decode cX5_init 0 = .ok (.aload_n 0, 1) := by decide +kernel
theorem dX5_init_1 : decode cX5_init 1 = .ok (.invokespecial 3, 3) := by decide +kernel
theorem dX5_init_4 : decode cX5_init 4 = .ok (.aload_n 0, 1) := by decide +kernel
theorem dX5_init_5 : decode cX5_init 5 = .ok (.sipush 240, 3) := by decide +kernel
theorem dX5_init_8 : decode cX5_init 8 = .ok (.newarray .int, 2) := by decide +kernel
theorem dX5_init_10 : decode cX5_init 10 = .ok (.putfield 9, 3) := by decide +kernel
theorem dX5_init_13 : decode cX5_init 13 = .ok (.aload_n 0, 1) := by decide +kernel
theorem dX5_init_14 : decode cX5_init 14 = .ok (.iconst 0, 1) := by decide +kernel
theorem dX5_init_15 : decode cX5_init 15 = .ok (.putfield 15, 3) := by decide +kernel
theorem dX5_init_18 : decode cX5_init 18 = .ok (.aload_n 0, 1) := by decide +kernel
theorem dX5_init_19 : decode cX5_init 19 = .ok (.iconst 0, 1) := by decide +kernel
theorem dX5_init_20 : decode cX5_init 20 = .ok (.putfield 19, 3) := by decide +kernel
theorem dX5_init_23 : decode cX5_init 23 = .ok (.aload_n 0, 1) := by decide +kernel
theorem dX5_init_24 : decode cX5_init 24 = .ok (.iconst 0, 1) := by decide +kernel
theorem dX5_init_25 : decode cX5_init 25 = .ok (.putfield 22, 3) := by decide +kernel
theorem dX5_init_28 : decode cX5_init 28 = .ok (.aload_n 0, 1) := by decide +kernel
theorem dX5_init_29 : decode cX5_init 29 = .ok (.iconst 0, 1) := by decide +kernel
theorem dX5_init_30 : decode cX5_init 30 = .ok (.putfield 25, 3) := by decide +kernel
theorem dX5_init_33 : decode cX5_init 33 = .ok (.aload_n 0, 1) := by decide +kernel
theorem dX5_init_34 : decode cX5_init 34 = .ok (.iconst (-1), 1) := by decide +kernel
theorem dX5_init_35 : decode cX5_init 35 = .ok (.putfield 28, 3) := by decide +kernel
theorem dX5_init_38 : decode cX5_init 38 = .ok (.return_, 1) := by decide +kernel
theorem dX5_append_0 : decode cX5_append 0 = .ok (.aload_n 0, 1) := by decide +kernel
theorem dX5_append_1 : decode cX5_append 1 = .ok (.getfield 15, 3) := by decide +kernel
theorem dX5_append_4 : decode cX5_append 4 = .ok (.sipush 240, 3) := by decide +kernel
theorem dX5_append_7 : decode cX5_append 7 = .ok (.if_icmp .lt 5, 3) := by decide +kernel
theorem dX5_append_10 : decode cX5_append 10 = .ok (.iconst 0, 1) := by decide +kernel
theorem dX5_append_11 : decode cX5_append 11 = .ok (.ireturn, 1) := by decide +kernel
theorem dX5_append_12 : decode cX5_append 12 = .ok (.aload_n 0, 1) := by decide +kernel
theorem dX5_append_13 : decode cX5_append 13 = .ok (.getfield 9, 3) := by decide +kernel
theorem dX5_append_16 : decode cX5_append 16 = .ok (.aload_n 0, 1) := by decide +kernel
theorem dX5_append_17 : decode cX5_append 17 = .ok (.getfield 15, 3) := by decide +kernel
theorem dX5_append_20 : decode cX5_append 20 = .ok (.iload_n 1, 1) := by decide +kernel
theorem dX5_append_21 : decode cX5_append 21 = .ok (.iastore, 1) := by decide +kernel
theorem dX5_append_22 : decode cX5_append 22 = .ok (.aload_n 0, 1) := by decide +kernel
theorem dX5_append_23 : decode cX5_append 23 = .ok (.dup, 1) := by decide +kernel
theorem dX5_append_24 : decode cX5_append 24 = .ok (.getfield 15, 3) := by decide +kernel
theorem dX5_append_27 : decode cX5_append 27 = .ok (.iconst 1, 1) := by decide +kernel
theorem dX5_append_28 : decode cX5_append 28 = .ok (.iadd, 1) := by decide +kernel
theorem dX5_append_29 : decode cX5_append 29 = .ok (.putfield 15, 3) := by decide +kernel
theorem dX5_append_32 : decode cX5_append 32 = .ok (.iconst 1, 1) := by decide +kernel
theorem dX5_append_33 : decode cX5_append 33 = .ok (.ireturn, 1) := by decide +kernel
theorem dX5_length_0 : decode cX5_length 0 = .ok (.aload_n 0, 1) := by decide +kernel
theorem dX5_length_1 : decode cX5_length 1 = .ok (.getfield 15, 3) := by decide +kernel
theorem dX5_length_4 : decode cX5_length 4 = .ok (.ireturn, 1) := by decide +kernel
theorem dX5_forgetText_0 : decode cX5_forgetText 0 = .ok (.aload_n 0, 1) := by decide +kernel
theorem dX5_forgetText_1 : decode cX5_forgetText 1 = .ok (.iconst 0, 1) := by decide +kernel
theorem dX5_forgetText_2 : decode cX5_forgetText 2 = .ok (.putfield 15, 3) := by decide +kernel
theorem dX5_forgetText_5 : decode cX5_forgetText 5 = .ok (.return_, 1) := by decide +kernel
theorem dX5_faultKind_0 : decode cX5_faultKind 0 = .ok (.aload_n 0, 1) := by decide +kernel
theorem dX5_faultKind_1 : decode cX5_faultKind 1 = .ok (.getfield 25, 3) := by decide +kernel
theorem dX5_faultKind_4 : decode cX5_faultKind 4 = .ok (.ireturn, 1) := by decide +kernel
theorem dX5_faultAt_0 : decode cX5_faultAt 0 = .ok (.aload_n 0, 1) := by decide +kernel
theorem dX5_faultAt_1 : decode cX5_faultAt 1 = .ok (.getfield 28, 3) := by decide +kernel
theorem dX5_faultAt_4 : decode cX5_faultAt 4 = .ok (.ireturn, 1) := by decide +kernel
theorem dX5_readInto_0 : decode cX5_readInto 0 = .ok (.aload_n 0, 1) := by decide +kernel
theorem dX5_readInto_1 : decode cX5_readInto 1 = .ok (.iconst 0, 1) := by decide +kernel
theorem dX5_readInto_2 : decode cX5_readInto 2 = .ok (.putfield 19, 3) := by decide +kernel
theorem dX5_readInto_5 : decode cX5_readInto 5 = .ok (.aload_n 0, 1) := by decide +kernel
theorem dX5_readInto_6 : decode cX5_readInto 6 = .ok (.iconst 0, 1) := by decide +kernel
theorem dX5_readInto_7 : decode cX5_readInto 7 = .ok (.putfield 25, 3) := by decide +kernel
theorem dX5_readInto_10 : decode cX5_readInto 10 = .ok (.aload_n 0, 1) := by decide +kernel
theorem dX5_readInto_11 : decode cX5_readInto 11 = .ok (.iconst (-1), 1) := by decide +kernel
theorem dX5_readInto_12 : decode cX5_readInto 12 = .ok (.putfield 28, 3) := by decide +kernel
theorem dX5_readInto_15 : decode cX5_readInto 15 = .ok (.aload_n 1, 1) := by decide +kernel
theorem dX5_readInto_16 : decode cX5_readInto 16 = .ok (.invokevirtual 31, 3) := by decide +kernel
theorem dX5_readInto_19 : decode cX5_readInto 19 = .ok (.aload_n 0, 1) := by decide +kernel
theorem dX5_readInto_20 : decode cX5_readInto 20 = .ok (.invokevirtual 36, 3) := by decide +kernel
theorem dX5_readInto_23 : decode cX5_readInto 23 = .ok (.iconst (-1), 1) := by decide +kernel
theorem dX5_readInto_24 : decode cX5_readInto 24 = .ok (.if_icmp .ne 4, 3) := by decide +kernel
theorem dX5_readInto_27 : decode cX5_readInto 27 = .ok (.return_, 1) := by decide +kernel
theorem dX5_readInto_28 : decode cX5_readInto 28 = .ok (.aload_n 0, 1) := by decide +kernel
theorem dX5_readInto_29 : decode cX5_readInto 29 = .ok (.aload_n 1, 1) := by decide +kernel
theorem dX5_readInto_30 : decode cX5_readInto 30 = .ok (.invokevirtual 40, 3) := by decide +kernel
theorem dX5_readInto_33 : decode cX5_readInto 33 = .ok (.iconst 0, 1) := by decide +kernel
theorem dX5_readInto_34 : decode cX5_readInto 34 = .ok (.istore_n 2, 1) := by decide +kernel
theorem dX5_readInto_35 : decode cX5_readInto 35 = .ok (.iload_n 2, 1) := by decide +kernel
theorem dX5_readInto_36 : decode cX5_readInto 36 = .ok (.sipush 240, 3) := by decide +kernel
theorem dX5_readInto_39 : decode cX5_readInto 39 = .ok (.if_icmp .ge 29, 3) := by decide +kernel
theorem dX5_readInto_42 : decode cX5_readInto 42 = .ok (.aload_n 0, 1) := by decide +kernel
theorem dX5_readInto_43 : decode cX5_readInto 43 = .ok (.getfield 25, 3) := by decide +kernel
theorem dX5_readInto_46 : decode cX5_readInto 46 = .ok (.ifCond .ne 22, 3) := by decide +kernel
theorem dX5_readInto_49 : decode cX5_readInto 49 = .ok (.aload_n 0, 1) := by decide +kernel
theorem dX5_readInto_50 : decode cX5_readInto 50 = .ok (.invokevirtual 36, 3) := by decide +kernel
theorem dX5_readInto_53 : decode cX5_readInto 53 = .ok (.iconst (-1), 1) := by decide +kernel
theorem dX5_readInto_54 : decode cX5_readInto 54 = .ok (.if_icmp .eq 14, 3) := by decide +kernel
theorem dX5_readInto_57 : decode cX5_readInto 57 = .ok (.aload_n 0, 1) := by decide +kernel
theorem dX5_readInto_58 : decode cX5_readInto 58 = .ok (.aload_n 1, 1) := by decide +kernel
theorem dX5_readInto_59 : decode cX5_readInto 59 = .ok (.invokevirtual 44, 3) := by decide +kernel
theorem dX5_readInto_62 : decode cX5_readInto 62 = .ok (.iinc 2 1, 3) := by decide +kernel
theorem dX5_readInto_65 : decode cX5_readInto 65 = .ok (.goto (-30), 3) := by decide +kernel
theorem dX5_readInto_68 : decode cX5_readInto 68 = .ok (.return_, 1) := by decide +kernel
theorem dX5_readThings_0 : decode cX5_readThings 0 = .ok (.aload_n 0, 1) := by decide +kernel
theorem dX5_readThings_1 : decode cX5_readThings 1 = .ok (.bipush 116, 2) := by decide +kernel
theorem dX5_readThings_3 : decode cX5_readThings 3 = .ok (.invokevirtual 47, 3) := by decide +kernel
theorem dX5_readThings_6 : decode cX5_readThings 6 = .ok (.ifCond .ne 4, 3) := by decide +kernel
theorem dX5_readThings_9 : decode cX5_readThings 9 = .ok (.return_, 1) := by decide +kernel
theorem dX5_readThings_10 : decode cX5_readThings 10 = .ok (.aload_n 0, 1) := by decide +kernel
theorem dX5_readThings_11 : decode cX5_readThings 11 = .ok (.iconst 1, 1) := by decide +kernel
theorem dX5_readThings_12 : decode cX5_readThings 12 = .ok (.bipush 8, 2) := by decide +kernel
theorem dX5_readThings_14 : decode cX5_readThings 14 = .ok (.invokevirtual 51, 3) := by decide +kernel
theorem dX5_readThings_17 : decode cX5_readThings 17 = .ok (.istore_n 2, 1) := by decide +kernel
theorem dX5_readThings_18 : decode cX5_readThings 18 = .ok (.iload_n 2, 1) := by decide +kernel
theorem dX5_readThings_19 : decode cX5_readThings 19 = .ok (.iconst (-1), 1) := by decide +kernel
theorem dX5_readThings_20 : decode cX5_readThings 20 = .ok (.if_icmp .eq 17, 3) := by decide +kernel
theorem dX5_readThings_23 : decode cX5_readThings 23 = .ok (.aload_n 0, 1) := by decide +kernel
theorem dX5_readThings_24 : decode cX5_readThings 24 = .ok (.bipush 59, 2) := by decide +kernel
theorem dX5_readThings_26 : decode cX5_readThings 26 = .ok (.invokevirtual 47, 3) := by decide +kernel
theorem dX5_readThings_29 : decode cX5_readThings 29 = .ok (.ifCond .eq 8, 3) := by decide +kernel
theorem dX5_readThings_32 : decode cX5_readThings 32 = .ok (.aload_n 1, 1) := by decide +kernel
theorem dX5_readThings_33 : decode cX5_readThings 33 = .ok (.iload_n 2, 1) := by decide +kernel
theorem dX5_readThings_34 : decode cX5_readThings 34 = .ok (.putfield 55, 3) := by decide +kernel
theorem dX5_readThings_37 : decode cX5_readThings 37 = .ok (.return_, 1) := by decide +kernel
theorem dX5_readClause_0 : decode cX5_readClause 0 = .ok (.aload_n 0, 1) := by decide +kernel
theorem dX5_readClause_1 : decode cX5_readClause 1 = .ok (.invokevirtual 36, 3) := by decide +kernel
theorem dX5_readClause_4 : decode cX5_readClause 4 = .ok (.istore_n 2, 1) := by decide +kernel
theorem dX5_readClause_5 : decode cX5_readClause 5 = .ok (.iload_n 2, 1) := by decide +kernel
theorem dX5_readClause_6 : decode cX5_readClause 6 = .ok (.bipush 116, 2) := by decide +kernel
theorem dX5_readClause_8 : decode cX5_readClause 8 = .ok (.if_icmp .eq 16, 3) := by decide +kernel
theorem dX5_readClause_11 : decode cX5_readClause 11 = .ok (.iload_n 2, 1) := by decide +kernel
theorem dX5_readClause_12 : decode cX5_readClause 12 = .ok (.bipush 114, 2) := by decide +kernel
theorem dX5_readClause_14 : decode cX5_readClause 14 = .ok (.if_icmp .ne 22, 3) := by decide +kernel
theorem dX5_readClause_17 : decode cX5_readClause 17 = .ok (.aload_n 1, 1) := by decide +kernel
theorem dX5_readClause_18 : decode cX5_readClause 18 = .ok (.invokevirtual 58, 3) := by decide +kernel
theorem dX5_readClause_21 : decode cX5_readClause 21 = .ok (.ifCond .eq 15, 3) := by decide +kernel
theorem dX5_readClause_24 : decode cX5_readClause 24 = .ok (.aload_n 0, 1) := by decide +kernel
theorem dX5_readClause_25 : decode cX5_readClause 25 = .ok (.iconst 3, 1) := by decide +kernel
theorem dX5_readClause_26 : decode cX5_readClause 26 = .ok (.aload_n 0, 1) := by decide +kernel
theorem dX5_readClause_27 : decode cX5_readClause 27 = .ok (.getfield 19, 3) := by decide +kernel
theorem dX5_readClause_30 : decode cX5_readClause 30 = .ok (.invokevirtual 62, 3) := by decide +kernel
theorem dX5_readClause_33 : decode cX5_readClause 33 = .ok (.goto 60, 3) := by decide +kernel
theorem dX5_readClause_36 : decode cX5_readClause 36 = .ok (.iload_n 2, 1) := by decide +kernel
theorem dX5_readClause_37 : decode cX5_readClause 37 = .ok (.bipush 114, 2) := by decide +kernel
theorem dX5_readClause_39 : decode cX5_readClause 39 = .ok (.if_icmp .ne 21, 3) := by decide +kernel
theorem dX5_readClause_42 : decode cX5_readClause 42 = .ok (.aload_n 0, 1) := by decide +kernel
theorem dX5_readClause_43 : decode cX5_readClause 43 = .ok (.dup, 1) := by decide +kernel
theorem dX5_readClause_44 : decode cX5_readClause 44 = .ok (.getfield 19, 3) := by decide +kernel
theorem dX5_readClause_47 : decode cX5_readClause 47 = .ok (.iconst 1, 1) := by decide +kernel
theorem dX5_readClause_48 : decode cX5_readClause 48 = .ok (.iadd, 1) := by decide +kernel
theorem dX5_readClause_49 : decode cX5_readClause 49 = .ok (.putfield 19, 3) := by decide +kernel
theorem dX5_readClause_52 : decode cX5_readClause 52 = .ok (.aload_n 0, 1) := by decide +kernel
theorem dX5_readClause_53 : decode cX5_readClause 53 = .ok (.aload_n 1, 1) := by decide +kernel
theorem dX5_readClause_54 : decode cX5_readClause 54 = .ok (.invokevirtual 66, 3) := by decide +kernel
theorem dX5_readClause_57 : decode cX5_readClause 57 = .ok (.goto 36, 3) := by decide +kernel
theorem dX5_readClause_60 : decode cX5_readClause 60 = .ok (.iload_n 2, 1) := by decide +kernel
theorem dX5_readClause_61 : decode cX5_readClause 61 = .ok (.bipush 115, 2) := by decide +kernel
theorem dX5_readClause_63 : decode cX5_readClause 63 = .ok (.if_icmp .ne 21, 3) := by decide +kernel
theorem dX5_readClause_66 : decode cX5_readClause 66 = .ok (.aload_n 0, 1) := by decide +kernel
theorem dX5_readClause_67 : decode cX5_readClause 67 = .ok (.dup, 1) := by decide +kernel
theorem dX5_readClause_68 : decode cX5_readClause 68 = .ok (.getfield 19, 3) := by decide +kernel
theorem dX5_readClause_71 : decode cX5_readClause 71 = .ok (.iconst 1, 1) := by decide +kernel
theorem dX5_readClause_72 : decode cX5_readClause 72 = .ok (.iadd, 1) := by decide +kernel
theorem dX5_readClause_73 : decode cX5_readClause 73 = .ok (.putfield 19, 3) := by decide +kernel
theorem dX5_readClause_76 : decode cX5_readClause 76 = .ok (.aload_n 0, 1) := by decide +kernel
theorem dX5_readClause_77 : decode cX5_readClause 77 = .ok (.aload_n 1, 1) := by decide +kernel
theorem dX5_readClause_78 : decode cX5_readClause 78 = .ok (.invokevirtual 69, 3) := by decide +kernel
theorem dX5_readClause_81 : decode cX5_readClause 81 = .ok (.goto 12, 3) := by decide +kernel
theorem dX5_readClause_84 : decode cX5_readClause 84 = .ok (.aload_n 0, 1) := by decide +kernel
theorem dX5_readClause_85 : decode cX5_readClause 85 = .ok (.iconst 1, 1) := by decide +kernel
theorem dX5_readClause_86 : decode cX5_readClause 86 = .ok (.aload_n 0, 1) := by decide +kernel
theorem dX5_readClause_87 : decode cX5_readClause 87 = .ok (.getfield 19, 3) := by decide +kernel
theorem dX5_readClause_90 : decode cX5_readClause 90 = .ok (.invokevirtual 62, 3) := by decide +kernel
theorem dX5_readClause_93 : decode cX5_readClause 93 = .ok (.return_, 1) := by decide +kernel
theorem dX5_readRule_0 : decode cX5_readRule 0 = .ok (.aload_n 0, 1) := by decide +kernel
theorem dX5_readRule_1 : decode cX5_readRule 1 = .ok (.iconst 0, 1) := by decide +kernel
theorem dX5_readRule_2 : decode cX5_readRule 2 = .ok (.bipush 99, 2) := by decide +kernel
theorem dX5_readRule_4 : decode cX5_readRule 4 = .ok (.invokevirtual 51, 3) := by decide +kernel
theorem dX5_readRule_7 : decode cX5_readRule 7 = .ok (.istore_n 2, 1) := by decide +kernel
theorem dX5_readRule_8 : decode cX5_readRule 8 = .ok (.iload_n 2, 1) := by decide +kernel
theorem dX5_readRule_9 : decode cX5_readRule 9 = .ok (.iconst (-1), 1) := by decide +kernel
theorem dX5_readRule_10 : decode cX5_readRule 10 = .ok (.if_icmp .ne 4, 3) := by decide +kernel
theorem dX5_readRule_13 : decode cX5_readRule 13 = .ok (.return_, 1) := by decide +kernel
theorem dX5_readRule_14 : decode cX5_readRule 14 = .ok (.aload_n 0, 1) := by decide +kernel
theorem dX5_readRule_15 : decode cX5_readRule 15 = .ok (.iconst 0, 1) := by decide +kernel
theorem dX5_readRule_16 : decode cX5_readRule 16 = .ok (.aload_n 1, 1) := by decide +kernel
theorem dX5_readRule_17 : decode cX5_readRule 17 = .ok (.invokevirtual 72, 3) := by decide +kernel
theorem dX5_readRule_20 : decode cX5_readRule 20 = .ok (.iconst 1, 1) := by decide +kernel
theorem dX5_readRule_21 : decode cX5_readRule 21 = .ok (.isub, 1) := by decide +kernel
theorem dX5_readRule_22 : decode cX5_readRule 22 = .ok (.invokevirtual 51, 3) := by decide +kernel
theorem dX5_readRule_25 : decode cX5_readRule 25 = .ok (.istore_n 3, 1) := by decide +kernel
theorem dX5_readRule_26 : decode cX5_readRule 26 = .ok (.iload_n 3, 1) := by decide +kernel
theorem dX5_readRule_27 : decode cX5_readRule 27 = .ok (.iconst (-1), 1) := by decide +kernel
theorem dX5_readRule_28 : decode cX5_readRule 28 = .ok (.if_icmp .ne 4, 3) := by decide +kernel
theorem dX5_readRule_31 : decode cX5_readRule 31 = .ok (.return_, 1) := by decide +kernel
theorem dX5_readRule_32 : decode cX5_readRule 32 = .ok (.aload_n 0, 1) := by decide +kernel
theorem dX5_readRule_33 : decode cX5_readRule 33 = .ok (.aload_n 1, 1) := by decide +kernel
theorem dX5_readRule_34 : decode cX5_readRule 34 = .ok (.iload_n 3, 1) := by decide +kernel
theorem dX5_readRule_35 : decode cX5_readRule 35 = .ok (.invokevirtual 75, 3) := by decide +kernel
theorem dX5_readRule_38 : decode cX5_readRule 38 = .ok (.istore 4, 2) := by decide +kernel
theorem dX5_readRule_40 : decode cX5_readRule 40 = .ok (.iload 4, 2) := by decide +kernel
theorem dX5_readRule_42 : decode cX5_readRule 42 = .ok (.iconst (-1), 1) := by decide +kernel
theorem dX5_readRule_43 : decode cX5_readRule 43 = .ok (.if_icmp .eq 20, 3) := by decide +kernel
theorem dX5_readRule_46 : decode cX5_readRule 46 = .ok (.aload_n 0, 1) := by decide +kernel
theorem dX5_readRule_47 : decode cX5_readRule 47 = .ok (.bipush 59, 2) := by decide +kernel
theorem dX5_readRule_49 : decode cX5_readRule 49 = .ok (.invokevirtual 47, 3) := by decide +kernel
theorem dX5_readRule_52 : decode cX5_readRule 52 = .ok (.ifCond .eq 11, 3) := by decide +kernel
theorem dX5_readRule_55 : decode cX5_readRule 55 = .ok (.aload_n 1, 1) := by decide +kernel
theorem dX5_readRule_56 : decode cX5_readRule 56 = .ok (.iload_n 2, 1) := by decide +kernel
theorem dX5_readRule_57 : decode cX5_readRule 57 = .ok (.iload_n 3, 1) := by decide +kernel
theorem dX5_readRule_58 : decode cX5_readRule 58 = .ok (.iload 4, 2) := by decide +kernel
theorem dX5_readRule_60 : decode cX5_readRule 60 = .ok (.invokevirtual 79, 3) := by decide +kernel
theorem dX5_readRule_63 : decode cX5_readRule 63 = .ok (.return_, 1) := by decide +kernel
theorem dX5_readPremises_0 : decode cX5_readPremises 0 = .ok (.iconst 0, 1) := by decide +kernel
theorem dX5_readPremises_1 : decode cX5_readPremises 1 = .ok (.istore_n 3, 1) := by decide +kernel
theorem dX5_readPremises_2 : decode cX5_readPremises 2 = .ok (.iconst 0, 1) := by decide +kernel
theorem dX5_readPremises_3 : decode cX5_readPremises 3 = .ok (.istore 4, 2) := by decide +kernel
theorem dX5_readPremises_5 : decode cX5_readPremises 5 = .ok (.iload 4, 2) := by decide +kernel
theorem dX5_readPremises_7 : decode cX5_readPremises 7 = .ok (.iconst 3, 1) := by decide +kernel
theorem dX5_readPremises_8 : decode cX5_readPremises 8 = .ok (.if_icmp .ge 82, 3) := by decide +kernel
theorem dX5_readPremises_11 : decode cX5_readPremises 11 = .ok (.aload_n 0, 1) := by decide +kernel
theorem dX5_readPremises_12 : decode cX5_readPremises 12 = .ok (.invokevirtual 36, 3) := by decide +kernel
theorem dX5_readPremises_15 : decode cX5_readPremises 15 = .ok (.bipush 44, 2) := by decide +kernel
theorem dX5_readPremises_17 : decode cX5_readPremises 17 = .ok (.if_icmp .ne 73, 3) := by decide +kernel
theorem dX5_readPremises_20 : decode cX5_readPremises 20 = .ok (.aload_n 0, 1) := by decide +kernel
theorem dX5_readPremises_21 : decode cX5_readPremises 21 = .ok (.dup, 1) := by decide +kernel
theorem dX5_readPremises_22 : decode cX5_readPremises 22 = .ok (.getfield 19, 3) := by decide +kernel
theorem dX5_readPremises_25 : decode cX5_readPremises 25 = .ok (.iconst 1, 1) := by decide +kernel
theorem dX5_readPremises_26 : decode cX5_readPremises 26 = .ok (.iadd, 1) := by decide +kernel
theorem dX5_readPremises_27 : decode cX5_readPremises 27 = .ok (.putfield 19, 3) := by decide +kernel
theorem dX5_readPremises_30 : decode cX5_readPremises 30 = .ok (.aload_n 0, 1) := by decide +kernel
theorem dX5_readPremises_31 : decode cX5_readPremises 31 = .ok (.iconst 0, 1) := by decide +kernel
theorem dX5_readPremises_32 : decode cX5_readPremises 32 = .ok (.aload_n 1, 1) := by decide +kernel
theorem dX5_readPremises_33 : decode cX5_readPremises 33 = .ok (.invokevirtual 72, 3) := by decide +kernel
theorem dX5_readPremises_36 : decode cX5_readPremises 36 = .ok (.iconst 1, 1) := by decide +kernel
theorem dX5_readPremises_37 : decode cX5_readPremises 37 = .ok (.isub, 1) := by decide +kernel
theorem dX5_readPremises_38 : decode cX5_readPremises 38 = .ok (.invokevirtual 51, 3) := by decide +kernel
theorem dX5_readPremises_41 : decode cX5_readPremises 41 = .ok (.istore 5, 2) := by decide +kernel
theorem dX5_readPremises_43 : decode cX5_readPremises 43 = .ok (.iload 5, 2) := by decide +kernel
theorem dX5_readPremises_45 : decode cX5_readPremises 45 = .ok (.iconst (-1), 1) := by decide +kernel
theorem dX5_readPremises_46 : decode cX5_readPremises 46 = .ok (.if_icmp .ne 5, 3) := by decide +kernel
theorem dX5_readPremises_49 : decode cX5_readPremises 49 = .ok (.iconst (-1), 1) := by decide +kernel
theorem dX5_readPremises_50 : decode cX5_readPremises 50 = .ok (.ireturn, 1) := by decide +kernel
theorem dX5_readPremises_51 : decode cX5_readPremises 51 = .ok (.iload 5, 2) := by decide +kernel
theorem dX5_readPremises_53 : decode cX5_readPremises 53 = .ok (.iload_n 2, 1) := by decide +kernel
theorem dX5_readPremises_54 : decode cX5_readPremises 54 = .ok (.if_icmp .eq 12, 3) := by decide +kernel
theorem dX5_readPremises_57 : decode cX5_readPremises 57 = .ok (.iload_n 3, 1) := by decide +kernel
theorem dX5_readPremises_58 : decode cX5_readPremises 58 = .ok (.iload 5, 2) := by decide +kernel
theorem dX5_readPremises_60 : decode cX5_readPremises 60 = .ok (.invokestatic 83, 3) := by decide +kernel
theorem dX5_readPremises_63 : decode cX5_readPremises 63 = .ok (.ifCond .eq 14, 3) := by decide +kernel
theorem dX5_readPremises_66 : decode cX5_readPremises 66 = .ok (.aload_n 0, 1) := by decide +kernel
theorem dX5_readPremises_67 : decode cX5_readPremises 67 = .ok (.iconst 4, 1) := by decide +kernel
theorem dX5_readPremises_68 : decode cX5_readPremises 68 = .ok (.aload_n 0, 1) := by decide +kernel
theorem dX5_readPremises_69 : decode cX5_readPremises 69 = .ok (.getfield 22, 3) := by decide +kernel
theorem dX5_readPremises_72 : decode cX5_readPremises 72 = .ok (.invokevirtual 62, 3) := by decide +kernel
theorem dX5_readPremises_75 : decode cX5_readPremises 75 = .ok (.iconst (-1), 1) := by decide +kernel
theorem dX5_readPremises_76 : decode cX5_readPremises 76 = .ok (.ireturn, 1) := by decide +kernel
theorem dX5_readPremises_77 : decode cX5_readPremises 77 = .ok (.iload_n 3, 1) := by decide +kernel
theorem dX5_readPremises_78 : decode cX5_readPremises 78 = .ok (.iconst 1, 1) := by decide +kernel
theorem dX5_readPremises_79 : decode cX5_readPremises 79 = .ok (.iload 5, 2) := by decide +kernel
theorem dX5_readPremises_81 : decode cX5_readPremises 81 = .ok (.ishl, 1) := by decide +kernel
theorem dX5_readPremises_82 : decode cX5_readPremises 82 = .ok (.ior, 1) := by decide +kernel
theorem dX5_readPremises_83 : decode cX5_readPremises 83 = .ok (.istore_n 3, 1) := by decide +kernel
theorem dX5_readPremises_84 : decode cX5_readPremises 84 = .ok (.iinc 4 1, 3) := by decide +kernel
theorem dX5_readPremises_87 : decode cX5_readPremises 87 = .ok (.goto (-82), 3) := by decide +kernel
theorem dX5_readPremises_90 : decode cX5_readPremises 90 = .ok (.iload_n 3, 1) := by decide +kernel
theorem dX5_readPremises_91 : decode cX5_readPremises 91 = .ok (.ireturn, 1) := by decide +kernel
theorem dX5_readSeen_0 : decode cX5_readSeen 0 = .ok (.aload_n 0, 1) := by decide +kernel
theorem dX5_readSeen_1 : decode cX5_readSeen 1 = .ok (.iconst 0, 1) := by decide +kernel
theorem dX5_readSeen_2 : decode cX5_readSeen 2 = .ok (.aload_n 1, 1) := by decide +kernel
theorem dX5_readSeen_3 : decode cX5_readSeen 3 = .ok (.invokevirtual 72, 3) := by decide +kernel
theorem dX5_readSeen_6 : decode cX5_readSeen 6 = .ok (.iconst 1, 1) := by decide +kernel
theorem dX5_readSeen_7 : decode cX5_readSeen 7 = .ok (.isub, 1) := by decide +kernel
theorem dX5_readSeen_8 : decode cX5_readSeen 8 = .ok (.invokevirtual 51, 3) := by decide +kernel
theorem dX5_readSeen_11 : decode cX5_readSeen 11 = .ok (.istore_n 2, 1) := by decide +kernel
theorem dX5_readSeen_12 : decode cX5_readSeen 12 = .ok (.iload_n 2, 1) := by decide +kernel
theorem dX5_readSeen_13 : decode cX5_readSeen 13 = .ok (.iconst (-1), 1) := by decide +kernel
theorem dX5_readSeen_14 : decode cX5_readSeen 14 = .ok (.if_icmp .ne 4, 3) := by decide +kernel
theorem dX5_readSeen_17 : decode cX5_readSeen 17 = .ok (.return_, 1) := by decide +kernel
theorem dX5_readSeen_18 : decode cX5_readSeen 18 = .ok (.aload_n 1, 1) := by decide +kernel
theorem dX5_readSeen_19 : decode cX5_readSeen 19 = .ok (.getfield 87, 3) := by decide +kernel
theorem dX5_readSeen_22 : decode cX5_readSeen 22 = .ok (.iload_n 2, 1) := by decide +kernel
theorem dX5_readSeen_23 : decode cX5_readSeen 23 = .ok (.invokestatic 83, 3) := by decide +kernel
theorem dX5_readSeen_26 : decode cX5_readSeen 26 = .ok (.ifCond .eq 13, 3) := by decide +kernel
theorem dX5_readSeen_29 : decode cX5_readSeen 29 = .ok (.aload_n 0, 1) := by decide +kernel
theorem dX5_readSeen_30 : decode cX5_readSeen 30 = .ok (.iconst 4, 1) := by decide +kernel
theorem dX5_readSeen_31 : decode cX5_readSeen 31 = .ok (.aload_n 0, 1) := by decide +kernel
theorem dX5_readSeen_32 : decode cX5_readSeen 32 = .ok (.getfield 22, 3) := by decide +kernel
theorem dX5_readSeen_35 : decode cX5_readSeen 35 = .ok (.invokevirtual 62, 3) := by decide +kernel
theorem dX5_readSeen_38 : decode cX5_readSeen 38 = .ok (.return_, 1) := by decide +kernel
theorem dX5_readSeen_39 : decode cX5_readSeen 39 = .ok (.aload_n 0, 1) := by decide +kernel
theorem dX5_readSeen_40 : decode cX5_readSeen 40 = .ok (.bipush 59, 2) := by decide +kernel
theorem dX5_readSeen_42 : decode cX5_readSeen 42 = .ok (.invokevirtual 47, 3) := by decide +kernel
theorem dX5_readSeen_45 : decode cX5_readSeen 45 = .ok (.ifCond .eq 15, 3) := by decide +kernel
theorem dX5_readSeen_48 : decode cX5_readSeen 48 = .ok (.aload_n 1, 1) := by decide +kernel
theorem dX5_readSeen_49 : decode cX5_readSeen 49 = .ok (.dup, 1) := by decide +kernel
theorem dX5_readSeen_50 : decode cX5_readSeen 50 = .ok (.getfield 87, 3) := by decide +kernel
theorem dX5_readSeen_53 : decode cX5_readSeen 53 = .ok (.iconst 1, 1) := by decide +kernel
theorem dX5_readSeen_54 : decode cX5_readSeen 54 = .ok (.iload_n 2, 1) := by decide +kernel
theorem dX5_readSeen_55 : decode cX5_readSeen 55 = .ok (.ishl, 1) := by decide +kernel
theorem dX5_readSeen_56 : decode cX5_readSeen 56 = .ok (.ior, 1) := by decide +kernel
theorem dX5_readSeen_57 : decode cX5_readSeen 57 = .ok (.putfield 87, 3) := by decide +kernel
theorem dX5_readSeen_60 : decode cX5_readSeen 60 = .ok (.return_, 1) := by decide +kernel
theorem dX5_number_0 : decode cX5_number 0 = .ok (.aload_n 0, 1) := by decide +kernel
theorem dX5_number_1 : decode cX5_number 1 = .ok (.invokevirtual 36, 3) := by decide +kernel
theorem dX5_number_4 : decode cX5_number 4 = .ok (.invokestatic 90, 3) := by decide +kernel
theorem dX5_number_7 : decode cX5_number 7 = .ok (.ifCond .ne 14, 3) := by decide +kernel
theorem dX5_number_10 : decode cX5_number 10 = .ok (.aload_n 0, 1) := by decide +kernel
theorem dX5_number_11 : decode cX5_number 11 = .ok (.iconst 1, 1) := by decide +kernel
theorem dX5_number_12 : decode cX5_number 12 = .ok (.aload_n 0, 1) := by decide +kernel
theorem dX5_number_13 : decode cX5_number 13 = .ok (.getfield 19, 3) := by decide +kernel
theorem dX5_number_16 : decode cX5_number 16 = .ok (.invokevirtual 62, 3) := by decide +kernel
theorem dX5_number_19 : decode cX5_number 19 = .ok (.iconst (-1), 1) := by decide +kernel
theorem dX5_number_20 : decode cX5_number 20 = .ok (.ireturn, 1) := by decide +kernel
theorem dX5_number_21 : decode cX5_number 21 = .ok (.aload_n 0, 1) := by decide +kernel
theorem dX5_number_22 : decode cX5_number 22 = .ok (.aload_n 0, 1) := by decide +kernel
theorem dX5_number_23 : decode cX5_number 23 = .ok (.getfield 19, 3) := by decide +kernel
theorem dX5_number_26 : decode cX5_number 26 = .ok (.putfield 22, 3) := by decide +kernel
theorem dX5_number_29 : decode cX5_number 29 = .ok (.iconst 0, 1) := by decide +kernel
theorem dX5_number_30 : decode cX5_number 30 = .ok (.istore_n 3, 1) := by decide +kernel
theorem dX5_number_31 : decode cX5_number 31 = .ok (.aload_n 0, 1) := by decide +kernel
theorem dX5_number_32 : decode cX5_number 32 = .ok (.getfield 19, 3) := by decide +kernel
theorem dX5_number_35 : decode cX5_number 35 = .ok (.aload_n 0, 1) := by decide +kernel
theorem dX5_number_36 : decode cX5_number 36 = .ok (.getfield 15, 3) := by decide +kernel
theorem dX5_number_39 : decode cX5_number 39 = .ok (.if_icmp .ge 55, 3) := by decide +kernel
theorem dX5_number_42 : decode cX5_number 42 = .ok (.aload_n 0, 1) := by decide +kernel
theorem dX5_number_43 : decode cX5_number 43 = .ok (.getfield 9, 3) := by decide +kernel
theorem dX5_number_46 : decode cX5_number 46 = .ok (.aload_n 0, 1) := by decide +kernel
theorem dX5_number_47 : decode cX5_number 47 = .ok (.getfield 19, 3) := by decide +kernel
theorem dX5_number_50 : decode cX5_number 50 = .ok (.iaload, 1) := by decide +kernel
theorem dX5_number_51 : decode cX5_number 51 = .ok (.invokestatic 90, 3) := by decide +kernel
theorem dX5_number_54 : decode cX5_number 54 = .ok (.ifCond .eq 40, 3) := by decide +kernel
theorem dX5_number_57 : decode cX5_number 57 = .ok (.iload_n 3, 1) := by decide +kernel
theorem dX5_number_58 : decode cX5_number 58 = .ok (.bipush 10, 2) := by decide +kernel
theorem dX5_number_60 : decode cX5_number 60 = .ok (.imul, 1) := by decide +kernel
theorem dX5_number_61 : decode cX5_number 61 = .ok (.aload_n 0, 1) := by decide +kernel
theorem dX5_number_62 : decode cX5_number 62 = .ok (.getfield 9, 3) := by decide +kernel
theorem dX5_number_65 : decode cX5_number 65 = .ok (.aload_n 0, 1) := by decide +kernel
theorem dX5_number_66 : decode cX5_number 66 = .ok (.getfield 19, 3) := by decide +kernel
theorem dX5_number_69 : decode cX5_number 69 = .ok (.iaload, 1) := by decide +kernel
theorem dX5_number_70 : decode cX5_number 70 = .ok (.iadd, 1) := by decide +kernel
theorem dX5_number_71 : decode cX5_number 71 = .ok (.bipush 48, 2) := by decide +kernel
theorem dX5_number_73 : decode cX5_number 73 = .ok (.isub, 1) := by decide +kernel
theorem dX5_number_74 : decode cX5_number 74 = .ok (.sipush 1000, 3) := by decide +kernel
theorem dX5_number_77 : decode cX5_number 77 = .ok (.invokestatic 93, 3) := by decide +kernel
theorem dX5_number_80 : decode cX5_number 80 = .ok (.istore_n 3, 1) := by decide +kernel
theorem dX5_number_81 : decode cX5_number 81 = .ok (.aload_n 0, 1) := by decide +kernel
theorem dX5_number_82 : decode cX5_number 82 = .ok (.dup, 1) := by decide +kernel
theorem dX5_number_83 : decode cX5_number 83 = .ok (.getfield 19, 3) := by decide +kernel
theorem dX5_number_86 : decode cX5_number 86 = .ok (.iconst 1, 1) := by decide +kernel
theorem dX5_number_87 : decode cX5_number 87 = .ok (.iadd, 1) := by decide +kernel
theorem dX5_number_88 : decode cX5_number 88 = .ok (.putfield 19, 3) := by decide +kernel
theorem dX5_number_91 : decode cX5_number 91 = .ok (.goto (-60), 3) := by decide +kernel
theorem dX5_number_94 : decode cX5_number 94 = .ok (.aload_n 0, 1) := by decide +kernel
theorem dX5_number_95 : decode cX5_number 95 = .ok (.getfield 19, 3) := by decide +kernel
theorem dX5_number_98 : decode cX5_number 98 = .ok (.aload_n 0, 1) := by decide +kernel
theorem dX5_number_99 : decode cX5_number 99 = .ok (.getfield 22, 3) := by decide +kernel
theorem dX5_number_102 : decode cX5_number 102 = .ok (.isub, 1) := by decide +kernel
theorem dX5_number_103 : decode cX5_number 103 = .ok (.iconst 3, 1) := by decide +kernel
theorem dX5_number_104 : decode cX5_number 104 = .ok (.if_icmp .gt 13, 3) := by decide +kernel
theorem dX5_number_107 : decode cX5_number 107 = .ok (.iload_n 3, 1) := by decide +kernel
theorem dX5_number_108 : decode cX5_number 108 = .ok (.iload_n 1, 1) := by decide +kernel
theorem dX5_number_109 : decode cX5_number 109 = .ok (.if_icmp .lt 8, 3) := by decide +kernel
theorem dX5_number_112 : decode cX5_number 112 = .ok (.iload_n 3, 1) := by decide +kernel
theorem dX5_number_113 : decode cX5_number 113 = .ok (.iload_n 2, 1) := by decide +kernel
theorem dX5_number_114 : decode cX5_number 114 = .ok (.if_icmp .le 14, 3) := by decide +kernel
theorem dX5_number_117 : decode cX5_number 117 = .ok (.aload_n 0, 1) := by decide +kernel
theorem dX5_number_118 : decode cX5_number 118 = .ok (.iconst 2, 1) := by decide +kernel
theorem dX5_number_119 : decode cX5_number 119 = .ok (.aload_n 0, 1) := by decide +kernel
theorem dX5_number_120 : decode cX5_number 120 = .ok (.getfield 22, 3) := by decide +kernel
theorem dX5_number_123 : decode cX5_number 123 = .ok (.invokevirtual 62, 3) := by decide +kernel
theorem dX5_number_126 : decode cX5_number 126 = .ok (.iconst (-1), 1) := by decide +kernel
theorem dX5_number_127 : decode cX5_number 127 = .ok (.ireturn, 1) := by decide +kernel
theorem dX5_number_128 : decode cX5_number 128 = .ok (.iload_n 3, 1) := by decide +kernel
theorem dX5_number_129 : decode cX5_number 129 = .ok (.ireturn, 1) := by decide +kernel
theorem dX5_isFigure_0 : decode cX5_isFigure 0 = .ok (.iload_n 0, 1) := by decide +kernel
theorem dX5_isFigure_1 : decode cX5_isFigure 1 = .ok (.bipush 48, 2) := by decide +kernel
theorem dX5_isFigure_3 : decode cX5_isFigure 3 = .ok (.if_icmp .lt 13, 3) := by decide +kernel
theorem dX5_isFigure_6 : decode cX5_isFigure 6 = .ok (.iload_n 0, 1) := by decide +kernel
theorem dX5_isFigure_7 : decode cX5_isFigure 7 = .ok (.bipush 57, 2) := by decide +kernel
theorem dX5_isFigure_9 : decode cX5_isFigure 9 = .ok (.if_icmp .gt 7, 3) := by decide +kernel
theorem dX5_isFigure_12 : decode cX5_isFigure 12 = .ok (.iconst 1, 1) := by decide +kernel
theorem dX5_isFigure_13 : decode cX5_isFigure 13 = .ok (.goto 4, 3) := by decide +kernel
theorem dX5_isFigure_16 : decode cX5_isFigure 16 = .ok (.iconst 0, 1) := by decide +kernel
theorem dX5_isFigure_17 : decode cX5_isFigure 17 = .ok (.ireturn, 1) := by decide +kernel
theorem dX5_take_0 : decode cX5_take 0 = .ok (.aload_n 0, 1) := by decide +kernel
theorem dX5_take_1 : decode cX5_take 1 = .ok (.invokevirtual 36, 3) := by decide +kernel
theorem dX5_take_4 : decode cX5_take 4 = .ok (.iload_n 1, 1) := by decide +kernel
theorem dX5_take_5 : decode cX5_take 5 = .ok (.if_icmp .eq 14, 3) := by decide +kernel
theorem dX5_take_8 : decode cX5_take 8 = .ok (.aload_n 0, 1) := by decide +kernel
theorem dX5_take_9 : decode cX5_take 9 = .ok (.iconst 1, 1) := by decide +kernel
theorem dX5_take_10 : decode cX5_take 10 = .ok (.aload_n 0, 1) := by decide +kernel
theorem dX5_take_11 : decode cX5_take 11 = .ok (.getfield 19, 3) := by decide +kernel
theorem dX5_take_14 : decode cX5_take 14 = .ok (.invokevirtual 62, 3) := by decide +kernel
theorem dX5_take_17 : decode cX5_take 17 = .ok (.iconst 0, 1) := by decide +kernel
theorem dX5_take_18 : decode cX5_take 18 = .ok (.ireturn, 1) := by decide +kernel
theorem dX5_take_19 : decode cX5_take 19 = .ok (.aload_n 0, 1) := by decide +kernel
theorem dX5_take_20 : decode cX5_take 20 = .ok (.dup, 1) := by decide +kernel
theorem dX5_take_21 : decode cX5_take 21 = .ok (.getfield 19, 3) := by decide +kernel
theorem dX5_take_24 : decode cX5_take 24 = .ok (.iconst 1, 1) := by decide +kernel
theorem dX5_take_25 : decode cX5_take 25 = .ok (.iadd, 1) := by decide +kernel
theorem dX5_take_26 : decode cX5_take 26 = .ok (.putfield 19, 3) := by decide +kernel
theorem dX5_take_29 : decode cX5_take 29 = .ok (.iconst 1, 1) := by decide +kernel
theorem dX5_take_30 : decode cX5_take 30 = .ok (.ireturn, 1) := by decide +kernel
theorem dX5_peek_0 : decode cX5_peek 0 = .ok (.aload_n 0, 1) := by decide +kernel
theorem dX5_peek_1 : decode cX5_peek 1 = .ok (.getfield 19, 3) := by decide +kernel
theorem dX5_peek_4 : decode cX5_peek 4 = .ok (.aload_n 0, 1) := by decide +kernel
theorem dX5_peek_5 : decode cX5_peek 5 = .ok (.getfield 15, 3) := by decide +kernel
theorem dX5_peek_8 : decode cX5_peek 8 = .ok (.if_icmp .ge 30, 3) := by decide +kernel
theorem dX5_peek_11 : decode cX5_peek 11 = .ok (.aload_n 0, 1) := by decide +kernel
theorem dX5_peek_12 : decode cX5_peek 12 = .ok (.getfield 9, 3) := by decide +kernel
theorem dX5_peek_15 : decode cX5_peek 15 = .ok (.aload_n 0, 1) := by decide +kernel
theorem dX5_peek_16 : decode cX5_peek 16 = .ok (.getfield 19, 3) := by decide +kernel
theorem dX5_peek_19 : decode cX5_peek 19 = .ok (.iaload, 1) := by decide +kernel
theorem dX5_peek_20 : decode cX5_peek 20 = .ok (.bipush 32, 2) := by decide +kernel
theorem dX5_peek_22 : decode cX5_peek 22 = .ok (.if_icmp .ne 16, 3) := by decide +kernel
theorem dX5_peek_25 : decode cX5_peek 25 = .ok (.aload_n 0, 1) := by decide +kernel
theorem dX5_peek_26 : decode cX5_peek 26 = .ok (.dup, 1) := by decide +kernel
theorem dX5_peek_27 : decode cX5_peek 27 = .ok (.getfield 19, 3) := by decide +kernel
theorem dX5_peek_30 : decode cX5_peek 30 = .ok (.iconst 1, 1) := by decide +kernel
theorem dX5_peek_31 : decode cX5_peek 31 = .ok (.iadd, 1) := by decide +kernel
theorem dX5_peek_32 : decode cX5_peek 32 = .ok (.putfield 19, 3) := by decide +kernel
theorem dX5_peek_35 : decode cX5_peek 35 = .ok (.goto (-35), 3) := by decide +kernel
theorem dX5_peek_38 : decode cX5_peek 38 = .ok (.aload_n 0, 1) := by decide +kernel
theorem dX5_peek_39 : decode cX5_peek 39 = .ok (.getfield 19, 3) := by decide +kernel
theorem dX5_peek_42 : decode cX5_peek 42 = .ok (.aload_n 0, 1) := by decide +kernel
theorem dX5_peek_43 : decode cX5_peek 43 = .ok (.getfield 15, 3) := by decide +kernel
theorem dX5_peek_46 : decode cX5_peek 46 = .ok (.if_icmp .ge 15, 3) := by decide +kernel
theorem dX5_peek_49 : decode cX5_peek 49 = .ok (.aload_n 0, 1) := by decide +kernel
theorem dX5_peek_50 : decode cX5_peek 50 = .ok (.getfield 9, 3) := by decide +kernel
theorem dX5_peek_53 : decode cX5_peek 53 = .ok (.aload_n 0, 1) := by decide +kernel
theorem dX5_peek_54 : decode cX5_peek 54 = .ok (.getfield 19, 3) := by decide +kernel
theorem dX5_peek_57 : decode cX5_peek 57 = .ok (.iaload, 1) := by decide +kernel
theorem dX5_peek_58 : decode cX5_peek 58 = .ok (.goto 4, 3) := by decide +kernel
theorem dX5_peek_61 : decode cX5_peek 61 = .ok (.iconst (-1), 1) := by decide +kernel
theorem dX5_peek_62 : decode cX5_peek 62 = .ok (.ireturn, 1) := by decide +kernel
theorem dX5_stop_0 : decode cX5_stop 0 = .ok (.aload_n 0, 1) := by decide +kernel
theorem dX5_stop_1 : decode cX5_stop 1 = .ok (.iload_n 1, 1) := by decide +kernel
theorem dX5_stop_2 : decode cX5_stop 2 = .ok (.putfield 25, 3) := by decide +kernel
theorem dX5_stop_5 : decode cX5_stop 5 = .ok (.aload_n 0, 1) := by decide +kernel
theorem dX5_stop_6 : decode cX5_stop 6 = .ok (.iload_n 2, 1) := by decide +kernel
theorem dX5_stop_7 : decode cX5_stop 7 = .ok (.putfield 28, 3) := by decide +kernel
theorem dX5_stop_10 : decode cX5_stop 10 = .ok (.return_, 1) := by decide +kernel
theorem dX6_init_0 : decode cX6_init 0 = .ok (.aload_n 0, 1) := by decide +kernel
theorem dX6_init_1 : decode cX6_init 1 = .ok (.invokespecial 3, 3) := by decide +kernel
theorem dX6_init_4 : decode cX6_init 4 = .ok (.aload_n 0, 1) := by decide +kernel
theorem dX6_init_5 : decode cX6_init 5 = .ok (.aload_n 1, 1) := by decide +kernel
theorem dX6_init_6 : decode cX6_init 6 = .ok (.putfield 9, 3) := by decide +kernel
theorem dX6_init_9 : decode cX6_init 9 = .ok (.aload_n 0, 1) := by decide +kernel
theorem dX6_init_10 : decode cX6_init 10 = .ok (.iload_n 2, 1) := by decide +kernel
theorem dX6_init_11 : decode cX6_init 11 = .ok (.putfield 15, 3) := by decide +kernel
theorem dX6_init_14 : decode cX6_init 14 = .ok (.aload_n 0, 1) := by decide +kernel
theorem dX6_init_15 : decode cX6_init 15 = .ok (.iload_n 3, 1) := by decide +kernel
theorem dX6_init_16 : decode cX6_init 16 = .ok (.putfield 19, 3) := by decide +kernel
theorem dX6_init_19 : decode cX6_init 19 = .ok (.return_, 1) := by decide +kernel
theorem dX6_conclusions_0 : decode cX6_conclusions 0 = .ok (.aload_n 0, 1) := by decide +kernel
theorem dX6_conclusions_1 : decode cX6_conclusions 1 = .ok (.getfield 9, 3) := by decide +kernel
theorem dX6_conclusions_4 : decode cX6_conclusions 4 = .ok (.aload_n 0, 1) := by decide +kernel
theorem dX6_conclusions_5 : decode cX6_conclusions 5 = .ok (.getfield 15, 3) := by decide +kernel
theorem dX6_conclusions_8 : decode cX6_conclusions 8 = .ok (.aload_n 0, 1) := by decide +kernel
theorem dX6_conclusions_9 : decode cX6_conclusions 9 = .ok (.getfield 19, 3) := by decide +kernel
theorem dX6_conclusions_12 : decode cX6_conclusions 12 = .ok (.invokevirtual 22, 3) := by decide +kernel
theorem dX6_conclusions_15 : decode cX6_conclusions 15 = .ok (.ireturn, 1) := by decide +kernel
theorem dX6_concludesBy_0 : decode cX6_concludesBy 0 = .ok (.aload_n 0, 1) := by decide +kernel
theorem dX6_concludesBy_1 : decode cX6_concludesBy 1 = .ok (.getfield 9, 3) := by decide +kernel
theorem dX6_concludesBy_4 : decode cX6_concludesBy 4 = .ok (.aload_n 0, 1) := by decide +kernel
theorem dX6_concludesBy_5 : decode cX6_concludesBy 5 = .ok (.getfield 15, 3) := by decide +kernel
theorem dX6_concludesBy_8 : decode cX6_concludesBy 8 = .ok (.iload_n 1, 1) := by decide +kernel
theorem dX6_concludesBy_9 : decode cX6_concludesBy 9 = .ok (.invokevirtual 22, 3) := by decide +kernel
theorem dX6_concludesBy_12 : decode cX6_concludesBy 12 = .ok (.iload_n 2, 1) := by decide +kernel
theorem dX6_concludesBy_13 : decode cX6_concludesBy 13 = .ok (.invokestatic 28, 3) := by decide +kernel
theorem dX6_concludesBy_16 : decode cX6_concludesBy 16 = .ok (.ireturn, 1) := by decide +kernel
theorem dX6_leastProof_0 : decode cX6_leastProof 0 = .ok (.aload_n 0, 1) := by decide +kernel
theorem dX6_leastProof_1 : decode cX6_leastProof 1 = .ok (.aload_n 0, 1) := by decide +kernel
theorem dX6_leastProof_2 : decode cX6_leastProof 2 = .ok (.getfield 19, 3) := by decide +kernel
theorem dX6_leastProof_5 : decode cX6_leastProof 5 = .ok (.iload_n 1, 1) := by decide +kernel
theorem dX6_leastProof_6 : decode cX6_leastProof 6 = .ok (.invokevirtual 32, 3) := by decide +kernel
theorem dX6_leastProof_9 : decode cX6_leastProof 9 = .ok (.ifCond .ne 5, 3) := by decide +kernel
theorem dX6_leastProof_12 : decode cX6_leastProof 12 = .ok (.iconst (-1), 1) := by decide +kernel
theorem dX6_leastProof_13 : decode cX6_leastProof 13 = .ok (.ireturn, 1) := by decide +kernel
theorem dX6_leastProof_14 : decode cX6_leastProof 14 = .ok (.aload_n 0, 1) := by decide +kernel
theorem dX6_leastProof_15 : decode cX6_leastProof 15 = .ok (.getfield 19, 3) := by decide +kernel
theorem dX6_leastProof_18 : decode cX6_leastProof 18 = .ok (.istore_n 2, 1) := by decide +kernel
theorem dX6_leastProof_19 : decode cX6_leastProof 19 = .ok (.bipush 11, 2) := by decide +kernel
theorem dX6_leastProof_21 : decode cX6_leastProof 21 = .ok (.istore_n 3, 1) := by decide +kernel
theorem dX6_leastProof_22 : decode cX6_leastProof 22 = .ok (.iconst 0, 1) := by decide +kernel
theorem dX6_leastProof_23 : decode cX6_leastProof 23 = .ok (.istore 4, 2) := by decide +kernel
theorem dX6_leastProof_25 : decode cX6_leastProof 25 = .ok (.iload 4, 2) := by decide +kernel
theorem dX6_leastProof_27 : decode cX6_leastProof 27 = .ok (.aload_n 0, 1) := by decide +kernel
theorem dX6_leastProof_28 : decode cX6_leastProof 28 = .ok (.getfield 19, 3) := by decide +kernel
theorem dX6_leastProof_31 : decode cX6_leastProof 31 = .ok (.if_icmp .gt 47, 3) := by decide +kernel
theorem dX6_leastProof_34 : decode cX6_leastProof 34 = .ok (.iload 4, 2) := by decide +kernel
theorem dX6_leastProof_36 : decode cX6_leastProof 36 = .ok (.invokestatic 35, 3) := by decide +kernel
theorem dX6_leastProof_39 : decode cX6_leastProof 39 = .ok (.istore 5, 2) := by decide +kernel
theorem dX6_leastProof_41 : decode cX6_leastProof 41 = .ok (.aload_n 0, 1) := by decide +kernel
theorem dX6_leastProof_42 : decode cX6_leastProof 42 = .ok (.iload 4, 2) := by decide +kernel
theorem dX6_leastProof_44 : decode cX6_leastProof 44 = .ok (.invokevirtual 41, 3) := by decide +kernel
theorem dX6_leastProof_47 : decode cX6_leastProof 47 = .ok (.ifCond .eq 25, 3) := by decide +kernel
theorem dX6_leastProof_50 : decode cX6_leastProof 50 = .ok (.iload 5, 2) := by decide +kernel
theorem dX6_leastProof_52 : decode cX6_leastProof 52 = .ok (.iload_n 3, 1) := by decide +kernel
theorem dX6_leastProof_53 : decode cX6_leastProof 53 = .ok (.if_icmp .ge 19, 3) := by decide +kernel
theorem dX6_leastProof_56 : decode cX6_leastProof 56 = .ok (.aload_n 0, 1) := by decide +kernel
theorem dX6_leastProof_57 : decode cX6_leastProof 57 = .ok (.iload 4, 2) := by decide +kernel
theorem dX6_leastProof_59 : decode cX6_leastProof 59 = .ok (.iload_n 1, 1) := by decide +kernel
theorem dX6_leastProof_60 : decode cX6_leastProof 60 = .ok (.invokevirtual 32, 3) := by decide +kernel
theorem dX6_leastProof_63 : decode cX6_leastProof 63 = .ok (.ifCond .eq 9, 3) := by decide +kernel
theorem dX6_leastProof_66 : decode cX6_leastProof 66 = .ok (.iload 4, 2) := by decide +kernel
theorem dX6_leastProof_68 : decode cX6_leastProof 68 = .ok (.istore_n 2, 1) := by decide +kernel
theorem dX6_leastProof_69 : decode cX6_leastProof 69 = .ok (.iload 5, 2) := by decide +kernel
theorem dX6_leastProof_71 : decode cX6_leastProof 71 = .ok (.istore_n 3, 1) := by decide +kernel
theorem dX6_leastProof_72 : decode cX6_leastProof 72 = .ok (.iinc 4 1, 3) := by decide +kernel
theorem dX6_leastProof_75 : decode cX6_leastProof 75 = .ok (.goto (-50), 3) := by decide +kernel
theorem dX6_leastProof_78 : decode cX6_leastProof 78 = .ok (.iload_n 2, 1) := by decide +kernel
theorem dX6_leastProof_79 : decode cX6_leastProof 79 = .ok (.ireturn, 1) := by decide +kernel
theorem dX6_cheapestPeace_0 : decode cX6_cheapestPeace 0 = .ok (.aload_n 0, 1) := by decide +kernel
theorem dX6_cheapestPeace_1 : decode cX6_cheapestPeace 1 = .ok (.getfield 9, 3) := by decide +kernel
theorem dX6_cheapestPeace_4 : decode cX6_cheapestPeace 4 = .ok (.aload_n 0, 1) := by decide +kernel
theorem dX6_cheapestPeace_5 : decode cX6_cheapestPeace 5 = .ok (.getfield 15, 3) := by decide +kernel
theorem dX6_cheapestPeace_8 : decode cX6_cheapestPeace 8 = .ok (.invokevirtual 45, 3) := by decide +kernel
theorem dX6_cheapestPeace_11 : decode cX6_cheapestPeace 11 = .ok (.ifCond .eq 5, 3) := by decide +kernel
theorem dX6_cheapestPeace_14 : decode cX6_cheapestPeace 14 = .ok (.iconst (-1), 1) := by decide +kernel
theorem dX6_cheapestPeace_15 : decode cX6_cheapestPeace 15 = .ok (.ireturn, 1) := by decide +kernel
theorem dX6_cheapestPeace_16 : decode cX6_cheapestPeace 16 = .ok (.aload_n 0, 1) := by decide +kernel
theorem dX6_cheapestPeace_17 : decode cX6_cheapestPeace 17 = .ok (.getfield 19, 3) := by decide +kernel
theorem dX6_cheapestPeace_20 : decode cX6_cheapestPeace 20 = .ok (.istore_n 1, 1) := by decide +kernel
theorem dX6_cheapestPeace_21 : decode cX6_cheapestPeace 21 = .ok (.sipush 991, 3) := by decide +kernel
theorem dX6_cheapestPeace_24 : decode cX6_cheapestPeace 24 = .ok (.istore_n 2, 1) := by decide +kernel
theorem dX6_cheapestPeace_25 : decode cX6_cheapestPeace 25 = .ok (.iconst 0, 1) := by decide +kernel
theorem dX6_cheapestPeace_26 : decode cX6_cheapestPeace 26 = .ok (.istore_n 3, 1) := by decide +kernel
theorem dX6_cheapestPeace_27 : decode cX6_cheapestPeace 27 = .ok (.iload_n 3, 1) := by decide +kernel
theorem dX6_cheapestPeace_28 : decode cX6_cheapestPeace 28 = .ok (.aload_n 0, 1) := by decide +kernel
theorem dX6_cheapestPeace_29 : decode cX6_cheapestPeace 29 = .ok (.getfield 19, 3) := by decide +kernel
theorem dX6_cheapestPeace_32 : decode cX6_cheapestPeace 32 = .ok (.if_icmp .gt 48, 3) := by decide +kernel
theorem dX6_cheapestPeace_35 : decode cX6_cheapestPeace 35 = .ok (.aload_n 0, 1) := by decide +kernel
theorem dX6_cheapestPeace_36 : decode cX6_cheapestPeace 36 = .ok (.iload_n 3, 1) := by decide +kernel
theorem dX6_cheapestPeace_37 : decode cX6_cheapestPeace 37 = .ok (.invokevirtual 41, 3) := by decide +kernel
theorem dX6_cheapestPeace_40 : decode cX6_cheapestPeace 40 = .ok (.ifCond .eq 34, 3) := by decide +kernel
theorem dX6_cheapestPeace_43 : decode cX6_cheapestPeace 43 = .ok (.aload_n 0, 1) := by decide +kernel
theorem dX6_cheapestPeace_44 : decode cX6_cheapestPeace 44 = .ok (.getfield 9, 3) := by decide +kernel
theorem dX6_cheapestPeace_47 : decode cX6_cheapestPeace 47 = .ok (.iload_n 3, 1) := by decide +kernel
theorem dX6_cheapestPeace_48 : decode cX6_cheapestPeace 48 = .ok (.invokevirtual 48, 3) := by decide +kernel
theorem dX6_cheapestPeace_51 : decode cX6_cheapestPeace 51 = .ok (.iload_n 2, 1) := by decide +kernel
theorem dX6_cheapestPeace_52 : decode cX6_cheapestPeace 52 = .ok (.if_icmp .ge 22, 3) := by decide +kernel
theorem dX6_cheapestPeace_55 : decode cX6_cheapestPeace 55 = .ok (.aload_n 0, 1) := by decide +kernel
theorem dX6_cheapestPeace_56 : decode cX6_cheapestPeace 56 = .ok (.iload_n 3, 1) := by decide +kernel
theorem dX6_cheapestPeace_57 : decode cX6_cheapestPeace 57 = .ok (.invokevirtual 51, 3) := by decide +kernel
theorem dX6_cheapestPeace_60 : decode cX6_cheapestPeace 60 = .ok (.ifCond .eq 14, 3) := by decide +kernel
theorem dX6_cheapestPeace_63 : decode cX6_cheapestPeace 63 = .ok (.iload_n 3, 1) := by decide +kernel
theorem dX6_cheapestPeace_64 : decode cX6_cheapestPeace 64 = .ok (.istore_n 1, 1) := by decide +kernel
theorem dX6_cheapestPeace_65 : decode cX6_cheapestPeace 65 = .ok (.aload_n 0, 1) := by decide +kernel
theorem dX6_cheapestPeace_66 : decode cX6_cheapestPeace 66 = .ok (.getfield 9, 3) := by decide +kernel
theorem dX6_cheapestPeace_69 : decode cX6_cheapestPeace 69 = .ok (.iload_n 3, 1) := by decide +kernel
theorem dX6_cheapestPeace_70 : decode cX6_cheapestPeace 70 = .ok (.invokevirtual 48, 3) := by decide +kernel
theorem dX6_cheapestPeace_73 : decode cX6_cheapestPeace 73 = .ok (.istore_n 2, 1) := by decide +kernel
theorem dX6_cheapestPeace_74 : decode cX6_cheapestPeace 74 = .ok (.iinc 3 1, 3) := by decide +kernel
theorem dX6_cheapestPeace_77 : decode cX6_cheapestPeace 77 = .ok (.goto (-50), 3) := by decide +kernel
theorem dX6_cheapestPeace_80 : decode cX6_cheapestPeace 80 = .ok (.iload_n 1, 1) := by decide +kernel
theorem dX6_cheapestPeace_81 : decode cX6_cheapestPeace 81 = .ok (.ireturn, 1) := by decide +kernel
theorem dX6_isPeaceWithout_0 : decode cX6_isPeaceWithout 0 = .ok (.aload_n 0, 1) := by decide +kernel
theorem dX6_isPeaceWithout_1 : decode cX6_isPeaceWithout 1 = .ok (.getfield 9, 3) := by decide +kernel
theorem dX6_isPeaceWithout_4 : decode cX6_isPeaceWithout 4 = .ok (.aload_n 0, 1) := by decide +kernel
theorem dX6_isPeaceWithout_5 : decode cX6_isPeaceWithout 5 = .ok (.getfield 9, 3) := by decide +kernel
theorem dX6_isPeaceWithout_8 : decode cX6_isPeaceWithout 8 = .ok (.aload_n 0, 1) := by decide +kernel
theorem dX6_isPeaceWithout_9 : decode cX6_isPeaceWithout 9 = .ok (.getfield 15, 3) := by decide +kernel
theorem dX6_isPeaceWithout_12 : decode cX6_isPeaceWithout 12 = .ok (.aload_n 0, 1) := by decide +kernel
theorem dX6_isPeaceWithout_13 : decode cX6_isPeaceWithout 13 = .ok (.getfield 19, 3) := by decide +kernel
theorem dX6_isPeaceWithout_16 : decode cX6_isPeaceWithout 16 = .ok (.iload_n 1, 1) := by decide +kernel
theorem dX6_isPeaceWithout_17 : decode cX6_isPeaceWithout 17 = .ok (.iconst (-1), 1) := by decide +kernel
theorem dX6_isPeaceWithout_18 : decode cX6_isPeaceWithout 18 = .ok (.ixor, 1) := by decide +kernel
theorem dX6_isPeaceWithout_19 : decode cX6_isPeaceWithout 19 = .ok (.iand, 1) := by decide +kernel
theorem dX6_isPeaceWithout_20 : decode cX6_isPeaceWithout 20 = .ok (.invokevirtual 22, 3) := by decide +kernel
theorem dX6_isPeaceWithout_23 : decode cX6_isPeaceWithout 23 = .ok (.invokevirtual 45, 3) := by decide +kernel
theorem dX6_isPeaceWithout_26 : decode cX6_isPeaceWithout 26 = .ok (.ifCond .ne 7, 3) := by decide +kernel
theorem dX6_isPeaceWithout_29 : decode cX6_isPeaceWithout 29 = .ok (.iconst 1, 1) := by decide +kernel
theorem dX6_isPeaceWithout_30 : decode cX6_isPeaceWithout 30 = .ok (.goto 4, 3) := by decide +kernel
theorem dX6_isPeaceWithout_33 : decode cX6_isPeaceWithout 33 = .ok (.iconst 0, 1) := by decide +kernel
theorem dX6_isPeaceWithout_34 : decode cX6_isPeaceWithout 34 = .ok (.ireturn, 1) := by decide +kernel
theorem dX6_fewestWords_0 : decode cX6_fewestWords 0 = .ok (.iconst 0, 1) := by decide +kernel
theorem dX6_fewestWords_1 : decode cX6_fewestWords 1 = .ok (.istore_n 2, 1) := by decide +kernel
theorem dX6_fewestWords_2 : decode cX6_fewestWords 2 = .ok (.iload_n 2, 1) := by decide +kernel
theorem dX6_fewestWords_3 : decode cX6_fewestWords 3 = .ok (.iconst 3, 1) := by decide +kernel
theorem dX6_fewestWords_4 : decode cX6_fewestWords 4 = .ok (.if_icmp .gt 31, 3) := by decide +kernel
theorem dX6_fewestWords_7 : decode cX6_fewestWords 7 = .ok (.aload_n 0, 1) := by decide +kernel
theorem dX6_fewestWords_8 : decode cX6_fewestWords 8 = .ok (.iload_n 1, 1) := by decide +kernel
theorem dX6_fewestWords_9 : decode cX6_fewestWords 9 = .ok (.iload_n 2, 1) := by decide +kernel
theorem dX6_fewestWords_10 : decode cX6_fewestWords 10 = .ok (.aload_n 0, 1) := by decide +kernel
theorem dX6_fewestWords_11 : decode cX6_fewestWords 11 = .ok (.getfield 9, 3) := by decide +kernel
theorem dX6_fewestWords_14 : decode cX6_fewestWords 14 = .ok (.invokevirtual 54, 3) := by decide +kernel
theorem dX6_fewestWords_17 : decode cX6_fewestWords 17 = .ok (.iconst 0, 1) := by decide +kernel
theorem dX6_fewestWords_18 : decode cX6_fewestWords 18 = .ok (.invokestatic 58, 3) := by decide +kernel
theorem dX6_fewestWords_21 : decode cX6_fewestWords 21 = .ok (.istore_n 3, 1) := by decide +kernel
theorem dX6_fewestWords_22 : decode cX6_fewestWords 22 = .ok (.iload_n 3, 1) := by decide +kernel
theorem dX6_fewestWords_23 : decode cX6_fewestWords 23 = .ok (.iconst (-1), 1) := by decide +kernel
theorem dX6_fewestWords_24 : decode cX6_fewestWords 24 = .ok (.if_icmp .eq 5, 3) := by decide +kernel
theorem dX6_fewestWords_27 : decode cX6_fewestWords 27 = .ok (.iload_n 3, 1) := by decide +kernel
theorem dX6_fewestWords_28 : decode cX6_fewestWords 28 = .ok (.ireturn, 1) := by decide +kernel
theorem dX6_fewestWords_29 : decode cX6_fewestWords 29 = .ok (.iinc 2 1, 3) := by decide +kernel
theorem dX6_fewestWords_32 : decode cX6_fewestWords 32 = .ok (.goto (-30), 3) := by decide +kernel
theorem dX6_fewestWords_35 : decode cX6_fewestWords 35 = .ok (.iconst (-1), 1) := by decide +kernel
theorem dX6_fewestWords_36 : decode cX6_fewestWords 36 = .ok (.ireturn, 1) := by decide +kernel
theorem dX6_leastWords_0 : decode cX6_leastWords 0 = .ok (.iload_n 2, 1) := by decide +kernel
theorem dX6_leastWords_1 : decode cX6_leastWords 1 = .ok (.ifCond .gt 20, 3) := by decide +kernel
theorem dX6_leastWords_4 : decode cX6_leastWords 4 = .ok (.aload_n 0, 1) := by decide +kernel
theorem dX6_leastWords_5 : decode cX6_leastWords 5 = .ok (.iload_n 1, 1) := by decide +kernel
theorem dX6_leastWords_6 : decode cX6_leastWords 6 = .ok (.iload 4, 2) := by decide +kernel
theorem dX6_leastWords_8 : decode cX6_leastWords 8 = .ok (.invokevirtual 62, 3) := by decide +kernel
theorem dX6_leastWords_11 : decode cX6_leastWords 11 = .ok (.ifCond .eq 8, 3) := by decide +kernel
theorem dX6_leastWords_14 : decode cX6_leastWords 14 = .ok (.iload 4, 2) := by decide +kernel
theorem dX6_leastWords_16 : decode cX6_leastWords 16 = .ok (.goto 4, 3) := by decide +kernel
theorem dX6_leastWords_19 : decode cX6_leastWords 19 = .ok (.iconst (-1), 1) := by decide +kernel
theorem dX6_leastWords_20 : decode cX6_leastWords 20 = .ok (.ireturn, 1) := by decide +kernel
theorem dX6_leastWords_21 : decode cX6_leastWords 21 = .ok (.iload_n 2, 1) := by decide +kernel
theorem dX6_leastWords_22 : decode cX6_leastWords 22 = .ok (.iconst 1, 1) := by decide +kernel
theorem dX6_leastWords_23 : decode cX6_leastWords 23 = .ok (.isub, 1) := by decide +kernel
theorem dX6_leastWords_24 : decode cX6_leastWords 24 = .ok (.istore 5, 2) := by decide +kernel
theorem dX6_leastWords_26 : decode cX6_leastWords 26 = .ok (.iload 5, 2) := by decide +kernel
theorem dX6_leastWords_28 : decode cX6_leastWords 28 = .ok (.iload_n 3, 1) := by decide +kernel
theorem dX6_leastWords_29 : decode cX6_leastWords 29 = .ok (.if_icmp .ge 52, 3) := by decide +kernel
theorem dX6_leastWords_32 : decode cX6_leastWords 32 = .ok (.iload 5, 2) := by decide +kernel
theorem dX6_leastWords_34 : decode cX6_leastWords 34 = .ok (.iload_n 1, 1) := by decide +kernel
theorem dX6_leastWords_35 : decode cX6_leastWords 35 = .ok (.if_icmp .eq 40, 3) := by decide +kernel
theorem dX6_leastWords_38 : decode cX6_leastWords 38 = .ok (.iload 5, 2) := by decide +kernel
theorem dX6_leastWords_40 : decode cX6_leastWords 40 = .ok (.iload_n 1, 1) := by decide +kernel
theorem dX6_leastWords_41 : decode cX6_leastWords 41 = .ok (.invokestatic 65, 3) := by decide +kernel
theorem dX6_leastWords_44 : decode cX6_leastWords 44 = .ok (.if_icmp .eq 31, 3) := by decide +kernel
theorem dX6_leastWords_47 : decode cX6_leastWords 47 = .ok (.aload_n 0, 1) := by decide +kernel
theorem dX6_leastWords_48 : decode cX6_leastWords 48 = .ok (.iload_n 1, 1) := by decide +kernel
theorem dX6_leastWords_49 : decode cX6_leastWords 49 = .ok (.iload_n 2, 1) := by decide +kernel
theorem dX6_leastWords_50 : decode cX6_leastWords 50 = .ok (.iconst 1, 1) := by decide +kernel
theorem dX6_leastWords_51 : decode cX6_leastWords 51 = .ok (.isub, 1) := by decide +kernel
theorem dX6_leastWords_52 : decode cX6_leastWords 52 = .ok (.iload 5, 2) := by decide +kernel
theorem dX6_leastWords_54 : decode cX6_leastWords 54 = .ok (.iload 4, 2) := by decide +kernel
theorem dX6_leastWords_56 : decode cX6_leastWords 56 = .ok (.iconst 1, 1) := by decide +kernel
theorem dX6_leastWords_57 : decode cX6_leastWords 57 = .ok (.iload 5, 2) := by decide +kernel
theorem dX6_leastWords_59 : decode cX6_leastWords 59 = .ok (.ishl, 1) := by decide +kernel
theorem dX6_leastWords_60 : decode cX6_leastWords 60 = .ok (.ior, 1) := by decide +kernel
theorem dX6_leastWords_61 : decode cX6_leastWords 61 = .ok (.invokestatic 58, 3) := by decide +kernel
theorem dX6_leastWords_64 : decode cX6_leastWords 64 = .ok (.istore 6, 2) := by decide +kernel
theorem dX6_leastWords_66 : decode cX6_leastWords 66 = .ok (.iload 6, 2) := by decide +kernel
theorem dX6_leastWords_68 : decode cX6_leastWords 68 = .ok (.iconst (-1), 1) := by decide +kernel
theorem dX6_leastWords_69 : decode cX6_leastWords 69 = .ok (.if_icmp .eq 6, 3) := by decide +kernel
theorem dX6_leastWords_72 : decode cX6_leastWords 72 = .ok (.iload 6, 2) := by decide +kernel
theorem dX6_leastWords_74 : decode cX6_leastWords 74 = .ok (.ireturn, 1) := by decide +kernel
theorem dX6_leastWords_75 : decode cX6_leastWords 75 = .ok (.iinc 5 1, 3) := by decide +kernel
theorem dX6_leastWords_78 : decode cX6_leastWords 78 = .ok (.goto (-52), 3) := by decide +kernel
theorem dX6_leastWords_81 : decode cX6_leastWords 81 = .ok (.iconst (-1), 1) := by decide +kernel
theorem dX6_leastWords_82 : decode cX6_leastWords 82 = .ok (.ireturn, 1) := by decide +kernel
theorem dX6_bringTo_0 : decode cX6_bringTo 0 = .ok (.aload_n 0, 1) := by decide +kernel
theorem dX6_bringTo_1 : decode cX6_bringTo 1 = .ok (.getfield 9, 3) := by decide +kernel
theorem dX6_bringTo_4 : decode cX6_bringTo 4 = .ok (.aload_n 0, 1) := by decide +kernel
theorem dX6_bringTo_5 : decode cX6_bringTo 5 = .ok (.getfield 15, 3) := by decide +kernel
theorem dX6_bringTo_8 : decode cX6_bringTo 8 = .ok (.iload_n 2, 1) := by decide +kernel
theorem dX6_bringTo_9 : decode cX6_bringTo 9 = .ok (.ior, 1) := by decide +kernel
theorem dX6_bringTo_10 : decode cX6_bringTo 10 = .ok (.aload_n 0, 1) := by decide +kernel
theorem dX6_bringTo_11 : decode cX6_bringTo 11 = .ok (.getfield 19, 3) := by decide +kernel
theorem dX6_bringTo_14 : decode cX6_bringTo 14 = .ok (.invokevirtual 22, 3) := by decide +kernel
theorem dX6_bringTo_17 : decode cX6_bringTo 17 = .ok (.istore_n 3, 1) := by decide +kernel
theorem dX6_bringTo_18 : decode cX6_bringTo 18 = .ok (.iload_n 3, 1) := by decide +kernel
theorem dX6_bringTo_19 : decode cX6_bringTo 19 = .ok (.iload_n 1, 1) := by decide +kernel
theorem dX6_bringTo_20 : decode cX6_bringTo 20 = .ok (.invokestatic 28, 3) := by decide +kernel
theorem dX6_bringTo_23 : decode cX6_bringTo 23 = .ok (.ifCond .eq 18, 3) := by decide +kernel
theorem dX6_bringTo_26 : decode cX6_bringTo 26 = .ok (.aload_n 0, 1) := by decide +kernel
theorem dX6_bringTo_27 : decode cX6_bringTo 27 = .ok (.getfield 9, 3) := by decide +kernel
theorem dX6_bringTo_30 : decode cX6_bringTo 30 = .ok (.iload_n 3, 1) := by decide +kernel
theorem dX6_bringTo_31 : decode cX6_bringTo 31 = .ok (.invokevirtual 45, 3) := by decide +kernel
theorem dX6_bringTo_34 : decode cX6_bringTo 34 = .ok (.ifCond .ne 7, 3) := by decide +kernel
theorem dX6_bringTo_37 : decode cX6_bringTo 37 = .ok (.iconst 1, 1) := by decide +kernel
theorem dX6_bringTo_38 : decode cX6_bringTo 38 = .ok (.goto 4, 3) := by decide +kernel
theorem dX6_bringTo_41 : decode cX6_bringTo 41 = .ok (.iconst 0, 1) := by decide +kernel
theorem dX6_bringTo_42 : decode cX6_bringTo 42 = .ok (.ireturn, 1) := by decide +kernel
theorem dX6_neededRules_0 : decode cX6_neededRules 0 = .ok (.aload_n 0, 1) := by decide +kernel
theorem dX6_neededRules_1 : decode cX6_neededRules 1 = .ok (.aload_n 0, 1) := by decide +kernel
theorem dX6_neededRules_2 : decode cX6_neededRules 2 = .ok (.getfield 19, 3) := by decide +kernel
theorem dX6_neededRules_5 : decode cX6_neededRules 5 = .ok (.iload_n 1, 1) := by decide +kernel
theorem dX6_neededRules_6 : decode cX6_neededRules 6 = .ok (.invokevirtual 32, 3) := by decide +kernel
theorem dX6_neededRules_9 : decode cX6_neededRules 9 = .ok (.ifCond .ne 5, 3) := by decide +kernel
theorem dX6_neededRules_12 : decode cX6_neededRules 12 = .ok (.iconst 0, 1) := by decide +kernel
theorem dX6_neededRules_13 : decode cX6_neededRules 13 = .ok (.ireturn, 1) := by decide +kernel
theorem dX6_neededRules_14 : decode cX6_neededRules 14 = .ok (.iconst 0, 1) := by decide +kernel
theorem dX6_neededRules_15 : decode cX6_neededRules 15 = .ok (.istore_n 2, 1) := by decide +kernel
theorem dX6_neededRules_16 : decode cX6_neededRules 16 = .ok (.iconst 0, 1) := by decide +kernel
theorem dX6_neededRules_17 : decode cX6_neededRules 17 = .ok (.istore_n 3, 1) := by decide +kernel
theorem dX6_neededRules_18 : decode cX6_neededRules 18 = .ok (.iload_n 3, 1) := by decide +kernel
theorem dX6_neededRules_19 : decode cX6_neededRules 19 = .ok (.aload_n 0, 1) := by decide +kernel
theorem dX6_neededRules_20 : decode cX6_neededRules 20 = .ok (.getfield 9, 3) := by decide +kernel
theorem dX6_neededRules_23 : decode cX6_neededRules 23 = .ok (.getfield 68, 3) := by decide +kernel
theorem dX6_neededRules_26 : decode cX6_neededRules 26 = .ok (.if_icmp .ge 32, 3) := by decide +kernel
theorem dX6_neededRules_29 : decode cX6_neededRules 29 = .ok (.aload_n 0, 1) := by decide +kernel
theorem dX6_neededRules_30 : decode cX6_neededRules 30 = .ok (.aload_n 0, 1) := by decide +kernel
theorem dX6_neededRules_31 : decode cX6_neededRules 31 = .ok (.getfield 19, 3) := by decide +kernel
theorem dX6_neededRules_34 : decode cX6_neededRules 34 = .ok (.iload_n 3, 1) := by decide +kernel
theorem dX6_neededRules_35 : decode cX6_neededRules 35 = .ok (.iconst 0, 1) := by decide +kernel
theorem dX6_neededRules_36 : decode cX6_neededRules 36 = .ok (.invokestatic 71, 3) := by decide +kernel
theorem dX6_neededRules_39 : decode cX6_neededRules 39 = .ok (.iload_n 1, 1) := by decide +kernel
theorem dX6_neededRules_40 : decode cX6_neededRules 40 = .ok (.invokevirtual 32, 3) := by decide +kernel
theorem dX6_neededRules_43 : decode cX6_neededRules 43 = .ok (.ifCond .ne 9, 3) := by decide +kernel
theorem dX6_neededRules_46 : decode cX6_neededRules 46 = .ok (.iload_n 2, 1) := by decide +kernel
theorem dX6_neededRules_47 : decode cX6_neededRules 47 = .ok (.iconst 1, 1) := by decide +kernel
theorem dX6_neededRules_48 : decode cX6_neededRules 48 = .ok (.iload_n 3, 1) := by decide +kernel
theorem dX6_neededRules_49 : decode cX6_neededRules 49 = .ok (.ishl, 1) := by decide +kernel
theorem dX6_neededRules_50 : decode cX6_neededRules 50 = .ok (.ior, 1) := by decide +kernel
theorem dX6_neededRules_51 : decode cX6_neededRules 51 = .ok (.istore_n 2, 1) := by decide +kernel
theorem dX6_neededRules_52 : decode cX6_neededRules 52 = .ok (.iinc 3 1, 3) := by decide +kernel
theorem dX6_neededRules_55 : decode cX6_neededRules 55 = .ok (.goto (-37), 3) := by decide +kernel
theorem dX6_neededRules_58 : decode cX6_neededRules 58 = .ok (.iload_n 2, 1) := by decide +kernel
theorem dX6_neededRules_59 : decode cX6_neededRules 59 = .ok (.ireturn, 1) := by decide +kernel
theorem dX6_fewestBars_0 : decode cX6_fewestBars 0 = .ok (.aload_n 0, 1) := by decide +kernel
theorem dX6_fewestBars_1 : decode cX6_fewestBars 1 = .ok (.getfield 15, 3) := by decide +kernel
theorem dX6_fewestBars_4 : decode cX6_fewestBars 4 = .ok (.iload_n 1, 1) := by decide +kernel
theorem dX6_fewestBars_5 : decode cX6_fewestBars 5 = .ok (.invokestatic 28, 3) := by decide +kernel
theorem dX6_fewestBars_8 : decode cX6_fewestBars 8 = .ok (.ifCond .eq 5, 3) := by decide +kernel
theorem dX6_fewestBars_11 : decode cX6_fewestBars 11 = .ok (.iconst (-1), 1) := by decide +kernel
theorem dX6_fewestBars_12 : decode cX6_fewestBars 12 = .ok (.ireturn, 1) := by decide +kernel
theorem dX6_fewestBars_13 : decode cX6_fewestBars 13 = .ok (.aload_n 0, 1) := by decide +kernel
theorem dX6_fewestBars_14 : decode cX6_fewestBars 14 = .ok (.getfield 19, 3) := by decide +kernel
theorem dX6_fewestBars_17 : decode cX6_fewestBars 17 = .ok (.istore_n 2, 1) := by decide +kernel
theorem dX6_fewestBars_18 : decode cX6_fewestBars 18 = .ok (.bipush 11, 2) := by decide +kernel
theorem dX6_fewestBars_20 : decode cX6_fewestBars 20 = .ok (.istore_n 3, 1) := by decide +kernel
theorem dX6_fewestBars_21 : decode cX6_fewestBars 21 = .ok (.iconst 0, 1) := by decide +kernel
theorem dX6_fewestBars_22 : decode cX6_fewestBars 22 = .ok (.istore 4, 2) := by decide +kernel
theorem dX6_fewestBars_24 : decode cX6_fewestBars 24 = .ok (.iload 4, 2) := by decide +kernel
theorem dX6_fewestBars_26 : decode cX6_fewestBars 26 = .ok (.aload_n 0, 1) := by decide +kernel
theorem dX6_fewestBars_27 : decode cX6_fewestBars 27 = .ok (.getfield 19, 3) := by decide +kernel
theorem dX6_fewestBars_30 : decode cX6_fewestBars 30 = .ok (.if_icmp .gt 54, 3) := by decide +kernel
theorem dX6_fewestBars_33 : decode cX6_fewestBars 33 = .ok (.iload 4, 2) := by decide +kernel
theorem dX6_fewestBars_35 : decode cX6_fewestBars 35 = .ok (.invokestatic 35, 3) := by decide +kernel
theorem dX6_fewestBars_38 : decode cX6_fewestBars 38 = .ok (.istore 5, 2) := by decide +kernel
theorem dX6_fewestBars_40 : decode cX6_fewestBars 40 = .ok (.aload_n 0, 1) := by decide +kernel
theorem dX6_fewestBars_41 : decode cX6_fewestBars 41 = .ok (.iload 4, 2) := by decide +kernel
theorem dX6_fewestBars_43 : decode cX6_fewestBars 43 = .ok (.invokevirtual 41, 3) := by decide +kernel
theorem dX6_fewestBars_46 : decode cX6_fewestBars 46 = .ok (.ifCond .eq 32, 3) := by decide +kernel
theorem dX6_fewestBars_49 : decode cX6_fewestBars 49 = .ok (.iload 5, 2) := by decide +kernel
theorem dX6_fewestBars_51 : decode cX6_fewestBars 51 = .ok (.iload_n 3, 1) := by decide +kernel
theorem dX6_fewestBars_52 : decode cX6_fewestBars 52 = .ok (.if_icmp .ge 26, 3) := by decide +kernel
theorem dX6_fewestBars_55 : decode cX6_fewestBars 55 = .ok (.aload_n 0, 1) := by decide +kernel
theorem dX6_fewestBars_56 : decode cX6_fewestBars 56 = .ok (.aload_n 0, 1) := by decide +kernel
theorem dX6_fewestBars_57 : decode cX6_fewestBars 57 = .ok (.getfield 19, 3) := by decide +kernel
theorem dX6_fewestBars_60 : decode cX6_fewestBars 60 = .ok (.iload 4, 2) := by decide +kernel
theorem dX6_fewestBars_62 : decode cX6_fewestBars 62 = .ok (.iconst (-1), 1) := by decide +kernel
theorem dX6_fewestBars_63 : decode cX6_fewestBars 63 = .ok (.ixor, 1) := by decide +kernel
theorem dX6_fewestBars_64 : decode cX6_fewestBars 64 = .ok (.iand, 1) := by decide +kernel
theorem dX6_fewestBars_65 : decode cX6_fewestBars 65 = .ok (.iload_n 1, 1) := by decide +kernel
theorem dX6_fewestBars_66 : decode cX6_fewestBars 66 = .ok (.invokevirtual 32, 3) := by decide +kernel
theorem dX6_fewestBars_69 : decode cX6_fewestBars 69 = .ok (.ifCond .ne 9, 3) := by decide +kernel
theorem dX6_fewestBars_72 : decode cX6_fewestBars 72 = .ok (.iload 4, 2) := by decide +kernel
theorem dX6_fewestBars_74 : decode cX6_fewestBars 74 = .ok (.istore_n 2, 1) := by decide +kernel
theorem dX6_fewestBars_75 : decode cX6_fewestBars 75 = .ok (.iload 5, 2) := by decide +kernel
theorem dX6_fewestBars_77 : decode cX6_fewestBars 77 = .ok (.istore_n 3, 1) := by decide +kernel
theorem dX6_fewestBars_78 : decode cX6_fewestBars 78 = .ok (.iinc 4 1, 3) := by decide +kernel
theorem dX6_fewestBars_81 : decode cX6_fewestBars 81 = .ok (.goto (-57), 3) := by decide +kernel
theorem dX6_fewestBars_84 : decode cX6_fewestBars 84 = .ok (.iload_n 2, 1) := by decide +kernel
theorem dX6_fewestBars_85 : decode cX6_fewestBars 85 = .ok (.ireturn, 1) := by decide +kernel
theorem dX6_circles_0 : decode cX6_circles 0 = .ok (.iconst 0, 1) := by decide +kernel
theorem dX6_circles_1 : decode cX6_circles 1 = .ok (.istore_n 1, 1) := by decide +kernel
theorem dX6_circles_2 : decode cX6_circles 2 = .ok (.iconst 0, 1) := by decide +kernel
theorem dX6_circles_3 : decode cX6_circles 3 = .ok (.istore_n 2, 1) := by decide +kernel
theorem dX6_circles_4 : decode cX6_circles 4 = .ok (.iload_n 2, 1) := by decide +kernel
theorem dX6_circles_5 : decode cX6_circles 5 = .ok (.aload_n 0, 1) := by decide +kernel
theorem dX6_circles_6 : decode cX6_circles 6 = .ok (.getfield 9, 3) := by decide +kernel
theorem dX6_circles_9 : decode cX6_circles 9 = .ok (.invokevirtual 54, 3) := by decide +kernel
theorem dX6_circles_12 : decode cX6_circles 12 = .ok (.if_icmp .ge 27, 3) := by decide +kernel
theorem dX6_circles_15 : decode cX6_circles 15 = .ok (.iload_n 1, 1) := by decide +kernel
theorem dX6_circles_16 : decode cX6_circles 16 = .ok (.aload_n 0, 1) := by decide +kernel
theorem dX6_circles_17 : decode cX6_circles 17 = .ok (.iload_n 2, 1) := by decide +kernel
theorem dX6_circles_18 : decode cX6_circles 18 = .ok (.invokevirtual 75, 3) := by decide +kernel
theorem dX6_circles_21 : decode cX6_circles 21 = .ok (.ifCond .eq 9, 3) := by decide +kernel
theorem dX6_circles_24 : decode cX6_circles 24 = .ok (.iconst 1, 1) := by decide +kernel
theorem dX6_circles_25 : decode cX6_circles 25 = .ok (.iload_n 2, 1) := by decide +kernel
theorem dX6_circles_26 : decode cX6_circles 26 = .ok (.ishl, 1) := by decide +kernel
theorem dX6_circles_27 : decode cX6_circles 27 = .ok (.goto 4, 3) := by decide +kernel
theorem dX6_circles_30 : decode cX6_circles 30 = .ok (.iconst 0, 1) := by decide +kernel
theorem dX6_circles_31 : decode cX6_circles 31 = .ok (.ior, 1) := by decide +kernel
theorem dX6_circles_32 : decode cX6_circles 32 = .ok (.istore_n 1, 1) := by decide +kernel
theorem dX6_circles_33 : decode cX6_circles 33 = .ok (.iinc 2 1, 3) := by decide +kernel
theorem dX6_circles_36 : decode cX6_circles 36 = .ok (.goto (-32), 3) := by decide +kernel
theorem dX6_circles_39 : decode cX6_circles 39 = .ok (.iload_n 1, 1) := by decide +kernel
theorem dX6_circles_40 : decode cX6_circles 40 = .ok (.ireturn, 1) := by decide +kernel
theorem dX6_returnsTo_0 : decode cX6_returnsTo 0 = .ok (.aload_n 0, 1) := by decide +kernel
theorem dX6_returnsTo_1 : decode cX6_returnsTo 1 = .ok (.getfield 9, 3) := by decide +kernel
theorem dX6_returnsTo_4 : decode cX6_returnsTo 4 = .ok (.iconst 1, 1) := by decide +kernel
theorem dX6_returnsTo_5 : decode cX6_returnsTo 5 = .ok (.iload_n 1, 1) := by decide +kernel
theorem dX6_returnsTo_6 : decode cX6_returnsTo 6 = .ok (.ishl, 1) := by decide +kernel
theorem dX6_returnsTo_7 : decode cX6_returnsTo 7 = .ok (.aload_n 0, 1) := by decide +kernel
theorem dX6_returnsTo_8 : decode cX6_returnsTo 8 = .ok (.getfield 19, 3) := by decide +kernel
theorem dX6_returnsTo_11 : decode cX6_returnsTo 11 = .ok (.invokevirtual 22, 3) := by decide +kernel
theorem dX6_returnsTo_14 : decode cX6_returnsTo 14 = .ok (.istore_n 2, 1) := by decide +kernel
theorem dX6_returnsTo_15 : decode cX6_returnsTo 15 = .ok (.iconst 0, 1) := by decide +kernel
theorem dX6_returnsTo_16 : decode cX6_returnsTo 16 = .ok (.istore_n 3, 1) := by decide +kernel
theorem dX6_returnsTo_17 : decode cX6_returnsTo 17 = .ok (.iload_n 3, 1) := by decide +kernel
theorem dX6_returnsTo_18 : decode cX6_returnsTo 18 = .ok (.aload_n 0, 1) := by decide +kernel
theorem dX6_returnsTo_19 : decode cX6_returnsTo 19 = .ok (.getfield 9, 3) := by decide +kernel
theorem dX6_returnsTo_22 : decode cX6_returnsTo 22 = .ok (.getfield 68, 3) := by decide +kernel
theorem dX6_returnsTo_25 : decode cX6_returnsTo 25 = .ok (.if_icmp .ge 51, 3) := by decide +kernel
theorem dX6_returnsTo_28 : decode cX6_returnsTo 28 = .ok (.aload_n 0, 1) := by decide +kernel
theorem dX6_returnsTo_29 : decode cX6_returnsTo 29 = .ok (.getfield 19, 3) := by decide +kernel
theorem dX6_returnsTo_32 : decode cX6_returnsTo 32 = .ok (.iload_n 3, 1) := by decide +kernel
theorem dX6_returnsTo_33 : decode cX6_returnsTo 33 = .ok (.invokestatic 28, 3) := by decide +kernel
theorem dX6_returnsTo_36 : decode cX6_returnsTo 36 = .ok (.ifCond .eq 34, 3) := by decide +kernel
theorem dX6_returnsTo_39 : decode cX6_returnsTo 39 = .ok (.aload_n 0, 1) := by decide +kernel
theorem dX6_returnsTo_40 : decode cX6_returnsTo 40 = .ok (.getfield 9, 3) := by decide +kernel
theorem dX6_returnsTo_43 : decode cX6_returnsTo 43 = .ok (.getfield 78, 3) := by decide +kernel
theorem dX6_returnsTo_46 : decode cX6_returnsTo 46 = .ok (.iload_n 3, 1) := by decide +kernel
theorem dX6_returnsTo_47 : decode cX6_returnsTo 47 = .ok (.iaload, 1) := by decide +kernel
theorem dX6_returnsTo_48 : decode cX6_returnsTo 48 = .ok (.iload_n 1, 1) := by decide +kernel
theorem dX6_returnsTo_49 : decode cX6_returnsTo 49 = .ok (.if_icmp .ne 21, 3) := by decide +kernel
theorem dX6_returnsTo_52 : decode cX6_returnsTo 52 = .ok (.aload_n 0, 1) := by decide +kernel
theorem dX6_returnsTo_53 : decode cX6_returnsTo 53 = .ok (.getfield 9, 3) := by decide +kernel
theorem dX6_returnsTo_56 : decode cX6_returnsTo 56 = .ok (.getfield 82, 3) := by decide +kernel
theorem dX6_returnsTo_59 : decode cX6_returnsTo 59 = .ok (.iload_n 3, 1) := by decide +kernel
theorem dX6_returnsTo_60 : decode cX6_returnsTo 60 = .ok (.iaload, 1) := by decide +kernel
theorem dX6_returnsTo_61 : decode cX6_returnsTo 61 = .ok (.iload_n 2, 1) := by decide +kernel
theorem dX6_returnsTo_62 : decode cX6_returnsTo 62 = .ok (.iconst (-1), 1) := by decide +kernel
theorem dX6_returnsTo_63 : decode cX6_returnsTo 63 = .ok (.ixor, 1) := by decide +kernel
theorem dX6_returnsTo_64 : decode cX6_returnsTo 64 = .ok (.iand, 1) := by decide +kernel
theorem dX6_returnsTo_65 : decode cX6_returnsTo 65 = .ok (.ifCond .ne 5, 3) := by decide +kernel
theorem dX6_returnsTo_68 : decode cX6_returnsTo 68 = .ok (.iconst 1, 1) := by decide +kernel
theorem dX6_returnsTo_69 : decode cX6_returnsTo 69 = .ok (.ireturn, 1) := by decide +kernel
theorem dX6_returnsTo_70 : decode cX6_returnsTo 70 = .ok (.iinc 3 1, 3) := by decide +kernel
theorem dX6_returnsTo_73 : decode cX6_returnsTo 73 = .ok (.goto (-56), 3) := by decide +kernel
theorem dX6_returnsTo_76 : decode cX6_returnsTo 76 = .ok (.iconst 0, 1) := by decide +kernel
theorem dX6_returnsTo_77 : decode cX6_returnsTo 77 = .ok (.ireturn, 1) := by decide +kernel
theorem dX6_isAllowed_0 : decode cX6_isAllowed 0 = .ok (.iload_n 1, 1) := by decide +kernel
theorem dX6_isAllowed_1 : decode cX6_isAllowed 1 = .ok (.aload_n 0, 1) := by decide +kernel
theorem dX6_isAllowed_2 : decode cX6_isAllowed 2 = .ok (.getfield 19, 3) := by decide +kernel
theorem dX6_isAllowed_5 : decode cX6_isAllowed 5 = .ok (.iconst (-1), 1) := by decide +kernel
theorem dX6_isAllowed_6 : decode cX6_isAllowed 6 = .ok (.ixor, 1) := by decide +kernel
theorem dX6_isAllowed_7 : decode cX6_isAllowed 7 = .ok (.iand, 1) := by decide +kernel
theorem dX6_isAllowed_8 : decode cX6_isAllowed 8 = .ok (.ifCond .ne 7, 3) := by decide +kernel
theorem dX6_isAllowed_11 : decode cX6_isAllowed 11 = .ok (.iconst 1, 1) := by decide +kernel
theorem dX6_isAllowed_12 : decode cX6_isAllowed 12 = .ok (.goto 4, 3) := by decide +kernel
theorem dX6_isAllowed_15 : decode cX6_isAllowed 15 = .ok (.iconst 0, 1) := by decide +kernel
theorem dX6_isAllowed_16 : decode cX6_isAllowed 16 = .ok (.ireturn, 1) := by decide +kernel
theorem dX7_init_0 : decode cX7_init 0 = .ok (.aload_n 0, 1) := by decide +kernel
theorem dX7_init_1 : decode cX7_init 1 = .ok (.invokespecial 3, 3) := by decide +kernel
theorem dX7_init_4 : decode cX7_init 4 = .ok (.aload_n 0, 1) := by decide +kernel
theorem dX7_init_5 : decode cX7_init 5 = .ok (.new 9, 3) := by decide +kernel
theorem dX7_init_8 : decode cX7_init 8 = .ok (.dup, 1) := by decide +kernel
theorem dX7_init_9 : decode cX7_init 9 = .ok (.invokespecial 11, 3) := by decide +kernel
theorem dX7_init_12 : decode cX7_init 12 = .ok (.putfield 12, 3) := by decide +kernel
theorem dX7_init_15 : decode cX7_init 15 = .ok (.aload_n 0, 1) := by decide +kernel
theorem dX7_init_16 : decode cX7_init 16 = .ok (.new 16, 3) := by decide +kernel
theorem dX7_init_19 : decode cX7_init 19 = .ok (.dup, 1) := by decide +kernel
theorem dX7_init_20 : decode cX7_init 20 = .ok (.invokespecial 18, 3) := by decide +kernel
theorem dX7_init_23 : decode cX7_init 23 = .ok (.putfield 19, 3) := by decide +kernel
theorem dX7_init_26 : decode cX7_init 26 = .ok (.aload_n 0, 1) := by decide +kernel
theorem dX7_init_27 : decode cX7_init 27 = .ok (.new 23, 3) := by decide +kernel
theorem dX7_init_30 : decode cX7_init 30 = .ok (.dup, 1) := by decide +kernel
theorem dX7_init_31 : decode cX7_init 31 = .ok (.invokespecial 25, 3) := by decide +kernel
theorem dX7_init_34 : decode cX7_init 34 = .ok (.putfield 26, 3) := by decide +kernel
theorem dX7_init_37 : decode cX7_init 37 = .ok (.aload_n 0, 1) := by decide +kernel
theorem dX7_init_38 : decode cX7_init 38 = .ok (.new 30, 3) := by decide +kernel
theorem dX7_init_41 : decode cX7_init 41 = .ok (.dup, 1) := by decide +kernel
theorem dX7_init_42 : decode cX7_init 42 = .ok (.invokespecial 32, 3) := by decide +kernel
theorem dX7_init_45 : decode cX7_init 45 = .ok (.putfield 33, 3) := by decide +kernel
theorem dX7_init_48 : decode cX7_init 48 = .ok (.aload_n 0, 1) := by decide +kernel
theorem dX7_init_49 : decode cX7_init 49 = .ok (.iconst 2, 1) := by decide +kernel
theorem dX7_init_50 : decode cX7_init 50 = .ok (.anewarray 37, 3) := by decide +kernel
theorem dX7_init_53 : decode cX7_init 53 = .ok (.putfield 39, 3) := by decide +kernel
theorem dX7_init_56 : decode cX7_init 56 = .ok (.aload_n 0, 1) := by decide +kernel
theorem dX7_init_57 : decode cX7_init 57 = .ok (.iconst 2, 1) := by decide +kernel
theorem dX7_init_58 : decode cX7_init 58 = .ok (.newarray .int, 2) := by decide +kernel
theorem dX7_init_60 : decode cX7_init 60 = .ok (.putfield 43, 3) := by decide +kernel
theorem dX7_init_63 : decode cX7_init 63 = .ok (.aload_n 0, 1) := by decide +kernel
theorem dX7_init_64 : decode cX7_init 64 = .ok (.bipush 10, 2) := by decide +kernel
theorem dX7_init_66 : decode cX7_init 66 = .ok (.newarray .long, 2) := by decide +kernel
theorem dX7_init_68 : decode cX7_init 68 = .ok (.putfield 47, 3) := by decide +kernel
theorem dX7_init_71 : decode cX7_init 71 = .ok (.aload_n 0, 1) := by decide +kernel
theorem dX7_init_72 : decode cX7_init 72 = .ok (.bipush 16, 2) := by decide +kernel
theorem dX7_init_74 : decode cX7_init 74 = .ok (.newarray .int, 2) := by decide +kernel
theorem dX7_init_76 : decode cX7_init 76 = .ok (.putfield 51, 3) := by decide +kernel
theorem dX7_init_79 : decode cX7_init 79 = .ok (.aload_n 0, 1) := by decide +kernel
theorem dX7_init_80 : decode cX7_init 80 = .ok (.new 54, 3) := by decide +kernel
theorem dX7_init_83 : decode cX7_init 83 = .ok (.dup, 1) := by decide +kernel
theorem dX7_init_84 : decode cX7_init 84 = .ok (.invokespecial 56, 3) := by decide +kernel
theorem dX7_init_87 : decode cX7_init 87 = .ok (.putfield 57, 3) := by decide +kernel
theorem dX7_init_90 : decode cX7_init 90 = .ok (.aload_n 0, 1) := by decide +kernel
theorem dX7_init_91 : decode cX7_init 91 = .ok (.new 54, 3) := by decide +kernel
theorem dX7_init_94 : decode cX7_init 94 = .ok (.dup, 1) := by decide +kernel
theorem dX7_init_95 : decode cX7_init 95 = .ok (.invokespecial 56, 3) := by decide +kernel
theorem dX7_init_98 : decode cX7_init 98 = .ok (.putfield 61, 3) := by decide +kernel
theorem dX7_init_101 : decode cX7_init 101 = .ok (.aload_n 0, 1) := by decide +kernel
theorem dX7_init_102 : decode cX7_init 102 = .ok (.new 37, 3) := by decide +kernel
theorem dX7_init_105 : decode cX7_init 105 = .ok (.dup, 1) := by decide +kernel
theorem dX7_init_106 : decode cX7_init 106 = .ok (.iconst 0, 1) := by decide +kernel
theorem dX7_init_107 : decode cX7_init 107 = .ok (.iconst 0, 1) := by decide +kernel
theorem dX7_init_108 : decode cX7_init 108 = .ok (.iconst 0, 1) := by decide +kernel
theorem dX7_init_109 : decode cX7_init 109 = .ok (.iconst 0, 1) := by decide +kernel
theorem dX7_init_110 : decode cX7_init 110 = .ok (.invokespecial 64, 3) := by decide +kernel
theorem dX7_init_113 : decode cX7_init 113 = .ok (.putfield 67, 3) := by decide +kernel
theorem dX7_init_116 : decode cX7_init 116 = .ok (.aload_n 0, 1) := by decide +kernel
theorem dX7_init_117 : decode cX7_init 117 = .ok (.iconst 0, 1) := by decide +kernel
theorem dX7_init_118 : decode cX7_init 118 = .ok (.putfield 71, 3) := by decide +kernel
theorem dX7_init_121 : decode cX7_init 121 = .ok (.return_, 1) := by decide +kernel
theorem dX7_feed_0 : decode cX7_feed 0 = .ok (.iload_n 1, 1) := by decide +kernel
theorem dX7_feed_1 : decode cX7_feed 1 = .ok (.ifCond .lt 10, 3) := by decide +kernel
theorem dX7_feed_4 : decode cX7_feed 4 = .ok (.iload_n 1, 1) := by decide +kernel
theorem dX7_feed_5 : decode cX7_feed 5 = .ok (.sipush 255, 3) := by decide +kernel
theorem dX7_feed_8 : decode cX7_feed 8 = .ok (.if_icmp .le 6, 3) := by decide +kernel
theorem dX7_feed_11 : decode cX7_feed 11 = .ok (.ldc 75, 2) := by decide +kernel
theorem dX7_feed_13 : decode cX7_feed 13 = .ok (.ireturn, 1) := by decide +kernel
theorem dX7_feed_14 : decode cX7_feed 14 = .ok (.aload_n 0, 1) := by decide +kernel
theorem dX7_feed_15 : decode cX7_feed 15 = .ok (.getfield 12, 3) := by decide +kernel
theorem dX7_feed_18 : decode cX7_feed 18 = .ok (.iload_n 1, 1) := by decide +kernel
theorem dX7_feed_19 : decode cX7_feed 19 = .ok (.invokevirtual 76, 3) := by decide +kernel
theorem dX7_feed_22 : decode cX7_feed 22 = .ok (.ifCond .eq 13, 3) := by decide +kernel
theorem dX7_feed_25 : decode cX7_feed 25 = .ok (.aload_n 0, 1) := by decide +kernel
theorem dX7_feed_26 : decode cX7_feed 26 = .ok (.getfield 12, 3) := by decide +kernel
theorem dX7_feed_29 : decode cX7_feed 29 = .ok (.invokevirtual 80, 3) := by decide +kernel
theorem dX7_feed_32 : decode cX7_feed 32 = .ok (.goto 5, 3) := by decide +kernel
theorem dX7_feed_35 : decode cX7_feed 35 = .ok (.ldc 84, 2) := by decide +kernel
theorem dX7_feed_37 : decode cX7_feed 37 = .ok (.ireturn, 1) := by decide +kernel
theorem dX7_town_0 : decode cX7_town 0 = .ok (.aload_n 0, 1) := by decide +kernel
theorem dX7_town_1 : decode cX7_town 1 = .ok (.getfield 12, 3) := by decide +kernel
theorem dX7_town_4 : decode cX7_town 4 = .ok (.aload_n 0, 1) := by decide +kernel
theorem dX7_town_5 : decode cX7_town 5 = .ok (.getfield 61, 3) := by decide +kernel
theorem dX7_town_8 : decode cX7_town 8 = .ok (.invokevirtual 85, 3) := by decide +kernel
theorem dX7_town_11 : decode cX7_town 11 = .ok (.aload_n 0, 1) := by decide +kernel
theorem dX7_town_12 : decode cX7_town 12 = .ok (.getfield 12, 3) := by decide +kernel
theorem dX7_town_15 : decode cX7_town 15 = .ok (.invokevirtual 89, 3) := by decide +kernel
theorem dX7_town_18 : decode cX7_town 18 = .ok (.aload_n 0, 1) := by decide +kernel
theorem dX7_town_19 : decode cX7_town 19 = .ok (.getfield 12, 3) := by decide +kernel
theorem dX7_town_22 : decode cX7_town 22 = .ok (.invokevirtual 92, 3) := by decide +kernel
theorem dX7_town_25 : decode cX7_town 25 = .ok (.ifCond .eq 14, 3) := by decide +kernel
theorem dX7_town_28 : decode cX7_town 28 = .ok (.bipush (-10), 2) := by decide +kernel
theorem dX7_town_30 : decode cX7_town 30 = .ok (.aload_n 0, 1) := by decide +kernel
theorem dX7_town_31 : decode cX7_town 31 = .ok (.getfield 12, 3) := by decide +kernel
theorem dX7_town_34 : decode cX7_town 34 = .ok (.invokevirtual 92, 3) := by decide +kernel
theorem dX7_town_37 : decode cX7_town 37 = .ok (.isub, 1) := by decide +kernel
theorem dX7_town_38 : decode cX7_town 38 = .ok (.ireturn, 1) := by decide +kernel
theorem dX7_town_39 : decode cX7_town 39 = .ok (.aload_n 0, 1) := by decide +kernel
theorem dX7_town_40 : decode cX7_town 40 = .ok (.getfield 57, 3) := by decide +kernel
theorem dX7_town_43 : decode cX7_town 43 = .ok (.astore_n 1, 1) := by decide +kernel
theorem dX7_town_44 : decode cX7_town 44 = .ok (.aload_n 0, 1) := by decide +kernel
theorem dX7_town_45 : decode cX7_town 45 = .ok (.aload_n 0, 1) := by decide +kernel
theorem dX7_town_46 : decode cX7_town 46 = .ok (.getfield 61, 3) := by decide +kernel
theorem dX7_town_49 : decode cX7_town 49 = .ok (.putfield 57, 3) := by decide +kernel
theorem dX7_town_52 : decode cX7_town 52 = .ok (.aload_n 0, 1) := by decide +kernel
theorem dX7_town_53 : decode cX7_town 53 = .ok (.aload_n 1, 1) := by decide +kernel
theorem dX7_town_54 : decode cX7_town 54 = .ok (.putfield 61, 3) := by decide +kernel
theorem dX7_town_57 : decode cX7_town 57 = .ok (.aload_n 0, 1) := by decide +kernel
theorem dX7_town_58 : decode cX7_town 58 = .ok (.invokevirtual 95, 3) := by decide +kernel
theorem dX7_town_61 : decode cX7_town 61 = .ok (.aload_n 0, 1) := by decide +kernel
theorem dX7_town_62 : decode cX7_town 62 = .ok (.getfield 57, 3) := by decide +kernel
theorem dX7_town_65 : decode cX7_town 65 = .ok (.getfield 98, 3) := by decide +kernel
theorem dX7_town_68 : decode cX7_town 68 = .ok (.ireturn, 1) := by decide +kernel
theorem dX7_beginAnew_0 : decode cX7_beginAnew 0 = .ok (.aload_n 0, 1) := by decide +kernel
theorem dX7_beginAnew_1 : decode cX7_beginAnew 1 = .ok (.new 37, 3) := by decide +kernel
theorem dX7_beginAnew_4 : decode cX7_beginAnew 4 = .ok (.dup, 1) := by decide +kernel
theorem dX7_beginAnew_5 : decode cX7_beginAnew 5 = .ok (.aload_n 0, 1) := by decide +kernel
theorem dX7_beginAnew_6 : decode cX7_beginAnew 6 = .ok (.getfield 57, 3) := by decide +kernel
theorem dX7_beginAnew_9 : decode cX7_beginAnew 9 = .ok (.getfield 101, 3) := by decide +kernel
theorem dX7_beginAnew_12 : decode cX7_beginAnew 12 = .ok (.iconst 0, 1) := by decide +kernel
theorem dX7_beginAnew_13 : decode cX7_beginAnew 13 = .ok (.iconst 0, 1) := by decide +kernel
theorem dX7_beginAnew_14 : decode cX7_beginAnew 14 = .ok (.iconst 0, 1) := by decide +kernel
theorem dX7_beginAnew_15 : decode cX7_beginAnew 15 = .ok (.invokespecial 64, 3) := by decide +kernel
theorem dX7_beginAnew_18 : decode cX7_beginAnew 18 = .ok (.putfield 67, 3) := by decide +kernel
theorem dX7_beginAnew_21 : decode cX7_beginAnew 21 = .ok (.aload_n 0, 1) := by decide +kernel
theorem dX7_beginAnew_22 : decode cX7_beginAnew 22 = .ok (.getfield 19, 3) := by decide +kernel
theorem dX7_beginAnew_25 : decode cX7_beginAnew 25 = .ok (.invokevirtual 104, 3) := by decide +kernel
theorem dX7_beginAnew_28 : decode cX7_beginAnew 28 = .ok (.aload_n 0, 1) := by decide +kernel
theorem dX7_beginAnew_29 : decode cX7_beginAnew 29 = .ok (.getfield 26, 3) := by decide +kernel
theorem dX7_beginAnew_32 : decode cX7_beginAnew 32 = .ok (.invokevirtual 107, 3) := by decide +kernel
theorem dX7_beginAnew_35 : decode cX7_beginAnew 35 = .ok (.aload_n 0, 1) := by decide +kernel
theorem dX7_beginAnew_36 : decode cX7_beginAnew 36 = .ok (.getfield 33, 3) := by decide +kernel
theorem dX7_beginAnew_39 : decode cX7_beginAnew 39 = .ok (.invokevirtual 108, 3) := by decide +kernel
theorem dX7_beginAnew_42 : decode cX7_beginAnew 42 = .ok (.iconst 0, 1) := by decide +kernel
theorem dX7_beginAnew_43 : decode cX7_beginAnew 43 = .ok (.istore_n 1, 1) := by decide +kernel
theorem dX7_beginAnew_44 : decode cX7_beginAnew 44 = .ok (.iload_n 1, 1) := by decide +kernel
theorem dX7_beginAnew_45 : decode cX7_beginAnew 45 = .ok (.iconst 2, 1) := by decide +kernel
theorem dX7_beginAnew_46 : decode cX7_beginAnew 46 = .ok (.if_icmp .ge 16, 3) := by decide +kernel
theorem dX7_beginAnew_49 : decode cX7_beginAnew 49 = .ok (.aload_n 0, 1) := by decide +kernel
theorem dX7_beginAnew_50 : decode cX7_beginAnew 50 = .ok (.getfield 39, 3) := by decide +kernel
theorem dX7_beginAnew_53 : decode cX7_beginAnew 53 = .ok (.iload_n 1, 1) := by decide +kernel
theorem dX7_beginAnew_54 : decode cX7_beginAnew 54 = .ok (.aconst_null, 1) := by decide +kernel
theorem dX7_beginAnew_55 : decode cX7_beginAnew 55 = .ok (.aastore, 1) := by decide +kernel
theorem dX7_beginAnew_56 : decode cX7_beginAnew 56 = .ok (.iinc 1 1, 3) := by decide +kernel
theorem dX7_beginAnew_59 : decode cX7_beginAnew 59 = .ok (.goto (-15), 3) := by decide +kernel
theorem dX7_beginAnew_62 : decode cX7_beginAnew 62 = .ok (.return_, 1) := by decide +kernel
theorem dX7_fault_0 : decode cX7_fault 0 = .ok (.aload_n 0, 1) := by decide +kernel
theorem dX7_fault_1 : decode cX7_fault 1 = .ok (.getfield 12, 3) := by decide +kernel
theorem dX7_fault_4 : decode cX7_fault 4 = .ok (.invokevirtual 109, 3) := by decide +kernel
theorem dX7_fault_7 : decode cX7_fault 7 = .ok (.ireturn, 1) := by decide +kernel
theorem dX7_told_0 : decode cX7_told 0 = .ok (.iload_n 1, 1) := by decide +kernel
theorem dX7_told_1 : decode cX7_told 1 = .ok (.tableswitch 185 0 12 #[67, 75, 83, 91, 99, 107, 115, 123, 131, 146, 161, 169, 177], 67) := by decide +kernel
theorem dX7_told_68 : decode cX7_told 68 = .ok (.aload_n 0, 1) := by decide +kernel
theorem dX7_told_69 : decode cX7_told 69 = .ok (.getfield 57, 3) := by decide +kernel
theorem dX7_told_72 : decode cX7_told 72 = .ok (.getfield 112, 3) := by decide +kernel
theorem dX7_told_75 : decode cX7_told 75 = .ok (.ireturn, 1) := by decide +kernel
theorem dX7_told_76 : decode cX7_told 76 = .ok (.aload_n 0, 1) := by decide +kernel
theorem dX7_told_77 : decode cX7_told 77 = .ok (.getfield 57, 3) := by decide +kernel
theorem dX7_told_80 : decode cX7_told 80 = .ok (.getfield 98, 3) := by decide +kernel
theorem dX7_told_83 : decode cX7_told 83 = .ok (.ireturn, 1) := by decide +kernel
theorem dX7_told_84 : decode cX7_told 84 = .ok (.aload_n 0, 1) := by decide +kernel
theorem dX7_told_85 : decode cX7_told 85 = .ok (.getfield 12, 3) := by decide +kernel
theorem dX7_told_88 : decode cX7_told 88 = .ok (.invokevirtual 80, 3) := by decide +kernel
theorem dX7_told_91 : decode cX7_told 91 = .ok (.ireturn, 1) := by decide +kernel
theorem dX7_told_92 : decode cX7_told 92 = .ok (.aload_n 0, 1) := by decide +kernel
theorem dX7_told_93 : decode cX7_told 93 = .ok (.getfield 67, 3) := by decide +kernel
theorem dX7_told_96 : decode cX7_told 96 = .ok (.getfield 115, 3) := by decide +kernel
theorem dX7_told_99 : decode cX7_told 99 = .ok (.ireturn, 1) := by decide +kernel
theorem dX7_told_100 : decode cX7_told 100 = .ok (.aload_n 0, 1) := by decide +kernel
theorem dX7_told_101 : decode cX7_told 101 = .ok (.getfield 67, 3) := by decide +kernel
theorem dX7_told_104 : decode cX7_told 104 = .ok (.getfield 118, 3) := by decide +kernel
theorem dX7_told_107 : decode cX7_told 107 = .ok (.ireturn, 1) := by decide +kernel
theorem dX7_told_108 : decode cX7_told 108 = .ok (.aload_n 0, 1) := by decide +kernel
theorem dX7_told_109 : decode cX7_told 109 = .ok (.getfield 67, 3) := by decide +kernel
theorem dX7_told_112 : decode cX7_told 112 = .ok (.getfield 121, 3) := by decide +kernel
theorem dX7_told_115 : decode cX7_told 115 = .ok (.ireturn, 1) := by decide +kernel
theorem dX7_told_116 : decode cX7_told 116 = .ok (.aload_n 0, 1) := by decide +kernel
theorem dX7_told_117 : decode cX7_told 117 = .ok (.getfield 67, 3) := by decide +kernel
theorem dX7_told_120 : decode cX7_told 120 = .ok (.getfield 124, 3) := by decide +kernel
theorem dX7_told_123 : decode cX7_told 123 = .ok (.ireturn, 1) := by decide +kernel
theorem dX7_told_124 : decode cX7_told 124 = .ok (.aload_n 0, 1) := by decide +kernel
theorem dX7_told_125 : decode cX7_told 125 = .ok (.invokevirtual 127, 3) := by decide +kernel
theorem dX7_told_128 : decode cX7_told 128 = .ok (.invokevirtual 131, 3) := by decide +kernel
theorem dX7_told_131 : decode cX7_told 131 = .ok (.ireturn, 1) := by decide +kernel
theorem dX7_told_132 : decode cX7_told 132 = .ok (.aload_n 0, 1) := by decide +kernel
theorem dX7_told_133 : decode cX7_told 133 = .ok (.getfield 57, 3) := by decide +kernel
theorem dX7_told_136 : decode cX7_told 136 = .ok (.aload_n 0, 1) := by decide +kernel
theorem dX7_told_137 : decode cX7_told 137 = .ok (.invokevirtual 127, 3) := by decide +kernel
theorem dX7_told_140 : decode cX7_told 140 = .ok (.invokevirtual 131, 3) := by decide +kernel
theorem dX7_told_143 : decode cX7_told 143 = .ok (.invokevirtual 136, 3) := by decide +kernel
theorem dX7_told_146 : decode cX7_told 146 = .ok (.ireturn, 1) := by decide +kernel
theorem dX7_told_147 : decode cX7_told 147 = .ok (.aload_n 0, 1) := by decide +kernel
theorem dX7_told_148 : decode cX7_told 148 = .ok (.getfield 57, 3) := by decide +kernel
theorem dX7_told_151 : decode cX7_told 151 = .ok (.aload_n 0, 1) := by decide +kernel
theorem dX7_told_152 : decode cX7_told 152 = .ok (.getfield 67, 3) := by decide +kernel
theorem dX7_told_155 : decode cX7_told 155 = .ok (.getfield 118, 3) := by decide +kernel
theorem dX7_told_158 : decode cX7_told 158 = .ok (.invokevirtual 136, 3) := by decide +kernel
theorem dX7_told_161 : decode cX7_told 161 = .ok (.ireturn, 1) := by decide +kernel
theorem dX7_told_162 : decode cX7_told 162 = .ok (.aload_n 0, 1) := by decide +kernel
theorem dX7_told_163 : decode cX7_told 163 = .ok (.getfield 26, 3) := by decide +kernel
theorem dX7_told_166 : decode cX7_told 166 = .ok (.invokevirtual 140, 3) := by decide +kernel
theorem dX7_told_169 : decode cX7_told 169 = .ok (.ireturn, 1) := by decide +kernel
theorem dX7_told_170 : decode cX7_told 170 = .ok (.aload_n 0, 1) := by decide +kernel
theorem dX7_told_171 : decode cX7_told 171 = .ok (.getfield 33, 3) := by decide +kernel
theorem dX7_told_174 : decode cX7_told 174 = .ok (.invokevirtual 143, 3) := by decide +kernel
theorem dX7_told_177 : decode cX7_told 177 = .ok (.ireturn, 1) := by decide +kernel
theorem dX7_told_178 : decode cX7_told 178 = .ok (.aload_n 0, 1) := by decide +kernel
theorem dX7_told_179 : decode cX7_told 179 = .ok (.getfield 19, 3) := by decide +kernel
theorem dX7_told_182 : decode cX7_told 182 = .ok (.invokevirtual 144, 3) := by decide +kernel
theorem dX7_told_185 : decode cX7_told 185 = .ok (.ireturn, 1) := by decide +kernel
theorem dX7_told_186 : decode cX7_told 186 = .ok (.ldc 75, 2) := by decide +kernel
theorem dX7_told_188 : decode cX7_told 188 = .ok (.ireturn, 1) := by decide +kernel
theorem dX7_rule_0 : decode cX7_rule 0 = .ok (.aload_n 0, 1) := by decide +kernel
theorem dX7_rule_1 : decode cX7_rule 1 = .ok (.getfield 57, 3) := by decide +kernel
theorem dX7_rule_4 : decode cX7_rule 4 = .ok (.iload_n 1, 1) := by decide +kernel
theorem dX7_rule_5 : decode cX7_rule 5 = .ok (.invokevirtual 145, 3) := by decide +kernel
theorem dX7_rule_8 : decode cX7_rule 8 = .ok (.ifCond .ne 6, 3) := by decide +kernel
theorem dX7_rule_11 : decode cX7_rule 11 = .ok (.ldc 148, 2) := by decide +kernel
theorem dX7_rule_13 : decode cX7_rule 13 = .ok (.ireturn, 1) := by decide +kernel
theorem dX7_rule_14 : decode cX7_rule 14 = .ok (.iload_n 2, 1) := by decide +kernel
theorem dX7_rule_15 : decode cX7_rule 15 = .ok (.tableswitch 79 0 3 #[29, 39, 49, 59], 29) := by decide +kernel
theorem dX7_rule_44 : decode cX7_rule 44 = .ok (.aload_n 0, 1) := by decide +kernel
theorem dX7_rule_45 : decode cX7_rule 45 = .ok (.getfield 57, 3) := by decide +kernel
theorem dX7_rule_48 : decode cX7_rule 48 = .ok (.getfield 149, 3) := by decide +kernel
theorem dX7_rule_51 : decode cX7_rule 51 = .ok (.iload_n 1, 1) := by decide +kernel
theorem dX7_rule_52 : decode cX7_rule 52 = .ok (.iaload, 1) := by decide +kernel
theorem dX7_rule_53 : decode cX7_rule 53 = .ok (.ireturn, 1) := by decide +kernel
theorem dX7_rule_54 : decode cX7_rule 54 = .ok (.aload_n 0, 1) := by decide +kernel
theorem dX7_rule_55 : decode cX7_rule 55 = .ok (.getfield 57, 3) := by decide +kernel
theorem dX7_rule_58 : decode cX7_rule 58 = .ok (.getfield 152, 3) := by decide +kernel
theorem dX7_rule_61 : decode cX7_rule 61 = .ok (.iload_n 1, 1) := by decide +kernel
theorem dX7_rule_62 : decode cX7_rule 62 = .ok (.iaload, 1) := by decide +kernel
theorem dX7_rule_63 : decode cX7_rule 63 = .ok (.ireturn, 1) := by decide +kernel
theorem dX7_rule_64 : decode cX7_rule 64 = .ok (.aload_n 0, 1) := by decide +kernel
theorem dX7_rule_65 : decode cX7_rule 65 = .ok (.getfield 57, 3) := by decide +kernel
theorem dX7_rule_68 : decode cX7_rule 68 = .ok (.getfield 155, 3) := by decide +kernel
theorem dX7_rule_71 : decode cX7_rule 71 = .ok (.iload_n 1, 1) := by decide +kernel
theorem dX7_rule_72 : decode cX7_rule 72 = .ok (.iaload, 1) := by decide +kernel
theorem dX7_rule_73 : decode cX7_rule 73 = .ok (.ireturn, 1) := by decide +kernel
theorem dX7_rule_74 : decode cX7_rule 74 = .ok (.aload_n 0, 1) := by decide +kernel
theorem dX7_rule_75 : decode cX7_rule 75 = .ok (.getfield 67, 3) := by decide +kernel
theorem dX7_rule_78 : decode cX7_rule 78 = .ok (.getfield 121, 3) := by decide +kernel
theorem dX7_rule_81 : decode cX7_rule 81 = .ok (.iload_n 1, 1) := by decide +kernel
theorem dX7_rule_82 : decode cX7_rule 82 = .ok (.invokestatic 158, 3) := by decide +kernel
theorem dX7_rule_85 : decode cX7_rule 85 = .ok (.ifCond .eq 7, 3) := by decide +kernel
theorem dX7_rule_88 : decode cX7_rule 88 = .ok (.iconst 1, 1) := by decide +kernel
theorem dX7_rule_89 : decode cX7_rule 89 = .ok (.goto 4, 3) := by decide +kernel
theorem dX7_rule_92 : decode cX7_rule 92 = .ok (.iconst 0, 1) := by decide +kernel
theorem dX7_rule_93 : decode cX7_rule 93 = .ok (.ireturn, 1) := by decide +kernel
theorem dX7_rule_94 : decode cX7_rule 94 = .ok (.ldc 75, 2) := by decide +kernel
theorem dX7_rule_96 : decode cX7_rule 96 = .ok (.ireturn, 1) := by decide +kernel
theorem dX7_see_0 : decode cX7_see 0 = .ok (.aload_n 0, 1) := by decide +kernel
theorem dX7_see_1 : decode cX7_see 1 = .ok (.getfield 57, 3) := by decide +kernel
theorem dX7_see_4 : decode cX7_see 4 = .ok (.iload_n 1, 1) := by decide +kernel
theorem dX7_see_5 : decode cX7_see 5 = .ok (.invokevirtual 162, 3) := by decide +kernel
theorem dX7_see_8 : decode cX7_see 8 = .ok (.ifCond .ne 6, 3) := by decide +kernel
theorem dX7_see_11 : decode cX7_see 11 = .ok (.ldc 148, 2) := by decide +kernel
theorem dX7_see_13 : decode cX7_see 13 = .ok (.ireturn, 1) := by decide +kernel
theorem dX7_see_14 : decode cX7_see 14 = .ok (.aload_n 0, 1) := by decide +kernel
theorem dX7_see_15 : decode cX7_see 15 = .ok (.getfield 67, 3) := by decide +kernel
theorem dX7_see_18 : decode cX7_see 18 = .ok (.getfield 115, 3) := by decide +kernel
theorem dX7_see_21 : decode cX7_see 21 = .ok (.iload_n 1, 1) := by decide +kernel
theorem dX7_see_22 : decode cX7_see 22 = .ok (.invokestatic 158, 3) := by decide +kernel
theorem dX7_see_25 : decode cX7_see 25 = .ok (.ifCond .eq 7, 3) := by decide +kernel
theorem dX7_see_28 : decode cX7_see 28 = .ok (.iconst 1, 1) := by decide +kernel
theorem dX7_see_29 : decode cX7_see 29 = .ok (.goto 4, 3) := by decide +kernel
theorem dX7_see_32 : decode cX7_see 32 = .ok (.iconst 0, 1) := by decide +kernel
theorem dX7_see_33 : decode cX7_see 33 = .ok (.istore_n 3, 1) := by decide +kernel
theorem dX7_see_34 : decode cX7_see 34 = .ok (.aload_n 0, 1) := by decide +kernel
theorem dX7_see_35 : decode cX7_see 35 = .ok (.new 37, 3) := by decide +kernel
theorem dX7_see_38 : decode cX7_see 38 = .ok (.dup, 1) := by decide +kernel
theorem dX7_see_39 : decode cX7_see 39 = .ok (.aload_n 0, 1) := by decide +kernel
theorem dX7_see_40 : decode cX7_see 40 = .ok (.getfield 67, 3) := by decide +kernel
theorem dX7_see_43 : decode cX7_see 43 = .ok (.getfield 115, 3) := by decide +kernel
theorem dX7_see_46 : decode cX7_see 46 = .ok (.iload_n 1, 1) := by decide +kernel
theorem dX7_see_47 : decode cX7_see 47 = .ok (.iload_n 2, 1) := by decide +kernel
theorem dX7_see_48 : decode cX7_see 48 = .ok (.invokestatic 165, 3) := by decide +kernel
theorem dX7_see_51 : decode cX7_see 51 = .ok (.aload_n 0, 1) := by decide +kernel
theorem dX7_see_52 : decode cX7_see 52 = .ok (.getfield 67, 3) := by decide +kernel
theorem dX7_see_55 : decode cX7_see 55 = .ok (.getfield 118, 3) := by decide +kernel
theorem dX7_see_58 : decode cX7_see 58 = .ok (.aload_n 0, 1) := by decide +kernel
theorem dX7_see_59 : decode cX7_see 59 = .ok (.getfield 67, 3) := by decide +kernel
theorem dX7_see_62 : decode cX7_see 62 = .ok (.getfield 121, 3) := by decide +kernel
theorem dX7_see_65 : decode cX7_see 65 = .ok (.aload_n 0, 1) := by decide +kernel
theorem dX7_see_66 : decode cX7_see 66 = .ok (.getfield 67, 3) := by decide +kernel
theorem dX7_see_69 : decode cX7_see 69 = .ok (.getfield 124, 3) := by decide +kernel
theorem dX7_see_72 : decode cX7_see 72 = .ok (.invokespecial 64, 3) := by decide +kernel
theorem dX7_see_75 : decode cX7_see 75 = .ok (.invokevirtual 169, 3) := by decide +kernel
theorem dX7_see_78 : decode cX7_see 78 = .ok (.iload_n 3, 1) := by decide +kernel
theorem dX7_see_79 : decode cX7_see 79 = .ok (.ireturn, 1) := by decide +kernel
theorem dX7_forbid_0 : decode cX7_forbid 0 = .ok (.aload_n 0, 1) := by decide +kernel
theorem dX7_forbid_1 : decode cX7_forbid 1 = .ok (.getfield 57, 3) := by decide +kernel
theorem dX7_forbid_4 : decode cX7_forbid 4 = .ok (.iload_n 1, 1) := by decide +kernel
theorem dX7_forbid_5 : decode cX7_forbid 5 = .ok (.invokevirtual 145, 3) := by decide +kernel
theorem dX7_forbid_8 : decode cX7_forbid 8 = .ok (.ifCond .ne 6, 3) := by decide +kernel
theorem dX7_forbid_11 : decode cX7_forbid 11 = .ok (.ldc 148, 2) := by decide +kernel
theorem dX7_forbid_13 : decode cX7_forbid 13 = .ok (.ireturn, 1) := by decide +kernel
theorem dX7_forbid_14 : decode cX7_forbid 14 = .ok (.aload_n 0, 1) := by decide +kernel
theorem dX7_forbid_15 : decode cX7_forbid 15 = .ok (.getfield 67, 3) := by decide +kernel
theorem dX7_forbid_18 : decode cX7_forbid 18 = .ok (.getfield 121, 3) := by decide +kernel
theorem dX7_forbid_21 : decode cX7_forbid 21 = .ok (.iload_n 1, 1) := by decide +kernel
theorem dX7_forbid_22 : decode cX7_forbid 22 = .ok (.invokestatic 158, 3) := by decide +kernel
theorem dX7_forbid_25 : decode cX7_forbid 25 = .ok (.ifCond .eq 7, 3) := by decide +kernel
theorem dX7_forbid_28 : decode cX7_forbid 28 = .ok (.iconst 1, 1) := by decide +kernel
theorem dX7_forbid_29 : decode cX7_forbid 29 = .ok (.goto 4, 3) := by decide +kernel
theorem dX7_forbid_32 : decode cX7_forbid 32 = .ok (.iconst 0, 1) := by decide +kernel
theorem dX7_forbid_33 : decode cX7_forbid 33 = .ok (.istore_n 3, 1) := by decide +kernel
theorem dX7_forbid_34 : decode cX7_forbid 34 = .ok (.aload_n 0, 1) := by decide +kernel
theorem dX7_forbid_35 : decode cX7_forbid 35 = .ok (.new 37, 3) := by decide +kernel
theorem dX7_forbid_38 : decode cX7_forbid 38 = .ok (.dup, 1) := by decide +kernel
theorem dX7_forbid_39 : decode cX7_forbid 39 = .ok (.aload_n 0, 1) := by decide +kernel
theorem dX7_forbid_40 : decode cX7_forbid 40 = .ok (.getfield 67, 3) := by decide +kernel
theorem dX7_forbid_43 : decode cX7_forbid 43 = .ok (.getfield 115, 3) := by decide +kernel
theorem dX7_forbid_46 : decode cX7_forbid 46 = .ok (.aload_n 0, 1) := by decide +kernel
theorem dX7_forbid_47 : decode cX7_forbid 47 = .ok (.getfield 67, 3) := by decide +kernel
theorem dX7_forbid_50 : decode cX7_forbid 50 = .ok (.getfield 118, 3) := by decide +kernel
theorem dX7_forbid_53 : decode cX7_forbid 53 = .ok (.aload_n 0, 1) := by decide +kernel
theorem dX7_forbid_54 : decode cX7_forbid 54 = .ok (.getfield 67, 3) := by decide +kernel
theorem dX7_forbid_57 : decode cX7_forbid 57 = .ok (.getfield 121, 3) := by decide +kernel
theorem dX7_forbid_60 : decode cX7_forbid 60 = .ok (.iload_n 1, 1) := by decide +kernel
theorem dX7_forbid_61 : decode cX7_forbid 61 = .ok (.iload_n 2, 1) := by decide +kernel
theorem dX7_forbid_62 : decode cX7_forbid 62 = .ok (.invokestatic 165, 3) := by decide +kernel
theorem dX7_forbid_65 : decode cX7_forbid 65 = .ok (.aload_n 0, 1) := by decide +kernel
theorem dX7_forbid_66 : decode cX7_forbid 66 = .ok (.getfield 67, 3) := by decide +kernel
theorem dX7_forbid_69 : decode cX7_forbid 69 = .ok (.getfield 124, 3) := by decide +kernel
theorem dX7_forbid_72 : decode cX7_forbid 72 = .ok (.invokespecial 64, 3) := by decide +kernel
theorem dX7_forbid_75 : decode cX7_forbid 75 = .ok (.invokevirtual 169, 3) := by decide +kernel
theorem dX7_forbid_78 : decode cX7_forbid 78 = .ok (.iload_n 3, 1) := by decide +kernel
theorem dX7_forbid_79 : decode cX7_forbid 79 = .ok (.ireturn, 1) := by decide +kernel
theorem dX7_debate_0 : decode cX7_debate 0 = .ok (.aload_n 0, 1) := by decide +kernel
theorem dX7_debate_1 : decode cX7_debate 1 = .ok (.getfield 57, 3) := by decide +kernel
theorem dX7_debate_4 : decode cX7_debate 4 = .ok (.invokevirtual 173, 3) := by decide +kernel
theorem dX7_debate_7 : decode cX7_debate 7 = .ok (.ifCond .eq 6, 3) := by decide +kernel
theorem dX7_debate_10 : decode cX7_debate 10 = .ok (.ldc 177, 2) := by decide +kernel
theorem dX7_debate_12 : decode cX7_debate 12 = .ok (.ireturn, 1) := by decide +kernel
theorem dX7_debate_13 : decode cX7_debate 13 = .ok (.aload_n 0, 1) := by decide +kernel
theorem dX7_debate_14 : decode cX7_debate 14 = .ok (.getfield 67, 3) := by decide +kernel
theorem dX7_debate_17 : decode cX7_debate 17 = .ok (.getfield 124, 3) := by decide +kernel
theorem dX7_debate_20 : decode cX7_debate 20 = .ok (.sipush 9000, 3) := by decide +kernel
theorem dX7_debate_23 : decode cX7_debate 23 = .ok (.if_icmp .le 6, 3) := by decide +kernel
theorem dX7_debate_26 : decode cX7_debate 26 = .ok (.ldc 84, 2) := by decide +kernel
theorem dX7_debate_28 : decode cX7_debate 28 = .ok (.ireturn, 1) := by decide +kernel
theorem dX7_debate_29 : decode cX7_debate 29 = .ok (.aload_n 0, 1) := by decide +kernel
theorem dX7_debate_30 : decode cX7_debate 30 = .ok (.getfield 57, 3) := by decide +kernel
theorem dX7_debate_33 : decode cX7_debate 33 = .ok (.aload_n 0, 1) := by decide +kernel
theorem dX7_debate_34 : decode cX7_debate 34 = .ok (.getfield 67, 3) := by decide +kernel
theorem dX7_debate_37 : decode cX7_debate 37 = .ok (.getfield 115, 3) := by decide +kernel
theorem dX7_debate_40 : decode cX7_debate 40 = .ok (.aload_n 0, 1) := by decide +kernel
theorem dX7_debate_41 : decode cX7_debate 41 = .ok (.getfield 67, 3) := by decide +kernel
theorem dX7_debate_44 : decode cX7_debate 44 = .ok (.getfield 118, 3) := by decide +kernel
theorem dX7_debate_47 : decode cX7_debate 47 = .ok (.ior, 1) := by decide +kernel
theorem dX7_debate_48 : decode cX7_debate 48 = .ok (.aload_n 0, 1) := by decide +kernel
theorem dX7_debate_49 : decode cX7_debate 49 = .ok (.invokevirtual 178, 3) := by decide +kernel
theorem dX7_debate_52 : decode cX7_debate 52 = .ok (.invokevirtual 181, 3) := by decide +kernel
theorem dX7_debate_55 : decode cX7_debate 55 = .ok (.istore_n 1, 1) := by decide +kernel
theorem dX7_debate_56 : decode cX7_debate 56 = .ok (.aload_n 0, 1) := by decide +kernel
theorem dX7_debate_57 : decode cX7_debate 57 = .ok (.new 37, 3) := by decide +kernel
theorem dX7_debate_60 : decode cX7_debate 60 = .ok (.dup, 1) := by decide +kernel
theorem dX7_debate_61 : decode cX7_debate 61 = .ok (.aload_n 0, 1) := by decide +kernel
theorem dX7_debate_62 : decode cX7_debate 62 = .ok (.getfield 67, 3) := by decide +kernel
theorem dX7_debate_65 : decode cX7_debate 65 = .ok (.getfield 115, 3) := by decide +kernel
theorem dX7_debate_68 : decode cX7_debate 68 = .ok (.iload_n 1, 1) := by decide +kernel
theorem dX7_debate_69 : decode cX7_debate 69 = .ok (.aload_n 0, 1) := by decide +kernel
theorem dX7_debate_70 : decode cX7_debate 70 = .ok (.getfield 67, 3) := by decide +kernel
theorem dX7_debate_73 : decode cX7_debate 73 = .ok (.getfield 121, 3) := by decide +kernel
theorem dX7_debate_76 : decode cX7_debate 76 = .ok (.aload_n 0, 1) := by decide +kernel
theorem dX7_debate_77 : decode cX7_debate 77 = .ok (.getfield 67, 3) := by decide +kernel
theorem dX7_debate_80 : decode cX7_debate 80 = .ok (.getfield 124, 3) := by decide +kernel
theorem dX7_debate_83 : decode cX7_debate 83 = .ok (.iconst 1, 1) := by decide +kernel
theorem dX7_debate_84 : decode cX7_debate 84 = .ok (.iadd, 1) := by decide +kernel
theorem dX7_debate_85 : decode cX7_debate 85 = .ok (.invokespecial 64, 3) := by decide +kernel
theorem dX7_debate_88 : decode cX7_debate 88 = .ok (.invokevirtual 169, 3) := by decide +kernel
theorem dX7_debate_91 : decode cX7_debate 91 = .ok (.iload_n 1, 1) := by decide +kernel
theorem dX7_debate_92 : decode cX7_debate 92 = .ok (.ireturn, 1) := by decide +kernel
theorem dX7_drop_0 : decode cX7_drop 0 = .ok (.aload_n 0, 1) := by decide +kernel
theorem dX7_drop_1 : decode cX7_drop 1 = .ok (.getfield 57, 3) := by decide +kernel
theorem dX7_drop_4 : decode cX7_drop 4 = .ok (.invokevirtual 173, 3) := by decide +kernel
theorem dX7_drop_7 : decode cX7_drop 7 = .ok (.ifCond .eq 6, 3) := by decide +kernel
theorem dX7_drop_10 : decode cX7_drop 10 = .ok (.ldc 177, 2) := by decide +kernel
theorem dX7_drop_12 : decode cX7_drop 12 = .ok (.ireturn, 1) := by decide +kernel
theorem dX7_drop_13 : decode cX7_drop 13 = .ok (.aload_n 0, 1) := by decide +kernel
theorem dX7_drop_14 : decode cX7_drop 14 = .ok (.getfield 67, 3) := by decide +kernel
theorem dX7_drop_17 : decode cX7_drop 17 = .ok (.getfield 118, 3) := by decide +kernel
theorem dX7_drop_20 : decode cX7_drop 20 = .ok (.istore_n 1, 1) := by decide +kernel
theorem dX7_drop_21 : decode cX7_drop 21 = .ok (.aload_n 0, 1) := by decide +kernel
theorem dX7_drop_22 : decode cX7_drop 22 = .ok (.new 37, 3) := by decide +kernel
theorem dX7_drop_25 : decode cX7_drop 25 = .ok (.dup, 1) := by decide +kernel
theorem dX7_drop_26 : decode cX7_drop 26 = .ok (.aload_n 0, 1) := by decide +kernel
theorem dX7_drop_27 : decode cX7_drop 27 = .ok (.getfield 67, 3) := by decide +kernel
theorem dX7_drop_30 : decode cX7_drop 30 = .ok (.getfield 115, 3) := by decide +kernel
theorem dX7_drop_33 : decode cX7_drop 33 = .ok (.iconst 0, 1) := by decide +kernel
theorem dX7_drop_34 : decode cX7_drop 34 = .ok (.aload_n 0, 1) := by decide +kernel
theorem dX7_drop_35 : decode cX7_drop 35 = .ok (.getfield 67, 3) := by decide +kernel
theorem dX7_drop_38 : decode cX7_drop 38 = .ok (.getfield 121, 3) := by decide +kernel
theorem dX7_drop_41 : decode cX7_drop 41 = .ok (.aload_n 0, 1) := by decide +kernel
theorem dX7_drop_42 : decode cX7_drop 42 = .ok (.getfield 67, 3) := by decide +kernel
theorem dX7_drop_45 : decode cX7_drop 45 = .ok (.getfield 124, 3) := by decide +kernel
theorem dX7_drop_48 : decode cX7_drop 48 = .ok (.invokespecial 64, 3) := by decide +kernel
theorem dX7_drop_51 : decode cX7_drop 51 = .ok (.invokevirtual 169, 3) := by decide +kernel
theorem dX7_drop_54 : decode cX7_drop 54 = .ok (.iload_n 1, 1) := by decide +kernel
theorem dX7_drop_55 : decode cX7_drop 55 = .ok (.ireturn, 1) := by decide +kernel
theorem dX7_drift_0 : decode cX7_drift 0 = .ok (.iload_n 1, 1) := by decide +kernel
theorem dX7_drift_1 : decode cX7_drift 1 = .ok (.iconst 1, 1) := by decide +kernel
theorem dX7_drift_2 : decode cX7_drift 2 = .ok (.if_icmp .lt 9, 3) := by decide +kernel
theorem dX7_drift_5 : decode cX7_drift 5 = .ok (.iload_n 1, 1) := by decide +kernel
theorem dX7_drift_6 : decode cX7_drift 6 = .ok (.bipush 60, 2) := by decide +kernel
theorem dX7_drift_8 : decode cX7_drift 8 = .ok (.if_icmp .le 6, 3) := by decide +kernel
theorem dX7_drift_11 : decode cX7_drift 11 = .ok (.ldc 75, 2) := by decide +kernel
theorem dX7_drift_13 : decode cX7_drift 13 = .ok (.ireturn, 1) := by decide +kernel
theorem dX7_drift_14 : decode cX7_drift 14 = .ok (.aload_n 0, 1) := by decide +kernel
theorem dX7_drift_15 : decode cX7_drift 15 = .ok (.getfield 57, 3) := by decide +kernel
theorem dX7_drift_18 : decode cX7_drift 18 = .ok (.invokevirtual 173, 3) := by decide +kernel
theorem dX7_drift_21 : decode cX7_drift 21 = .ok (.ifCond .eq 6, 3) := by decide +kernel
theorem dX7_drift_24 : decode cX7_drift 24 = .ok (.ldc 177, 2) := by decide +kernel
theorem dX7_drift_26 : decode cX7_drift 26 = .ok (.ireturn, 1) := by decide +kernel
theorem dX7_drift_27 : decode cX7_drift 27 = .ok (.aload_n 0, 1) := by decide +kernel
theorem dX7_drift_28 : decode cX7_drift 28 = .ok (.getfield 67, 3) := by decide +kernel
theorem dX7_drift_31 : decode cX7_drift 31 = .ok (.getfield 124, 3) := by decide +kernel
theorem dX7_drift_34 : decode cX7_drift 34 = .ok (.sipush 9000, 3) := by decide +kernel
theorem dX7_drift_37 : decode cX7_drift 37 = .ok (.if_icmp .le 6, 3) := by decide +kernel
theorem dX7_drift_40 : decode cX7_drift 40 = .ok (.ldc 84, 2) := by decide +kernel
theorem dX7_drift_42 : decode cX7_drift 42 = .ok (.ireturn, 1) := by decide +kernel
theorem dX7_drift_43 : decode cX7_drift 43 = .ok (.aload_n 0, 1) := by decide +kernel
theorem dX7_drift_44 : decode cX7_drift 44 = .ok (.getfield 67, 3) := by decide +kernel
theorem dX7_drift_47 : decode cX7_drift 47 = .ok (.getfield 115, 3) := by decide +kernel
theorem dX7_drift_50 : decode cX7_drift 50 = .ok (.istore_n 2, 1) := by decide +kernel
theorem dX7_drift_51 : decode cX7_drift 51 = .ok (.aload_n 0, 1) := by decide +kernel
theorem dX7_drift_52 : decode cX7_drift 52 = .ok (.getfield 67, 3) := by decide +kernel
theorem dX7_drift_55 : decode cX7_drift 55 = .ok (.getfield 118, 3) := by decide +kernel
theorem dX7_drift_58 : decode cX7_drift 58 = .ok (.istore_n 3, 1) := by decide +kernel
theorem dX7_drift_59 : decode cX7_drift 59 = .ok (.aload_n 0, 1) := by decide +kernel
theorem dX7_drift_60 : decode cX7_drift 60 = .ok (.getfield 67, 3) := by decide +kernel
theorem dX7_drift_63 : decode cX7_drift 63 = .ok (.getfield 124, 3) := by decide +kernel
theorem dX7_drift_66 : decode cX7_drift 66 = .ok (.istore 4, 2) := by decide +kernel
theorem dX7_drift_68 : decode cX7_drift 68 = .ok (.iconst 0, 1) := by decide +kernel
theorem dX7_drift_69 : decode cX7_drift 69 = .ok (.istore 5, 2) := by decide +kernel
theorem dX7_drift_71 : decode cX7_drift 71 = .ok (.iload 5, 2) := by decide +kernel
theorem dX7_drift_73 : decode cX7_drift 73 = .ok (.iload_n 1, 1) := by decide +kernel
theorem dX7_drift_74 : decode cX7_drift 74 = .ok (.if_icmp .ge 65, 3) := by decide +kernel
theorem dX7_drift_77 : decode cX7_drift 77 = .ok (.aload_n 0, 1) := by decide +kernel
theorem dX7_drift_78 : decode cX7_drift 78 = .ok (.aload_n 0, 1) := by decide +kernel
theorem dX7_drift_79 : decode cX7_drift 79 = .ok (.getfield 57, 3) := by decide +kernel
theorem dX7_drift_82 : decode cX7_drift 82 = .ok (.invokevirtual 185, 3) := by decide +kernel
theorem dX7_drift_85 : decode cX7_drift 85 = .ok (.invokevirtual 188, 3) := by decide +kernel
theorem dX7_drift_88 : decode cX7_drift 88 = .ok (.istore 6, 2) := by decide +kernel
theorem dX7_drift_90 : decode cX7_drift 90 = .ok (.iload_n 2, 1) := by decide +kernel
theorem dX7_drift_91 : decode cX7_drift 91 = .ok (.iload 6, 2) := by decide +kernel
theorem dX7_drift_93 : decode cX7_drift 93 = .ok (.iconst 1, 1) := by decide +kernel
theorem dX7_drift_94 : decode cX7_drift 94 = .ok (.invokestatic 165, 3) := by decide +kernel
theorem dX7_drift_97 : decode cX7_drift 97 = .ok (.iload 6, 2) := by decide +kernel
theorem dX7_drift_99 : decode cX7_drift 99 = .ok (.invokestatic 191, 3) := by decide +kernel
theorem dX7_drift_102 : decode cX7_drift 102 = .ok (.iconst 0, 1) := by decide +kernel
theorem dX7_drift_103 : decode cX7_drift 103 = .ok (.invokestatic 165, 3) := by decide +kernel
theorem dX7_drift_106 : decode cX7_drift 106 = .ok (.istore_n 2, 1) := by decide +kernel
theorem dX7_drift_107 : decode cX7_drift 107 = .ok (.aload_n 0, 1) := by decide +kernel
theorem dX7_drift_108 : decode cX7_drift 108 = .ok (.iconst 4, 1) := by decide +kernel
theorem dX7_drift_109 : decode cX7_drift 109 = .ok (.invokevirtual 188, 3) := by decide +kernel
theorem dX7_drift_112 : decode cX7_drift 112 = .ok (.ifCond .ne 21, 3) := by decide +kernel
theorem dX7_drift_115 : decode cX7_drift 115 = .ok (.aload_n 0, 1) := by decide +kernel
theorem dX7_drift_116 : decode cX7_drift 116 = .ok (.getfield 57, 3) := by decide +kernel
theorem dX7_drift_119 : decode cX7_drift 119 = .ok (.iload_n 2, 1) := by decide +kernel
theorem dX7_drift_120 : decode cX7_drift 120 = .ok (.iload_n 3, 1) := by decide +kernel
theorem dX7_drift_121 : decode cX7_drift 121 = .ok (.ior, 1) := by decide +kernel
theorem dX7_drift_122 : decode cX7_drift 122 = .ok (.aload_n 0, 1) := by decide +kernel
theorem dX7_drift_123 : decode cX7_drift 123 = .ok (.invokevirtual 178, 3) := by decide +kernel
theorem dX7_drift_126 : decode cX7_drift 126 = .ok (.invokevirtual 181, 3) := by decide +kernel
theorem dX7_drift_129 : decode cX7_drift 129 = .ok (.istore_n 3, 1) := by decide +kernel
theorem dX7_drift_130 : decode cX7_drift 130 = .ok (.iinc 4 1, 3) := by decide +kernel
theorem dX7_drift_133 : decode cX7_drift 133 = .ok (.iinc 5 1, 3) := by decide +kernel
theorem dX7_drift_136 : decode cX7_drift 136 = .ok (.goto (-65), 3) := by decide +kernel
theorem dX7_drift_139 : decode cX7_drift 139 = .ok (.aload_n 0, 1) := by decide +kernel
theorem dX7_drift_140 : decode cX7_drift 140 = .ok (.new 37, 3) := by decide +kernel
theorem dX7_drift_143 : decode cX7_drift 143 = .ok (.dup, 1) := by decide +kernel
theorem dX7_drift_144 : decode cX7_drift 144 = .ok (.iload_n 2, 1) := by decide +kernel
theorem dX7_drift_145 : decode cX7_drift 145 = .ok (.iload_n 3, 1) := by decide +kernel
theorem dX7_drift_146 : decode cX7_drift 146 = .ok (.aload_n 0, 1) := by decide +kernel
theorem dX7_drift_147 : decode cX7_drift 147 = .ok (.getfield 67, 3) := by decide +kernel
theorem dX7_drift_150 : decode cX7_drift 150 = .ok (.getfield 121, 3) := by decide +kernel
theorem dX7_drift_153 : decode cX7_drift 153 = .ok (.iload 4, 2) := by decide +kernel
theorem dX7_drift_155 : decode cX7_drift 155 = .ok (.invokespecial 64, 3) := by decide +kernel
theorem dX7_drift_158 : decode cX7_drift 158 = .ok (.invokevirtual 169, 3) := by decide +kernel
theorem dX7_drift_161 : decode cX7_drift 161 = .ok (.iload_n 2, 1) := by decide +kernel
theorem dX7_drift_162 : decode cX7_drift 162 = .ok (.ireturn, 1) := by decide +kernel
theorem dX7_undo_0 : decode cX7_undo 0 = .ok (.aload_n 0, 1) := by decide +kernel
theorem dX7_undo_1 : decode cX7_undo 1 = .ok (.getfield 19, 3) := by decide +kernel
theorem dX7_undo_4 : decode cX7_undo 4 = .ok (.invokevirtual 194, 3) := by decide +kernel
theorem dX7_undo_7 : decode cX7_undo 7 = .ok (.astore_n 1, 1) := by decide +kernel
theorem dX7_undo_8 : decode cX7_undo 8 = .ok (.aload_n 1, 1) := by decide +kernel
theorem dX7_undo_9 : decode cX7_undo 9 = .ok (.ifnonnull 6, 3) := by decide +kernel
theorem dX7_undo_12 : decode cX7_undo 12 = .ok (.ldc 177, 2) := by decide +kernel
theorem dX7_undo_14 : decode cX7_undo 14 = .ok (.ireturn, 1) := by decide +kernel
theorem dX7_undo_15 : decode cX7_undo 15 = .ok (.aload_n 0, 1) := by decide +kernel
theorem dX7_undo_16 : decode cX7_undo 16 = .ok (.aload_n 1, 1) := by decide +kernel
theorem dX7_undo_17 : decode cX7_undo 17 = .ok (.putfield 67, 3) := by decide +kernel
theorem dX7_undo_20 : decode cX7_undo 20 = .ok (.aload_n 0, 1) := by decide +kernel
theorem dX7_undo_21 : decode cX7_undo 21 = .ok (.getfield 19, 3) := by decide +kernel
theorem dX7_undo_24 : decode cX7_undo 24 = .ok (.invokevirtual 144, 3) := by decide +kernel
theorem dX7_undo_27 : decode cX7_undo 27 = .ok (.ireturn, 1) := by decide +kernel
theorem dX7_change_0 : decode cX7_change 0 = .ok (.aload_n 0, 1) := by decide +kernel
theorem dX7_change_1 : decode cX7_change 1 = .ok (.getfield 19, 3) := by decide +kernel
theorem dX7_change_4 : decode cX7_change 4 = .ok (.aload_n 0, 1) := by decide +kernel
theorem dX7_change_5 : decode cX7_change 5 = .ok (.getfield 67, 3) := by decide +kernel
theorem dX7_change_8 : decode cX7_change 8 = .ok (.invokevirtual 198, 3) := by decide +kernel
theorem dX7_change_11 : decode cX7_change 11 = .ok (.aload_n 0, 1) := by decide +kernel
theorem dX7_change_12 : decode cX7_change 12 = .ok (.aload_n 1, 1) := by decide +kernel
theorem dX7_change_13 : decode cX7_change 13 = .ok (.putfield 67, 3) := by decide +kernel
theorem dX7_change_16 : decode cX7_change 16 = .ok (.return_, 1) := by decide +kernel
theorem dX7_follows_0 : decode cX7_follows 0 = .ok (.aload_n 0, 1) := by decide +kernel
theorem dX7_follows_1 : decode cX7_follows 1 = .ok (.getfield 57, 3) := by decide +kernel
theorem dX7_follows_4 : decode cX7_follows 4 = .ok (.iload_n 1, 1) := by decide +kernel
theorem dX7_follows_5 : decode cX7_follows 5 = .ok (.invokevirtual 201, 3) := by decide +kernel
theorem dX7_follows_8 : decode cX7_follows 8 = .ok (.ifCond .ne 6, 3) := by decide +kernel
theorem dX7_follows_11 : decode cX7_follows 11 = .ok (.ldc 148, 2) := by decide +kernel
theorem dX7_follows_13 : decode cX7_follows 13 = .ok (.ireturn, 1) := by decide +kernel
theorem dX7_follows_14 : decode cX7_follows 14 = .ok (.aload_n 0, 1) := by decide +kernel
theorem dX7_follows_15 : decode cX7_follows 15 = .ok (.getfield 57, 3) := by decide +kernel
theorem dX7_follows_18 : decode cX7_follows 18 = .ok (.iload_n 1, 1) := by decide +kernel
theorem dX7_follows_19 : decode cX7_follows 19 = .ok (.aload_n 0, 1) := by decide +kernel
theorem dX7_follows_20 : decode cX7_follows 20 = .ok (.invokevirtual 178, 3) := by decide +kernel
theorem dX7_follows_23 : decode cX7_follows 23 = .ok (.invokevirtual 181, 3) := by decide +kernel
theorem dX7_follows_26 : decode cX7_follows 26 = .ok (.ireturn, 1) := by decide +kernel
theorem dX7_proof_0 : decode cX7_proof 0 = .ok (.aload_n 0, 1) := by decide +kernel
theorem dX7_proof_1 : decode cX7_proof 1 = .ok (.getfield 57, 3) := by decide +kernel
theorem dX7_proof_4 : decode cX7_proof 4 = .ok (.iload_n 1, 1) := by decide +kernel
theorem dX7_proof_5 : decode cX7_proof 5 = .ok (.invokevirtual 162, 3) := by decide +kernel
theorem dX7_proof_8 : decode cX7_proof 8 = .ok (.ifCond .ne 6, 3) := by decide +kernel
theorem dX7_proof_11 : decode cX7_proof 11 = .ok (.ldc 148, 2) := by decide +kernel
theorem dX7_proof_13 : decode cX7_proof 13 = .ok (.ireturn, 1) := by decide +kernel
theorem dX7_proof_14 : decode cX7_proof 14 = .ok (.iload_n 2, 1) := by decide +kernel
theorem dX7_proof_15 : decode cX7_proof 15 = .ok (.ifCond .lt 8, 3) := by decide +kernel
theorem dX7_proof_18 : decode cX7_proof 18 = .ok (.iload_n 2, 1) := by decide +kernel
theorem dX7_proof_19 : decode cX7_proof 19 = .ok (.iconst 1, 1) := by decide +kernel
theorem dX7_proof_20 : decode cX7_proof 20 = .ok (.if_icmp .le 6, 3) := by decide +kernel
theorem dX7_proof_23 : decode cX7_proof 23 = .ok (.ldc 75, 2) := by decide +kernel
theorem dX7_proof_25 : decode cX7_proof 25 = .ok (.ireturn, 1) := by decide +kernel
theorem dX7_proof_26 : decode cX7_proof 26 = .ok (.aload_n 0, 1) := by decide +kernel
theorem dX7_proof_27 : decode cX7_proof 27 = .ok (.invokevirtual 127, 3) := by decide +kernel
theorem dX7_proof_30 : decode cX7_proof 30 = .ok (.iload_n 1, 1) := by decide +kernel
theorem dX7_proof_31 : decode cX7_proof 31 = .ok (.invokevirtual 204, 3) := by decide +kernel
theorem dX7_proof_34 : decode cX7_proof 34 = .ok (.istore_n 3, 1) := by decide +kernel
theorem dX7_proof_35 : decode cX7_proof 35 = .ok (.iload_n 2, 1) := by decide +kernel
theorem dX7_proof_36 : decode cX7_proof 36 = .ok (.ifCond .ne 15, 3) := by decide +kernel
theorem dX7_proof_39 : decode cX7_proof 39 = .ok (.iload_n 3, 1) := by decide +kernel
theorem dX7_proof_40 : decode cX7_proof 40 = .ok (.iconst (-1), 1) := by decide +kernel
theorem dX7_proof_41 : decode cX7_proof 41 = .ok (.if_icmp .eq 10, 3) := by decide +kernel
theorem dX7_proof_44 : decode cX7_proof 44 = .ok (.iload_n 3, 1) := by decide +kernel
theorem dX7_proof_45 : decode cX7_proof 45 = .ok (.invokestatic 207, 3) := by decide +kernel
theorem dX7_proof_48 : decode cX7_proof 48 = .ok (.goto 4, 3) := by decide +kernel
theorem dX7_proof_51 : decode cX7_proof 51 = .ok (.iload_n 3, 1) := by decide +kernel
theorem dX7_proof_52 : decode cX7_proof 52 = .ok (.ireturn, 1) := by decide +kernel
theorem dX7_giveUp_0 : decode cX7_giveUp 0 = .ok (.iload_n 1, 1) := by decide +kernel
theorem dX7_giveUp_1 : decode cX7_giveUp 1 = .ok (.ifCond .lt 8, 3) := by decide +kernel
theorem dX7_giveUp_4 : decode cX7_giveUp 4 = .ok (.iload_n 1, 1) := by decide +kernel
theorem dX7_giveUp_5 : decode cX7_giveUp 5 = .ok (.iconst 1, 1) := by decide +kernel
theorem dX7_giveUp_6 : decode cX7_giveUp 6 = .ok (.if_icmp .le 6, 3) := by decide +kernel
theorem dX7_giveUp_9 : decode cX7_giveUp 9 = .ok (.ldc 75, 2) := by decide +kernel
theorem dX7_giveUp_11 : decode cX7_giveUp 11 = .ok (.ireturn, 1) := by decide +kernel
theorem dX7_giveUp_12 : decode cX7_giveUp 12 = .ok (.aload_n 0, 1) := by decide +kernel
theorem dX7_giveUp_13 : decode cX7_giveUp 13 = .ok (.invokevirtual 127, 3) := by decide +kernel
theorem dX7_giveUp_16 : decode cX7_giveUp 16 = .ok (.invokevirtual 212, 3) := by decide +kernel
theorem dX7_giveUp_19 : decode cX7_giveUp 19 = .ok (.istore_n 2, 1) := by decide +kernel
theorem dX7_giveUp_20 : decode cX7_giveUp 20 = .ok (.iload_n 1, 1) := by decide +kernel
theorem dX7_giveUp_21 : decode cX7_giveUp 21 = .ok (.iconst 1, 1) := by decide +kernel
theorem dX7_giveUp_22 : decode cX7_giveUp 22 = .ok (.if_icmp .ne 19, 3) := by decide +kernel
theorem dX7_giveUp_25 : decode cX7_giveUp 25 = .ok (.iload_n 2, 1) := by decide +kernel
theorem dX7_giveUp_26 : decode cX7_giveUp 26 = .ok (.iconst (-1), 1) := by decide +kernel
theorem dX7_giveUp_27 : decode cX7_giveUp 27 = .ok (.if_icmp .eq 14, 3) := by decide +kernel
theorem dX7_giveUp_30 : decode cX7_giveUp 30 = .ok (.aload_n 0, 1) := by decide +kernel
theorem dX7_giveUp_31 : decode cX7_giveUp 31 = .ok (.getfield 57, 3) := by decide +kernel
theorem dX7_giveUp_34 : decode cX7_giveUp 34 = .ok (.iload_n 2, 1) := by decide +kernel
theorem dX7_giveUp_35 : decode cX7_giveUp 35 = .ok (.invokevirtual 215, 3) := by decide +kernel
theorem dX7_giveUp_38 : decode cX7_giveUp 38 = .ok (.goto 4, 3) := by decide +kernel
theorem dX7_giveUp_41 : decode cX7_giveUp 41 = .ok (.iload_n 2, 1) := by decide +kernel
theorem dX7_giveUp_42 : decode cX7_giveUp 42 = .ok (.ireturn, 1) := by decide +kernel
theorem dX7_words_0 : decode cX7_words 0 = .ok (.aload_n 0, 1) := by decide +kernel
theorem dX7_words_1 : decode cX7_words 1 = .ok (.getfield 57, 3) := by decide +kernel
theorem dX7_words_4 : decode cX7_words 4 = .ok (.iload_n 1, 1) := by decide +kernel
theorem dX7_words_5 : decode cX7_words 5 = .ok (.invokevirtual 162, 3) := by decide +kernel
theorem dX7_words_8 : decode cX7_words 8 = .ok (.ifCond .eq 14, 3) := by decide +kernel
theorem dX7_words_11 : decode cX7_words 11 = .ok (.aload_n 0, 1) := by decide +kernel
theorem dX7_words_12 : decode cX7_words 12 = .ok (.invokevirtual 127, 3) := by decide +kernel
theorem dX7_words_15 : decode cX7_words 15 = .ok (.iload_n 1, 1) := by decide +kernel
theorem dX7_words_16 : decode cX7_words 16 = .ok (.invokevirtual 218, 3) := by decide +kernel
theorem dX7_words_19 : decode cX7_words 19 = .ok (.goto 5, 3) := by decide +kernel
theorem dX7_words_22 : decode cX7_words 22 = .ok (.ldc 148, 2) := by decide +kernel
theorem dX7_words_24 : decode cX7_words 24 = .ok (.ireturn, 1) := by decide +kernel
theorem dX7_step_0 : decode cX7_step 0 = .ok (.aload_n 0, 1) := by decide +kernel
theorem dX7_step_1 : decode cX7_step 1 = .ok (.getfield 57, 3) := by decide +kernel
theorem dX7_step_4 : decode cX7_step 4 = .ok (.iload_n 1, 1) := by decide +kernel
theorem dX7_step_5 : decode cX7_step 5 = .ok (.invokevirtual 162, 3) := by decide +kernel
theorem dX7_step_8 : decode cX7_step 8 = .ok (.ifCond .eq 14, 3) := by decide +kernel
theorem dX7_step_11 : decode cX7_step 11 = .ok (.aload_n 0, 1) := by decide +kernel
theorem dX7_step_12 : decode cX7_step 12 = .ok (.invokevirtual 127, 3) := by decide +kernel
theorem dX7_step_15 : decode cX7_step 15 = .ok (.iload_n 1, 1) := by decide +kernel
theorem dX7_step_16 : decode cX7_step 16 = .ok (.invokevirtual 221, 3) := by decide +kernel
theorem dX7_step_19 : decode cX7_step 19 = .ok (.goto 5, 3) := by decide +kernel
theorem dX7_step_22 : decode cX7_step 22 = .ok (.ldc 148, 2) := by decide +kernel
theorem dX7_step_24 : decode cX7_step 24 = .ok (.ireturn, 1) := by decide +kernel
theorem dX7_barred_0 : decode cX7_barred 0 = .ok (.aload_n 0, 1) := by decide +kernel
theorem dX7_barred_1 : decode cX7_barred 1 = .ok (.getfield 57, 3) := by decide +kernel
theorem dX7_barred_4 : decode cX7_barred 4 = .ok (.iload_n 1, 1) := by decide +kernel
theorem dX7_barred_5 : decode cX7_barred 5 = .ok (.invokevirtual 162, 3) := by decide +kernel
theorem dX7_barred_8 : decode cX7_barred 8 = .ok (.ifCond .eq 14, 3) := by decide +kernel
theorem dX7_barred_11 : decode cX7_barred 11 = .ok (.aload_n 0, 1) := by decide +kernel
theorem dX7_barred_12 : decode cX7_barred 12 = .ok (.invokevirtual 127, 3) := by decide +kernel
theorem dX7_barred_15 : decode cX7_barred 15 = .ok (.iload_n 1, 1) := by decide +kernel
theorem dX7_barred_16 : decode cX7_barred 16 = .ok (.invokevirtual 224, 3) := by decide +kernel
theorem dX7_barred_19 : decode cX7_barred 19 = .ok (.goto 5, 3) := by decide +kernel
theorem dX7_barred_22 : decode cX7_barred 22 = .ok (.ldc 148, 2) := by decide +kernel
theorem dX7_barred_24 : decode cX7_barred 24 = .ok (.ireturn, 1) := by decide +kernel
theorem dX7_never_0 : decode cX7_never 0 = .ok (.aload_n 0, 1) := by decide +kernel
theorem dX7_never_1 : decode cX7_never 1 = .ok (.getfield 57, 3) := by decide +kernel
theorem dX7_never_4 : decode cX7_never 4 = .ok (.invokevirtual 227, 3) := by decide +kernel
theorem dX7_never_7 : decode cX7_never 7 = .ok (.aload_n 0, 1) := by decide +kernel
theorem dX7_never_8 : decode cX7_never 8 = .ok (.getfield 57, 3) := by decide +kernel
theorem dX7_never_11 : decode cX7_never 11 = .ok (.aload_n 0, 1) := by decide +kernel
theorem dX7_never_12 : decode cX7_never 12 = .ok (.invokevirtual 178, 3) := by decide +kernel
theorem dX7_never_15 : decode cX7_never 15 = .ok (.invokevirtual 230, 3) := by decide +kernel
theorem dX7_never_18 : decode cX7_never 18 = .ok (.iconst (-1), 1) := by decide +kernel
theorem dX7_never_19 : decode cX7_never 19 = .ok (.ixor, 1) := by decide +kernel
theorem dX7_never_20 : decode cX7_never 20 = .ok (.iand, 1) := by decide +kernel
theorem dX7_never_21 : decode cX7_never 21 = .ok (.ireturn, 1) := by decide +kernel
theorem dX7_round_0 : decode cX7_round 0 = .ok (.aload_n 0, 1) := by decide +kernel
theorem dX7_round_1 : decode cX7_round 1 = .ok (.invokevirtual 127, 3) := by decide +kernel
theorem dX7_round_4 : decode cX7_round 4 = .ok (.invokevirtual 233, 3) := by decide +kernel
theorem dX7_round_7 : decode cX7_round 7 = .ok (.ireturn, 1) := by decide +kernel
theorem dX7_vote_0 : decode cX7_vote 0 = .ok (.iload_n 1, 1) := by decide +kernel
theorem dX7_vote_1 : decode cX7_vote 1 = .ok (.iconst 1, 1) := by decide +kernel
theorem dX7_vote_2 : decode cX7_vote 2 = .ok (.if_icmp .lt 19, 3) := by decide +kernel
theorem dX7_vote_5 : decode cX7_vote 5 = .ok (.iload_n 1, 1) := by decide +kernel
theorem dX7_vote_6 : decode cX7_vote 6 = .ok (.bipush 9, 2) := by decide +kernel
theorem dX7_vote_8 : decode cX7_vote 8 = .ok (.if_icmp .gt 13, 3) := by decide +kernel
theorem dX7_vote_11 : decode cX7_vote 11 = .ok (.iload_n 2, 1) := by decide +kernel
theorem dX7_vote_12 : decode cX7_vote 12 = .ok (.ifCond .lt 9, 3) := by decide +kernel
theorem dX7_vote_15 : decode cX7_vote 15 = .ok (.iload_n 2, 1) := by decide +kernel
theorem dX7_vote_16 : decode cX7_vote 16 = .ok (.bipush 100, 2) := by decide +kernel
theorem dX7_vote_18 : decode cX7_vote 18 = .ok (.if_icmp .le 6, 3) := by decide +kernel
theorem dX7_vote_21 : decode cX7_vote 21 = .ok (.ldc 75, 2) := by decide +kernel
theorem dX7_vote_23 : decode cX7_vote 23 = .ok (.ireturn, 1) := by decide +kernel
theorem dX7_vote_24 : decode cX7_vote 24 = .ok (.aload_n 0, 1) := by decide +kernel
theorem dX7_vote_25 : decode cX7_vote 25 = .ok (.iload_n 1, 1) := by decide +kernel
theorem dX7_vote_26 : decode cX7_vote 26 = .ok (.iload_n 2, 1) := by decide +kernel
theorem dX7_vote_27 : decode cX7_vote 27 = .ok (.invokevirtual 236, 3) := by decide +kernel
theorem dX7_vote_30 : decode cX7_vote 30 = .ok (.lconst 0, 1) := by decide +kernel
theorem dX7_vote_31 : decode cX7_vote 31 = .ok (.lstore_n 3, 1) := by decide +kernel
theorem dX7_vote_32 : decode cX7_vote 32 = .ok (.iload_n 1, 1) := by decide +kernel
theorem dX7_vote_33 : decode cX7_vote 33 = .ok (.iconst 2, 1) := by decide +kernel
theorem dX7_vote_34 : decode cX7_vote 34 = .ok (.idiv, 1) := by decide +kernel
theorem dX7_vote_35 : decode cX7_vote 35 = .ok (.iconst 1, 1) := by decide +kernel
theorem dX7_vote_36 : decode cX7_vote 36 = .ok (.iadd, 1) := by decide +kernel
theorem dX7_vote_37 : decode cX7_vote 37 = .ok (.istore 5, 2) := by decide +kernel
theorem dX7_vote_39 : decode cX7_vote 39 = .ok (.iload 5, 2) := by decide +kernel
theorem dX7_vote_41 : decode cX7_vote 41 = .ok (.iload_n 1, 1) := by decide +kernel
theorem dX7_vote_42 : decode cX7_vote 42 = .ok (.if_icmp .gt 19, 3) := by decide +kernel
theorem dX7_vote_45 : decode cX7_vote 45 = .ok (.lload_n 3, 1) := by decide +kernel
theorem dX7_vote_46 : decode cX7_vote 46 = .ok (.aload_n 0, 1) := by decide +kernel
theorem dX7_vote_47 : decode cX7_vote 47 = .ok (.getfield 47, 3) := by decide +kernel
theorem dX7_vote_50 : decode cX7_vote 50 = .ok (.iload 5, 2) := by decide +kernel
theorem dX7_vote_52 : decode cX7_vote 52 = .ok (.laload, 1) := by decide +kernel
theorem dX7_vote_53 : decode cX7_vote 53 = .ok (.ladd, 1) := by decide +kernel
theorem dX7_vote_54 : decode cX7_vote 54 = .ok (.lstore_n 3, 1) := by decide +kernel
theorem dX7_vote_55 : decode cX7_vote 55 = .ok (.iinc 5 1, 3) := by decide +kernel
theorem dX7_vote_58 : decode cX7_vote 58 = .ok (.goto (-19), 3) := by decide +kernel
theorem dX7_vote_61 : decode cX7_vote 61 = .ok (.lload_n 3, 1) := by decide +kernel
theorem dX7_vote_62 : decode cX7_vote 62 = .ok (.l2i, 1) := by decide +kernel
theorem dX7_vote_63 : decode cX7_vote 63 = .ok (.ireturn, 1) := by decide +kernel
theorem dX7_shareVotes_0 : decode cX7_shareVotes 0 = .ok (.iconst 0, 1) := by decide +kernel
theorem dX7_shareVotes_1 : decode cX7_shareVotes 1 = .ok (.istore_n 3, 1) := by decide +kernel
theorem dX7_shareVotes_2 : decode cX7_shareVotes 2 = .ok (.iload_n 3, 1) := by decide +kernel
theorem dX7_shareVotes_3 : decode cX7_shareVotes 3 = .ok (.bipush 9, 2) := by decide +kernel
theorem dX7_shareVotes_5 : decode cX7_shareVotes 5 = .ok (.if_icmp .gt 16, 3) := by decide +kernel
theorem dX7_shareVotes_8 : decode cX7_shareVotes 8 = .ok (.aload_n 0, 1) := by decide +kernel
theorem dX7_shareVotes_9 : decode cX7_shareVotes 9 = .ok (.getfield 47, 3) := by decide +kernel
theorem dX7_shareVotes_12 : decode cX7_shareVotes 12 = .ok (.iload_n 3, 1) := by decide +kernel
theorem dX7_shareVotes_13 : decode cX7_shareVotes 13 = .ok (.lconst 0, 1) := by decide +kernel
theorem dX7_shareVotes_14 : decode cX7_shareVotes 14 = .ok (.lastore, 1) := by decide +kernel
theorem dX7_shareVotes_15 : decode cX7_shareVotes 15 = .ok (.iinc 3 1, 3) := by decide +kernel
theorem dX7_shareVotes_18 : decode cX7_shareVotes 18 = .ok (.goto (-16), 3) := by decide +kernel
theorem dX7_shareVotes_21 : decode cX7_shareVotes 21 = .ok (.aload_n 0, 1) := by decide +kernel
theorem dX7_shareVotes_22 : decode cX7_shareVotes 22 = .ok (.getfield 47, 3) := by decide +kernel
theorem dX7_shareVotes_25 : decode cX7_shareVotes 25 = .ok (.iconst 0, 1) := by decide +kernel
theorem dX7_shareVotes_26 : decode cX7_shareVotes 26 = .ok (.ldc2_w 240, 3) := by decide +kernel
theorem dX7_shareVotes_29 : decode cX7_shareVotes 29 = .ok (.lastore, 1) := by decide +kernel
theorem dX7_shareVotes_30 : decode cX7_shareVotes 30 = .ok (.iconst 0, 1) := by decide +kernel
theorem dX7_shareVotes_31 : decode cX7_shareVotes 31 = .ok (.istore_n 3, 1) := by decide +kernel
theorem dX7_shareVotes_32 : decode cX7_shareVotes 32 = .ok (.iload_n 3, 1) := by decide +kernel
theorem dX7_shareVotes_33 : decode cX7_shareVotes 33 = .ok (.iload_n 1, 1) := by decide +kernel
theorem dX7_shareVotes_34 : decode cX7_shareVotes 34 = .ok (.if_icmp .ge 65, 3) := by decide +kernel
theorem dX7_shareVotes_37 : decode cX7_shareVotes 37 = .ok (.iload_n 3, 1) := by decide +kernel
theorem dX7_shareVotes_38 : decode cX7_shareVotes 38 = .ok (.istore 4, 2) := by decide +kernel
theorem dX7_shareVotes_40 : decode cX7_shareVotes 40 = .ok (.iload 4, 2) := by decide +kernel
theorem dX7_shareVotes_42 : decode cX7_shareVotes 42 = .ok (.ifCond .lt 51, 3) := by decide +kernel
theorem dX7_shareVotes_45 : decode cX7_shareVotes 45 = .ok (.aload_n 0, 1) := by decide +kernel
theorem dX7_shareVotes_46 : decode cX7_shareVotes 46 = .ok (.getfield 47, 3) := by decide +kernel
theorem dX7_shareVotes_49 : decode cX7_shareVotes 49 = .ok (.iload 4, 2) := by decide +kernel
theorem dX7_shareVotes_51 : decode cX7_shareVotes 51 = .ok (.laload, 1) := by decide +kernel
theorem dX7_shareVotes_52 : decode cX7_shareVotes 52 = .ok (.iload_n 2, 1) := by decide +kernel
theorem dX7_shareVotes_53 : decode cX7_shareVotes 53 = .ok (.i2l, 1) := by decide +kernel
theorem dX7_shareVotes_54 : decode cX7_shareVotes 54 = .ok (.lmul, 1) := by decide +kernel
theorem dX7_shareVotes_55 : decode cX7_shareVotes 55 = .ok (.ldc2_w 242, 3) := by decide +kernel
theorem dX7_shareVotes_58 : decode cX7_shareVotes 58 = .ok (.ldiv, 1) := by decide +kernel
theorem dX7_shareVotes_59 : decode cX7_shareVotes 59 = .ok (.lstore 5, 2) := by decide +kernel
theorem dX7_shareVotes_61 : decode cX7_shareVotes 61 = .ok (.aload_n 0, 1) := by decide +kernel
theorem dX7_shareVotes_62 : decode cX7_shareVotes 62 = .ok (.getfield 47, 3) := by decide +kernel
theorem dX7_shareVotes_65 : decode cX7_shareVotes 65 = .ok (.iload 4, 2) := by decide +kernel
theorem dX7_shareVotes_67 : decode cX7_shareVotes 67 = .ok (.iconst 1, 1) := by decide +kernel
theorem dX7_shareVotes_68 : decode cX7_shareVotes 68 = .ok (.iadd, 1) := by decide +kernel
theorem dX7_shareVotes_69 : decode cX7_shareVotes 69 = .ok (.dup2, 1) := by decide +kernel
theorem dX7_shareVotes_70 : decode cX7_shareVotes 70 = .ok (.laload, 1) := by decide +kernel
theorem dX7_shareVotes_71 : decode cX7_shareVotes 71 = .ok (.lload 5, 2) := by decide +kernel
theorem dX7_shareVotes_73 : decode cX7_shareVotes 73 = .ok (.ladd, 1) := by decide +kernel
theorem dX7_shareVotes_74 : decode cX7_shareVotes 74 = .ok (.lastore, 1) := by decide +kernel
theorem dX7_shareVotes_75 : decode cX7_shareVotes 75 = .ok (.aload_n 0, 1) := by decide +kernel
theorem dX7_shareVotes_76 : decode cX7_shareVotes 76 = .ok (.getfield 47, 3) := by decide +kernel
theorem dX7_shareVotes_79 : decode cX7_shareVotes 79 = .ok (.iload 4, 2) := by decide +kernel
theorem dX7_shareVotes_81 : decode cX7_shareVotes 81 = .ok (.dup2, 1) := by decide +kernel
theorem dX7_shareVotes_82 : decode cX7_shareVotes 82 = .ok (.laload, 1) := by decide +kernel
theorem dX7_shareVotes_83 : decode cX7_shareVotes 83 = .ok (.lload 5, 2) := by decide +kernel
theorem dX7_shareVotes_85 : decode cX7_shareVotes 85 = .ok (.lsub, 1) := by decide +kernel
theorem dX7_shareVotes_86 : decode cX7_shareVotes 86 = .ok (.lastore, 1) := by decide +kernel
theorem dX7_shareVotes_87 : decode cX7_shareVotes 87 = .ok (.iinc 4 (-1), 3) := by decide +kernel
theorem dX7_shareVotes_90 : decode cX7_shareVotes 90 = .ok (.goto (-50), 3) := by decide +kernel
theorem dX7_shareVotes_93 : decode cX7_shareVotes 93 = .ok (.iinc 3 1, 3) := by decide +kernel
theorem dX7_shareVotes_96 : decode cX7_shareVotes 96 = .ok (.goto (-64), 3) := by decide +kernel
theorem dX7_shareVotes_99 : decode cX7_shareVotes 99 = .ok (.return_, 1) := by decide +kernel
theorem dX7_ask_0 : decode cX7_ask 0 = .ok (.aload_n 0, 1) := by decide +kernel
theorem dX7_ask_1 : decode cX7_ask 1 = .ok (.getfield 57, 3) := by decide +kernel
theorem dX7_ask_4 : decode cX7_ask 4 = .ok (.iload_n 1, 1) := by decide +kernel
theorem dX7_ask_5 : decode cX7_ask 5 = .ok (.invokevirtual 201, 3) := by decide +kernel
theorem dX7_ask_8 : decode cX7_ask 8 = .ok (.ifCond .eq 14, 3) := by decide +kernel
theorem dX7_ask_11 : decode cX7_ask 11 = .ok (.aload_n 0, 1) := by decide +kernel
theorem dX7_ask_12 : decode cX7_ask 12 = .ok (.getfield 57, 3) := by decide +kernel
theorem dX7_ask_15 : decode cX7_ask 15 = .ok (.iload_n 2, 1) := by decide +kernel
theorem dX7_ask_16 : decode cX7_ask 16 = .ok (.invokevirtual 162, 3) := by decide +kernel
theorem dX7_ask_19 : decode cX7_ask 19 = .ok (.ifCond .ne 6, 3) := by decide +kernel
theorem dX7_ask_22 : decode cX7_ask 22 = .ok (.ldc 148, 2) := by decide +kernel
theorem dX7_ask_24 : decode cX7_ask 24 = .ok (.ireturn, 1) := by decide +kernel
theorem dX7_ask_25 : decode cX7_ask 25 = .ok (.aload_n 0, 1) := by decide +kernel
theorem dX7_ask_26 : decode cX7_ask 26 = .ok (.getfield 26, 3) := by decide +kernel
theorem dX7_ask_29 : decode cX7_ask 29 = .ok (.iload_n 1, 1) := by decide +kernel
theorem dX7_ask_30 : decode cX7_ask 30 = .ok (.iload_n 2, 1) := by decide +kernel
theorem dX7_ask_31 : decode cX7_ask 31 = .ok (.iload_n 3, 1) := by decide +kernel
theorem dX7_ask_32 : decode cX7_ask 32 = .ok (.invokevirtual 244, 3) := by decide +kernel
theorem dX7_ask_35 : decode cX7_ask 35 = .ok (.ifCond .eq 13, 3) := by decide +kernel
theorem dX7_ask_38 : decode cX7_ask 38 = .ok (.aload_n 0, 1) := by decide +kernel
theorem dX7_ask_39 : decode cX7_ask 39 = .ok (.getfield 26, 3) := by decide +kernel
theorem dX7_ask_42 : decode cX7_ask 42 = .ok (.invokevirtual 140, 3) := by decide +kernel
theorem dX7_ask_45 : decode cX7_ask 45 = .ok (.goto 5, 3) := by decide +kernel
theorem dX7_ask_48 : decode cX7_ask 48 = .ok (.ldc 84, 2) := by decide +kernel
theorem dX7_ask_50 : decode cX7_ask 50 = .ok (.ireturn, 1) := by decide +kernel
theorem dX7_believed_0 : decode cX7_believed 0 = .ok (.iload_n 1, 1) := by decide +kernel
theorem dX7_believed_1 : decode cX7_believed 1 = .ok (.ifCond .lt 8, 3) := by decide +kernel
theorem dX7_believed_4 : decode cX7_believed 4 = .ok (.iload_n 1, 1) := by decide +kernel
theorem dX7_believed_5 : decode cX7_believed 5 = .ok (.iconst 2, 1) := by decide +kernel
theorem dX7_believed_6 : decode cX7_believed 6 = .ok (.if_icmp .le 6, 3) := by decide +kernel
theorem dX7_believed_9 : decode cX7_believed 9 = .ok (.ldc 75, 2) := by decide +kernel
theorem dX7_believed_11 : decode cX7_believed 11 = .ok (.ireturn, 1) := by decide +kernel
theorem dX7_believed_12 : decode cX7_believed 12 = .ok (.iconst 0, 1) := by decide +kernel
theorem dX7_believed_13 : decode cX7_believed 13 = .ok (.istore_n 2, 1) := by decide +kernel
theorem dX7_believed_14 : decode cX7_believed 14 = .ok (.iconst (-1), 1) := by decide +kernel
theorem dX7_believed_15 : decode cX7_believed 15 = .ok (.istore_n 3, 1) := by decide +kernel
theorem dX7_believed_16 : decode cX7_believed 16 = .ok (.aload_n 0, 1) := by decide +kernel
theorem dX7_believed_17 : decode cX7_believed 17 = .ok (.getfield 57, 3) := by decide +kernel
theorem dX7_believed_20 : decode cX7_believed 20 = .ok (.invokevirtual 247, 3) := by decide +kernel
theorem dX7_believed_23 : decode cX7_believed 23 = .ok (.istore 4, 2) := by decide +kernel
theorem dX7_believed_25 : decode cX7_believed 25 = .ok (.iconst 0, 1) := by decide +kernel
theorem dX7_believed_26 : decode cX7_believed 26 = .ok (.istore 5, 2) := by decide +kernel
theorem dX7_believed_28 : decode cX7_believed 28 = .ok (.iload 5, 2) := by decide +kernel
theorem dX7_believed_30 : decode cX7_believed 30 = .ok (.aload_n 0, 1) := by decide +kernel
theorem dX7_believed_31 : decode cX7_believed 31 = .ok (.getfield 57, 3) := by decide +kernel
theorem dX7_believed_34 : decode cX7_believed 34 = .ok (.invokevirtual 247, 3) := by decide +kernel
theorem dX7_believed_37 : decode cX7_believed 37 = .ok (.if_icmp .gt 46, 3) := by decide +kernel
theorem dX7_believed_40 : decode cX7_believed 40 = .ok (.aload_n 0, 1) := by decide +kernel
theorem dX7_believed_41 : decode cX7_believed 41 = .ok (.getfield 26, 3) := by decide +kernel
theorem dX7_believed_44 : decode cX7_believed 44 = .ok (.aload_n 0, 1) := by decide +kernel
theorem dX7_believed_45 : decode cX7_believed 45 = .ok (.getfield 57, 3) := by decide +kernel
theorem dX7_believed_48 : decode cX7_believed 48 = .ok (.iload 5, 2) := by decide +kernel
theorem dX7_believed_50 : decode cX7_believed 50 = .ok (.invokevirtual 250, 3) := by decide +kernel
theorem dX7_believed_53 : decode cX7_believed 53 = .ok (.ifCond .eq 24, 3) := by decide +kernel
theorem dX7_believed_56 : decode cX7_believed 56 = .ok (.iload_n 2, 1) := by decide +kernel
theorem dX7_believed_57 : decode cX7_believed 57 = .ok (.ifCond .ne 8, 3) := by decide +kernel
theorem dX7_believed_60 : decode cX7_believed 60 = .ok (.iload 5, 2) := by decide +kernel
theorem dX7_believed_62 : decode cX7_believed 62 = .ok (.goto 4, 3) := by decide +kernel
theorem dX7_believed_65 : decode cX7_believed 65 = .ok (.iload_n 3, 1) := by decide +kernel
theorem dX7_believed_66 : decode cX7_believed 66 = .ok (.istore_n 3, 1) := by decide +kernel
theorem dX7_believed_67 : decode cX7_believed 67 = .ok (.iload 4, 2) := by decide +kernel
theorem dX7_believed_69 : decode cX7_believed 69 = .ok (.iload 5, 2) := by decide +kernel
theorem dX7_believed_71 : decode cX7_believed 71 = .ok (.iand, 1) := by decide +kernel
theorem dX7_believed_72 : decode cX7_believed 72 = .ok (.istore 4, 2) := by decide +kernel
theorem dX7_believed_74 : decode cX7_believed 74 = .ok (.iinc 2 1, 3) := by decide +kernel
theorem dX7_believed_77 : decode cX7_believed 77 = .ok (.iinc 5 1, 3) := by decide +kernel
theorem dX7_believed_80 : decode cX7_believed 80 = .ok (.goto (-52), 3) := by decide +kernel
theorem dX7_believed_83 : decode cX7_believed 83 = .ok (.iload_n 1, 1) := by decide +kernel
theorem dX7_believed_84 : decode cX7_believed 84 = .ok (.ifCond .ne 5, 3) := by decide +kernel
theorem dX7_believed_87 : decode cX7_believed 87 = .ok (.iload_n 2, 1) := by decide +kernel
theorem dX7_believed_88 : decode cX7_believed 88 = .ok (.ireturn, 1) := by decide +kernel
theorem dX7_believed_89 : decode cX7_believed 89 = .ok (.iload_n 1, 1) := by decide +kernel
theorem dX7_believed_90 : decode cX7_believed 90 = .ok (.iconst 1, 1) := by decide +kernel
theorem dX7_believed_91 : decode cX7_believed 91 = .ok (.if_icmp .ne 5, 3) := by decide +kernel
theorem dX7_believed_94 : decode cX7_believed 94 = .ok (.iload_n 3, 1) := by decide +kernel
theorem dX7_believed_95 : decode cX7_believed 95 = .ok (.ireturn, 1) := by decide +kernel
theorem dX7_believed_96 : decode cX7_believed 96 = .ok (.iload_n 2, 1) := by decide +kernel
theorem dX7_believed_97 : decode cX7_believed 97 = .ok (.ifCond .ne 7, 3) := by decide +kernel
theorem dX7_believed_100 : decode cX7_believed 100 = .ok (.iconst 0, 1) := by decide +kernel
theorem dX7_believed_101 : decode cX7_believed 101 = .ok (.goto 5, 3) := by decide +kernel
theorem dX7_believed_104 : decode cX7_believed 104 = .ok (.iload 4, 2) := by decide +kernel
theorem dX7_believed_106 : decode cX7_believed 106 = .ok (.ireturn, 1) := by decide +kernel
theorem dX7_askNext_0 : decode cX7_askNext 0 = .ok (.aload_n 0, 1) := by decide +kernel
theorem dX7_askNext_1 : decode cX7_askNext 1 = .ok (.invokevirtual 254, 3) := by decide +kernel
theorem dX7_askNext_4 : decode cX7_askNext 4 = .ok (.istore_n 1, 1) := by decide +kernel
theorem dX7_askNext_5 : decode cX7_askNext 5 = .ok (.iconst (-1), 1) := by decide +kernel
theorem dX7_askNext_6 : decode cX7_askNext 6 = .ok (.istore_n 2, 1) := by decide +kernel
theorem dX7_askNext_7 : decode cX7_askNext 7 = .ok (.iload_n 1, 1) := by decide +kernel
theorem dX7_askNext_8 : decode cX7_askNext 8 = .ok (.istore_n 3, 1) := by decide +kernel
theorem dX7_askNext_9 : decode cX7_askNext 9 = .ok (.iconst 0, 1) := by decide +kernel
theorem dX7_askNext_10 : decode cX7_askNext 10 = .ok (.istore 4, 2) := by decide +kernel
theorem dX7_askNext_12 : decode cX7_askNext 12 = .ok (.iload 4, 2) := by decide +kernel
theorem dX7_askNext_14 : decode cX7_askNext 14 = .ok (.aload_n 0, 1) := by decide +kernel
theorem dX7_askNext_15 : decode cX7_askNext 15 = .ok (.getfield 57, 3) := by decide +kernel
theorem dX7_askNext_18 : decode cX7_askNext 18 = .ok (.invokevirtual 185, 3) := by decide +kernel
theorem dX7_askNext_21 : decode cX7_askNext 21 = .ok (.if_icmp .ge 42, 3) := by decide +kernel
theorem dX7_askNext_24 : decode cX7_askNext 24 = .ok (.aload_n 0, 1) := by decide +kernel
theorem dX7_askNext_25 : decode cX7_askNext 25 = .ok (.getfield 51, 3) := by decide +kernel
theorem dX7_askNext_28 : decode cX7_askNext 28 = .ok (.iload 4, 2) := by decide +kernel
theorem dX7_askNext_30 : decode cX7_askNext 30 = .ok (.iaload, 1) := by decide +kernel
theorem dX7_askNext_31 : decode cX7_askNext 31 = .ok (.iload_n 1, 1) := by decide +kernel
theorem dX7_askNext_32 : decode cX7_askNext 32 = .ok (.aload_n 0, 1) := by decide +kernel
theorem dX7_askNext_33 : decode cX7_askNext 33 = .ok (.getfield 51, 3) := by decide +kernel
theorem dX7_askNext_36 : decode cX7_askNext 36 = .ok (.iload 4, 2) := by decide +kernel
theorem dX7_askNext_38 : decode cX7_askNext 38 = .ok (.iaload, 1) := by decide +kernel
theorem dX7_askNext_39 : decode cX7_askNext 39 = .ok (.isub, 1) := by decide +kernel
theorem dX7_askNext_40 : decode cX7_askNext 40 = .ok (.invokestatic 257, 3) := by decide +kernel
theorem dX7_askNext_43 : decode cX7_askNext 43 = .ok (.istore 5, 2) := by decide +kernel
theorem dX7_askNext_45 : decode cX7_askNext 45 = .ok (.iload 5, 2) := by decide +kernel
theorem dX7_askNext_47 : decode cX7_askNext 47 = .ok (.iload_n 3, 1) := by decide +kernel
theorem dX7_askNext_48 : decode cX7_askNext 48 = .ok (.if_icmp .ge 9, 3) := by decide +kernel
theorem dX7_askNext_51 : decode cX7_askNext 51 = .ok (.iload 5, 2) := by decide +kernel
theorem dX7_askNext_53 : decode cX7_askNext 53 = .ok (.istore_n 3, 1) := by decide +kernel
theorem dX7_askNext_54 : decode cX7_askNext 54 = .ok (.iload 4, 2) := by decide +kernel
theorem dX7_askNext_56 : decode cX7_askNext 56 = .ok (.istore_n 2, 1) := by decide +kernel
theorem dX7_askNext_57 : decode cX7_askNext 57 = .ok (.iinc 4 1, 3) := by decide +kernel
theorem dX7_askNext_60 : decode cX7_askNext 60 = .ok (.goto (-48), 3) := by decide +kernel
theorem dX7_askNext_63 : decode cX7_askNext 63 = .ok (.iload_n 2, 1) := by decide +kernel
theorem dX7_askNext_64 : decode cX7_askNext 64 = .ok (.ireturn, 1) := by decide +kernel
theorem dX7_countAnswers_0 : decode cX7_countAnswers 0 = .ok (.iconst 0, 1) := by decide +kernel
theorem dX7_countAnswers_1 : decode cX7_countAnswers 1 = .ok (.istore_n 1, 1) := by decide +kernel
theorem dX7_countAnswers_2 : decode cX7_countAnswers 2 = .ok (.iload_n 1, 1) := by decide +kernel
theorem dX7_countAnswers_3 : decode cX7_countAnswers 3 = .ok (.bipush 16, 2) := by decide +kernel
theorem dX7_countAnswers_5 : decode cX7_countAnswers 5 = .ok (.if_icmp .ge 16, 3) := by decide +kernel
theorem dX7_countAnswers_8 : decode cX7_countAnswers 8 = .ok (.aload_n 0, 1) := by decide +kernel
theorem dX7_countAnswers_9 : decode cX7_countAnswers 9 = .ok (.getfield 51, 3) := by decide +kernel
theorem dX7_countAnswers_12 : decode cX7_countAnswers 12 = .ok (.iload_n 1, 1) := by decide +kernel
theorem dX7_countAnswers_13 : decode cX7_countAnswers 13 = .ok (.iconst 0, 1) := by decide +kernel
theorem dX7_countAnswers_14 : decode cX7_countAnswers 14 = .ok (.iastore, 1) := by decide +kernel
theorem dX7_countAnswers_15 : decode cX7_countAnswers 15 = .ok (.iinc 1 1, 3) := by decide +kernel
theorem dX7_countAnswers_18 : decode cX7_countAnswers 18 = .ok (.goto (-16), 3) := by decide +kernel
theorem dX7_countAnswers_21 : decode cX7_countAnswers 21 = .ok (.iconst 0, 1) := by decide +kernel
theorem dX7_countAnswers_22 : decode cX7_countAnswers 22 = .ok (.istore_n 1, 1) := by decide +kernel
theorem dX7_countAnswers_23 : decode cX7_countAnswers 23 = .ok (.iconst 0, 1) := by decide +kernel
theorem dX7_countAnswers_24 : decode cX7_countAnswers 24 = .ok (.istore_n 2, 1) := by decide +kernel
theorem dX7_countAnswers_25 : decode cX7_countAnswers 25 = .ok (.iload_n 2, 1) := by decide +kernel
theorem dX7_countAnswers_26 : decode cX7_countAnswers 26 = .ok (.aload_n 0, 1) := by decide +kernel
theorem dX7_countAnswers_27 : decode cX7_countAnswers 27 = .ok (.getfield 57, 3) := by decide +kernel
theorem dX7_countAnswers_30 : decode cX7_countAnswers 30 = .ok (.invokevirtual 247, 3) := by decide +kernel
theorem dX7_countAnswers_33 : decode cX7_countAnswers 33 = .ok (.if_icmp .gt 46, 3) := by decide +kernel
theorem dX7_countAnswers_36 : decode cX7_countAnswers 36 = .ok (.aload_n 0, 1) := by decide +kernel
theorem dX7_countAnswers_37 : decode cX7_countAnswers 37 = .ok (.getfield 26, 3) := by decide +kernel
theorem dX7_countAnswers_40 : decode cX7_countAnswers 40 = .ok (.aload_n 0, 1) := by decide +kernel
theorem dX7_countAnswers_41 : decode cX7_countAnswers 41 = .ok (.getfield 57, 3) := by decide +kernel
theorem dX7_countAnswers_44 : decode cX7_countAnswers 44 = .ok (.iload_n 2, 1) := by decide +kernel
theorem dX7_countAnswers_45 : decode cX7_countAnswers 45 = .ok (.invokevirtual 250, 3) := by decide +kernel
theorem dX7_countAnswers_48 : decode cX7_countAnswers 48 = .ok (.ifCond .eq 25, 3) := by decide +kernel
theorem dX7_countAnswers_51 : decode cX7_countAnswers 51 = .ok (.aload_n 0, 1) := by decide +kernel
theorem dX7_countAnswers_52 : decode cX7_countAnswers 52 = .ok (.aload_n 0, 1) := by decide +kernel
theorem dX7_countAnswers_53 : decode cX7_countAnswers 53 = .ok (.getfield 57, 3) := by decide +kernel
theorem dX7_countAnswers_56 : decode cX7_countAnswers 56 = .ok (.aload_n 0, 1) := by decide +kernel
theorem dX7_countAnswers_57 : decode cX7_countAnswers 57 = .ok (.getfield 67, 3) := by decide +kernel
theorem dX7_countAnswers_60 : decode cX7_countAnswers 60 = .ok (.getfield 115, 3) := by decide +kernel
theorem dX7_countAnswers_63 : decode cX7_countAnswers 63 = .ok (.iload_n 2, 1) := by decide +kernel
theorem dX7_countAnswers_64 : decode cX7_countAnswers 64 = .ok (.invokevirtual 181, 3) := by decide +kernel
theorem dX7_countAnswers_67 : decode cX7_countAnswers 67 = .ok (.invokevirtual 262, 3) := by decide +kernel
theorem dX7_countAnswers_70 : decode cX7_countAnswers 70 = .ok (.iinc 1 1, 3) := by decide +kernel
theorem dX7_countAnswers_73 : decode cX7_countAnswers 73 = .ok (.iinc 2 1, 3) := by decide +kernel
theorem dX7_countAnswers_76 : decode cX7_countAnswers 76 = .ok (.goto (-51), 3) := by decide +kernel
theorem dX7_countAnswers_79 : decode cX7_countAnswers 79 = .ok (.iload_n 1, 1) := by decide +kernel
theorem dX7_countAnswers_80 : decode cX7_countAnswers 80 = .ok (.ireturn, 1) := by decide +kernel
theorem dX7_countYes_0 : decode cX7_countYes 0 = .ok (.iconst 0, 1) := by decide +kernel
theorem dX7_countYes_1 : decode cX7_countYes 1 = .ok (.istore_n 2, 1) := by decide +kernel
theorem dX7_countYes_2 : decode cX7_countYes 2 = .ok (.iload_n 2, 1) := by decide +kernel
theorem dX7_countYes_3 : decode cX7_countYes 3 = .ok (.bipush 16, 2) := by decide +kernel
theorem dX7_countYes_5 : decode cX7_countYes 5 = .ok (.if_icmp .ge 27, 3) := by decide +kernel
theorem dX7_countYes_8 : decode cX7_countYes 8 = .ok (.iload_n 1, 1) := by decide +kernel
theorem dX7_countYes_9 : decode cX7_countYes 9 = .ok (.iload_n 2, 1) := by decide +kernel
theorem dX7_countYes_10 : decode cX7_countYes 10 = .ok (.invokestatic 158, 3) := by decide +kernel
theorem dX7_countYes_13 : decode cX7_countYes 13 = .ok (.ifCond .eq 13, 3) := by decide +kernel
theorem dX7_countYes_16 : decode cX7_countYes 16 = .ok (.aload_n 0, 1) := by decide +kernel
theorem dX7_countYes_17 : decode cX7_countYes 17 = .ok (.getfield 51, 3) := by decide +kernel
theorem dX7_countYes_20 : decode cX7_countYes 20 = .ok (.iload_n 2, 1) := by decide +kernel
theorem dX7_countYes_21 : decode cX7_countYes 21 = .ok (.dup2, 1) := by decide +kernel
theorem dX7_countYes_22 : decode cX7_countYes 22 = .ok (.iaload, 1) := by decide +kernel
theorem dX7_countYes_23 : decode cX7_countYes 23 = .ok (.iconst 1, 1) := by decide +kernel
theorem dX7_countYes_24 : decode cX7_countYes 24 = .ok (.iadd, 1) := by decide +kernel
theorem dX7_countYes_25 : decode cX7_countYes 25 = .ok (.iastore, 1) := by decide +kernel
theorem dX7_countYes_26 : decode cX7_countYes 26 = .ok (.iinc 2 1, 3) := by decide +kernel
theorem dX7_countYes_29 : decode cX7_countYes 29 = .ok (.goto (-27), 3) := by decide +kernel
theorem dX7_countYes_32 : decode cX7_countYes 32 = .ok (.return_, 1) := by decide +kernel
theorem dX7_write_0 : decode cX7_write 0 = .ok (.aload_n 0, 1) := by decide +kernel
theorem dX7_write_1 : decode cX7_write 1 = .ok (.getfield 57, 3) := by decide +kernel
theorem dX7_write_4 : decode cX7_write 4 = .ok (.iload_n 1, 1) := by decide +kernel
theorem dX7_write_5 : decode cX7_write 5 = .ok (.invokevirtual 162, 3) := by decide +kernel
theorem dX7_write_8 : decode cX7_write 8 = .ok (.ifCond .ne 6, 3) := by decide +kernel
theorem dX7_write_11 : decode cX7_write 11 = .ok (.ldc 148, 2) := by decide +kernel
theorem dX7_write_13 : decode cX7_write 13 = .ok (.ireturn, 1) := by decide +kernel
theorem dX7_write_14 : decode cX7_write 14 = .ok (.iload_n 2, 1) := by decide +kernel
theorem dX7_write_15 : decode cX7_write 15 = .ok (.ifCond .lt 8, 3) := by decide +kernel
theorem dX7_write_18 : decode cX7_write 18 = .ok (.iload_n 2, 1) := by decide +kernel
theorem dX7_write_19 : decode cX7_write 19 = .ok (.iconst 1, 1) := by decide +kernel
theorem dX7_write_20 : decode cX7_write 20 = .ok (.if_icmp .le 6, 3) := by decide +kernel
theorem dX7_write_23 : decode cX7_write 23 = .ok (.ldc 75, 2) := by decide +kernel
theorem dX7_write_25 : decode cX7_write 25 = .ok (.ireturn, 1) := by decide +kernel
theorem dX7_write_26 : decode cX7_write 26 = .ok (.aload_n 0, 1) := by decide +kernel
theorem dX7_write_27 : decode cX7_write 27 = .ok (.getfield 33, 3) := by decide +kernel
theorem dX7_write_30 : decode cX7_write 30 = .ok (.iload_n 1, 1) := by decide +kernel
theorem dX7_write_31 : decode cX7_write 31 = .ok (.iload_n 2, 1) := by decide +kernel
theorem dX7_write_32 : decode cX7_write 32 = .ok (.iconst 1, 1) := by decide +kernel
theorem dX7_write_33 : decode cX7_write 33 = .ok (.if_icmp .ne 7, 3) := by decide +kernel
theorem dX7_write_36 : decode cX7_write 36 = .ok (.iconst 1, 1) := by decide +kernel
theorem dX7_write_37 : decode cX7_write 37 = .ok (.goto 4, 3) := by decide +kernel
theorem dX7_write_40 : decode cX7_write 40 = .ok (.iconst 0, 1) := by decide +kernel
theorem dX7_write_41 : decode cX7_write 41 = .ok (.invokevirtual 266, 3) := by decide +kernel
theorem dX7_write_44 : decode cX7_write 44 = .ok (.ifCond .eq 13, 3) := by decide +kernel
theorem dX7_write_47 : decode cX7_write 47 = .ok (.aload_n 0, 1) := by decide +kernel
theorem dX7_write_48 : decode cX7_write 48 = .ok (.getfield 33, 3) := by decide +kernel
theorem dX7_write_51 : decode cX7_write 51 = .ok (.invokevirtual 143, 3) := by decide +kernel
theorem dX7_write_54 : decode cX7_write 54 = .ok (.goto 5, 3) := by decide +kernel
theorem dX7_write_57 : decode cX7_write 57 = .ok (.ldc 84, 2) := by decide +kernel
theorem dX7_write_59 : decode cX7_write 59 = .ok (.ireturn, 1) := by decide +kernel
theorem dX7_tear_0 : decode cX7_tear 0 = .ok (.aload_n 0, 1) := by decide +kernel
theorem dX7_tear_1 : decode cX7_tear 1 = .ok (.getfield 26, 3) := by decide +kernel
theorem dX7_tear_4 : decode cX7_tear 4 = .ok (.invokevirtual 140, 3) := by decide +kernel
theorem dX7_tear_7 : decode cX7_tear 7 = .ok (.aload_n 0, 1) := by decide +kernel
theorem dX7_tear_8 : decode cX7_tear 8 = .ok (.getfield 33, 3) := by decide +kernel
theorem dX7_tear_11 : decode cX7_tear 11 = .ok (.invokevirtual 143, 3) := by decide +kernel
theorem dX7_tear_14 : decode cX7_tear 14 = .ok (.iadd, 1) := by decide +kernel
theorem dX7_tear_15 : decode cX7_tear 15 = .ok (.istore_n 1, 1) := by decide +kernel
theorem dX7_tear_16 : decode cX7_tear 16 = .ok (.aload_n 0, 1) := by decide +kernel
theorem dX7_tear_17 : decode cX7_tear 17 = .ok (.getfield 26, 3) := by decide +kernel
theorem dX7_tear_20 : decode cX7_tear 20 = .ok (.invokevirtual 107, 3) := by decide +kernel
theorem dX7_tear_23 : decode cX7_tear 23 = .ok (.aload_n 0, 1) := by decide +kernel
theorem dX7_tear_24 : decode cX7_tear 24 = .ok (.getfield 33, 3) := by decide +kernel
theorem dX7_tear_27 : decode cX7_tear 27 = .ok (.invokevirtual 108, 3) := by decide +kernel
theorem dX7_tear_30 : decode cX7_tear 30 = .ok (.iload_n 1, 1) := by decide +kernel
theorem dX7_tear_31 : decode cX7_tear 31 = .ok (.ireturn, 1) := by decide +kernel
theorem dX7_judge_0 : decode cX7_judge 0 = .ok (.aload_n 0, 1) := by decide +kernel
theorem dX7_judge_1 : decode cX7_judge 1 = .ok (.getfield 33, 3) := by decide +kernel
theorem dX7_judge_4 : decode cX7_judge 4 = .ok (.aload_n 0, 1) := by decide +kernel
theorem dX7_judge_5 : decode cX7_judge 5 = .ok (.invokevirtual 127, 3) := by decide +kernel
theorem dX7_judge_8 : decode cX7_judge 8 = .ok (.invokevirtual 131, 3) := by decide +kernel
theorem dX7_judge_11 : decode cX7_judge 11 = .ok (.invokevirtual 269, 3) := by decide +kernel
theorem dX7_judge_14 : decode cX7_judge 14 = .ok (.ireturn, 1) := by decide +kernel
theorem dX7_seed_0 : decode cX7_seed 0 = .ok (.iload_n 1, 1) := by decide +kernel
theorem dX7_seed_1 : decode cX7_seed 1 = .ok (.ifCond .ge 6, 3) := by decide +kernel
theorem dX7_seed_4 : decode cX7_seed 4 = .ok (.ldc 75, 2) := by decide +kernel
theorem dX7_seed_6 : decode cX7_seed 6 = .ok (.ireturn, 1) := by decide +kernel
theorem dX7_seed_7 : decode cX7_seed 7 = .ok (.aload_n 0, 1) := by decide +kernel
theorem dX7_seed_8 : decode cX7_seed 8 = .ok (.getfield 71, 3) := by decide +kernel
theorem dX7_seed_11 : decode cX7_seed 11 = .ok (.istore_n 2, 1) := by decide +kernel
theorem dX7_seed_12 : decode cX7_seed 12 = .ok (.aload_n 0, 1) := by decide +kernel
theorem dX7_seed_13 : decode cX7_seed 13 = .ok (.iload_n 1, 1) := by decide +kernel
theorem dX7_seed_14 : decode cX7_seed 14 = .ok (.putfield 71, 3) := by decide +kernel
theorem dX7_seed_17 : decode cX7_seed 17 = .ok (.iload_n 2, 1) := by decide +kernel
theorem dX7_seed_18 : decode cX7_seed 18 = .ok (.ireturn, 1) := by decide +kernel
theorem dX7_keep_0 : decode cX7_keep 0 = .ok (.iload_n 1, 1) := by decide +kernel
theorem dX7_keep_1 : decode cX7_keep 1 = .ok (.ifCond .lt 8, 3) := by decide +kernel
theorem dX7_keep_4 : decode cX7_keep 4 = .ok (.iload_n 1, 1) := by decide +kernel
theorem dX7_keep_5 : decode cX7_keep 5 = .ok (.iconst 2, 1) := by decide +kernel
theorem dX7_keep_6 : decode cX7_keep 6 = .ok (.if_icmp .lt 6, 3) := by decide +kernel
theorem dX7_keep_9 : decode cX7_keep 9 = .ok (.ldc 148, 2) := by decide +kernel
theorem dX7_keep_11 : decode cX7_keep 11 = .ok (.ireturn, 1) := by decide +kernel
theorem dX7_keep_12 : decode cX7_keep 12 = .ok (.aload_n 0, 1) := by decide +kernel
theorem dX7_keep_13 : decode cX7_keep 13 = .ok (.getfield 39, 3) := by decide +kernel
theorem dX7_keep_16 : decode cX7_keep 16 = .ok (.iload_n 1, 1) := by decide +kernel
theorem dX7_keep_17 : decode cX7_keep 17 = .ok (.aload_n 0, 1) := by decide +kernel
theorem dX7_keep_18 : decode cX7_keep 18 = .ok (.getfield 67, 3) := by decide +kernel
theorem dX7_keep_21 : decode cX7_keep 21 = .ok (.aastore, 1) := by decide +kernel
theorem dX7_keep_22 : decode cX7_keep 22 = .ok (.aload_n 0, 1) := by decide +kernel
theorem dX7_keep_23 : decode cX7_keep 23 = .ok (.getfield 43, 3) := by decide +kernel
theorem dX7_keep_26 : decode cX7_keep 26 = .ok (.iload_n 1, 1) := by decide +kernel
theorem dX7_keep_27 : decode cX7_keep 27 = .ok (.aload_n 0, 1) := by decide +kernel
theorem dX7_keep_28 : decode cX7_keep 28 = .ok (.getfield 71, 3) := by decide +kernel
theorem dX7_keep_31 : decode cX7_keep 31 = .ok (.iastore, 1) := by decide +kernel
theorem dX7_keep_32 : decode cX7_keep 32 = .ok (.aload_n 0, 1) := by decide +kernel
theorem dX7_keep_33 : decode cX7_keep 33 = .ok (.getfield 19, 3) := by decide +kernel
theorem dX7_keep_36 : decode cX7_keep 36 = .ok (.invokevirtual 104, 3) := by decide +kernel
theorem dX7_keep_39 : decode cX7_keep 39 = .ok (.iconst 1, 1) := by decide +kernel
theorem dX7_keep_40 : decode cX7_keep 40 = .ok (.ireturn, 1) := by decide +kernel
theorem dX7_goBack_0 : decode cX7_goBack 0 = .ok (.iload_n 1, 1) := by decide +kernel
theorem dX7_goBack_1 : decode cX7_goBack 1 = .ok (.ifCond .lt 8, 3) := by decide +kernel
theorem dX7_goBack_4 : decode cX7_goBack 4 = .ok (.iload_n 1, 1) := by decide +kernel
theorem dX7_goBack_5 : decode cX7_goBack 5 = .ok (.iconst 2, 1) := by decide +kernel
theorem dX7_goBack_6 : decode cX7_goBack 6 = .ok (.if_icmp .lt 6, 3) := by decide +kernel
theorem dX7_goBack_9 : decode cX7_goBack 9 = .ok (.ldc 148, 2) := by decide +kernel
theorem dX7_goBack_11 : decode cX7_goBack 11 = .ok (.ireturn, 1) := by decide +kernel
theorem dX7_goBack_12 : decode cX7_goBack 12 = .ok (.aload_n 0, 1) := by decide +kernel
theorem dX7_goBack_13 : decode cX7_goBack 13 = .ok (.getfield 39, 3) := by decide +kernel
theorem dX7_goBack_16 : decode cX7_goBack 16 = .ok (.iload_n 1, 1) := by decide +kernel
theorem dX7_goBack_17 : decode cX7_goBack 17 = .ok (.aaload, 1) := by decide +kernel
theorem dX7_goBack_18 : decode cX7_goBack 18 = .ok (.astore_n 2, 1) := by decide +kernel
theorem dX7_goBack_19 : decode cX7_goBack 19 = .ok (.aload_n 2, 1) := by decide +kernel
theorem dX7_goBack_20 : decode cX7_goBack 20 = .ok (.ifnonnull 6, 3) := by decide +kernel
theorem dX7_goBack_23 : decode cX7_goBack 23 = .ok (.ldc 177, 2) := by decide +kernel
theorem dX7_goBack_25 : decode cX7_goBack 25 = .ok (.ireturn, 1) := by decide +kernel
theorem dX7_goBack_26 : decode cX7_goBack 26 = .ok (.aload_n 0, 1) := by decide +kernel
theorem dX7_goBack_27 : decode cX7_goBack 27 = .ok (.aload_n 2, 1) := by decide +kernel
theorem dX7_goBack_28 : decode cX7_goBack 28 = .ok (.putfield 67, 3) := by decide +kernel
theorem dX7_goBack_31 : decode cX7_goBack 31 = .ok (.aload_n 0, 1) := by decide +kernel
theorem dX7_goBack_32 : decode cX7_goBack 32 = .ok (.aload_n 0, 1) := by decide +kernel
theorem dX7_goBack_33 : decode cX7_goBack 33 = .ok (.getfield 43, 3) := by decide +kernel
theorem dX7_goBack_36 : decode cX7_goBack 36 = .ok (.iload_n 1, 1) := by decide +kernel
theorem dX7_goBack_37 : decode cX7_goBack 37 = .ok (.iaload, 1) := by decide +kernel
theorem dX7_goBack_38 : decode cX7_goBack 38 = .ok (.putfield 71, 3) := by decide +kernel
theorem dX7_goBack_41 : decode cX7_goBack 41 = .ok (.aload_n 0, 1) := by decide +kernel
theorem dX7_goBack_42 : decode cX7_goBack 42 = .ok (.getfield 19, 3) := by decide +kernel
theorem dX7_goBack_45 : decode cX7_goBack 45 = .ok (.invokevirtual 104, 3) := by decide +kernel
theorem dX7_goBack_48 : decode cX7_goBack 48 = .ok (.iconst 1, 1) := by decide +kernel
theorem dX7_goBack_49 : decode cX7_goBack 49 = .ok (.ireturn, 1) := by decide +kernel
theorem dX7_draw_0 : decode cX7_draw 0 = .ok (.aload_n 0, 1) := by decide +kernel
theorem dX7_draw_1 : decode cX7_draw 1 = .ok (.aload_n 0, 1) := by decide +kernel
theorem dX7_draw_2 : decode cX7_draw 2 = .ok (.getfield 71, 3) := by decide +kernel
theorem dX7_draw_5 : decode cX7_draw 5 = .ok (.i2l, 1) := by decide +kernel
theorem dX7_draw_6 : decode cX7_draw 6 = .ok (.ldc2_w 272, 3) := by decide +kernel
theorem dX7_draw_9 : decode cX7_draw 9 = .ok (.lmul, 1) := by decide +kernel
theorem dX7_draw_10 : decode cX7_draw 10 = .ok (.ldc2_w 274, 3) := by decide +kernel
theorem dX7_draw_13 : decode cX7_draw 13 = .ok (.ladd, 1) := by decide +kernel
theorem dX7_draw_14 : decode cX7_draw 14 = .ok (.ldc2_w 276, 3) := by decide +kernel
theorem dX7_draw_17 : decode cX7_draw 17 = .ok (.land, 1) := by decide +kernel
theorem dX7_draw_18 : decode cX7_draw 18 = .ok (.l2i, 1) := by decide +kernel
theorem dX7_draw_19 : decode cX7_draw 19 = .ok (.putfield 71, 3) := by decide +kernel
theorem dX7_draw_22 : decode cX7_draw 22 = .ok (.iload_n 1, 1) := by decide +kernel
theorem dX7_draw_23 : decode cX7_draw 23 = .ok (.ifCond .le 16, 3) := by decide +kernel
theorem dX7_draw_26 : decode cX7_draw 26 = .ok (.aload_n 0, 1) := by decide +kernel
theorem dX7_draw_27 : decode cX7_draw 27 = .ok (.getfield 71, 3) := by decide +kernel
theorem dX7_draw_30 : decode cX7_draw 30 = .ok (.ldc_w 278, 3) := by decide +kernel
theorem dX7_draw_33 : decode cX7_draw 33 = .ok (.idiv, 1) := by decide +kernel
theorem dX7_draw_34 : decode cX7_draw 34 = .ok (.iload_n 1, 1) := by decide +kernel
theorem dX7_draw_35 : decode cX7_draw 35 = .ok (.irem, 1) := by decide +kernel
theorem dX7_draw_36 : decode cX7_draw 36 = .ok (.goto 4, 3) := by decide +kernel
theorem dX7_draw_39 : decode cX7_draw 39 = .ok (.iconst 0, 1) := by decide +kernel
theorem dX7_draw_40 : decode cX7_draw 40 = .ok (.ireturn, 1) := by decide +kernel
theorem dX7_rulesGoneBy_0 : decode cX7_rulesGoneBy 0 = .ok (.aload_n 0, 1) := by decide +kernel
theorem dX7_rulesGoneBy_1 : decode cX7_rulesGoneBy 1 = .ok (.getfield 57, 3) := by decide +kernel
theorem dX7_rulesGoneBy_4 : decode cX7_rulesGoneBy 4 = .ok (.invokevirtual 247, 3) := by decide +kernel
theorem dX7_rulesGoneBy_7 : decode cX7_rulesGoneBy 7 = .ok (.aload_n 0, 1) := by decide +kernel
theorem dX7_rulesGoneBy_8 : decode cX7_rulesGoneBy 8 = .ok (.getfield 67, 3) := by decide +kernel
theorem dX7_rulesGoneBy_11 : decode cX7_rulesGoneBy 11 = .ok (.getfield 121, 3) := by decide +kernel
theorem dX7_rulesGoneBy_14 : decode cX7_rulesGoneBy 14 = .ok (.iconst (-1), 1) := by decide +kernel
theorem dX7_rulesGoneBy_15 : decode cX7_rulesGoneBy 15 = .ok (.ixor, 1) := by decide +kernel
theorem dX7_rulesGoneBy_16 : decode cX7_rulesGoneBy 16 = .ok (.iand, 1) := by decide +kernel
theorem dX7_rulesGoneBy_17 : decode cX7_rulesGoneBy 17 = .ok (.ireturn, 1) := by decide +kernel
theorem dX7_trialNow_0 : decode cX7_trialNow 0 = .ok (.new 132, 3) := by decide +kernel
theorem dX7_trialNow_3 : decode cX7_trialNow 3 = .ok (.dup, 1) := by decide +kernel
theorem dX7_trialNow_4 : decode cX7_trialNow 4 = .ok (.aload_n 0, 1) := by decide +kernel
theorem dX7_trialNow_5 : decode cX7_trialNow 5 = .ok (.getfield 57, 3) := by decide +kernel
theorem dX7_trialNow_8 : decode cX7_trialNow 8 = .ok (.aload_n 0, 1) := by decide +kernel
theorem dX7_trialNow_9 : decode cX7_trialNow 9 = .ok (.getfield 67, 3) := by decide +kernel
theorem dX7_trialNow_12 : decode cX7_trialNow 12 = .ok (.getfield 115, 3) := by decide +kernel
theorem dX7_trialNow_15 : decode cX7_trialNow 15 = .ok (.aload_n 0, 1) := by decide +kernel
theorem dX7_trialNow_16 : decode cX7_trialNow 16 = .ok (.invokevirtual 178, 3) := by decide +kernel
theorem dX7_trialNow_19 : decode cX7_trialNow 19 = .ok (.invokespecial 279, 3) := by decide +kernel
theorem dX7_trialNow_22 : decode cX7_trialNow 22 = .ok (.areturn, 1) := by decide +kernel
theorem dX7_has_0 : decode cX7_has 0 = .ok (.iload_n 0, 1) := by decide +kernel
theorem dX7_has_1 : decode cX7_has 1 = .ok (.iload_n 1, 1) := by decide +kernel
theorem dX7_has_2 : decode cX7_has 2 = .ok (.ishr, 1) := by decide +kernel
theorem dX7_has_3 : decode cX7_has 3 = .ok (.iconst 1, 1) := by decide +kernel
theorem dX7_has_4 : decode cX7_has 4 = .ok (.iand, 1) := by decide +kernel
theorem dX7_has_5 : decode cX7_has 5 = .ok (.ifCond .eq 7, 3) := by decide +kernel
theorem dX7_has_8 : decode cX7_has 8 = .ok (.iconst 1, 1) := by decide +kernel
theorem dX7_has_9 : decode cX7_has 9 = .ok (.goto 4, 3) := by decide +kernel
theorem dX7_has_12 : decode cX7_has 12 = .ok (.iconst 0, 1) := by decide +kernel
theorem dX7_has_13 : decode cX7_has 13 = .ok (.ireturn, 1) := by decide +kernel
theorem dX7_put_0 : decode cX7_put 0 = .ok (.iload_n 2, 1) := by decide +kernel
theorem dX7_put_1 : decode cX7_put 1 = .ok (.ifCond .eq 11, 3) := by decide +kernel
theorem dX7_put_4 : decode cX7_put 4 = .ok (.iload_n 0, 1) := by decide +kernel
theorem dX7_put_5 : decode cX7_put 5 = .ok (.iconst 1, 1) := by decide +kernel
theorem dX7_put_6 : decode cX7_put 6 = .ok (.iload_n 1, 1) := by decide +kernel
theorem dX7_put_7 : decode cX7_put 7 = .ok (.ishl, 1) := by decide +kernel
theorem dX7_put_8 : decode cX7_put 8 = .ok (.ior, 1) := by decide +kernel
theorem dX7_put_9 : decode cX7_put 9 = .ok (.goto 10, 3) := by decide +kernel
theorem dX7_put_12 : decode cX7_put 12 = .ok (.iload_n 0, 1) := by decide +kernel
theorem dX7_put_13 : decode cX7_put 13 = .ok (.iconst 1, 1) := by decide +kernel
theorem dX7_put_14 : decode cX7_put 14 = .ok (.iload_n 1, 1) := by decide +kernel
theorem dX7_put_15 : decode cX7_put 15 = .ok (.ishl, 1) := by decide +kernel
theorem dX7_put_16 : decode cX7_put 16 = .ok (.iconst (-1), 1) := by decide +kernel
theorem dX7_put_17 : decode cX7_put 17 = .ok (.ixor, 1) := by decide +kernel
theorem dX7_put_18 : decode cX7_put 18 = .ok (.iand, 1) := by decide +kernel
theorem dX7_put_19 : decode cX7_put 19 = .ok (.ireturn, 1) := by decide +kernel
theorem dX7_denialOf_0 : decode cX7_denialOf 0 = .ok (.iload_n 0, 1) := by decide +kernel
theorem dX7_denialOf_1 : decode cX7_denialOf 1 = .ok (.iconst 1, 1) := by decide +kernel
theorem dX7_denialOf_2 : decode cX7_denialOf 2 = .ok (.ixor, 1) := by decide +kernel
theorem dX7_denialOf_3 : decode cX7_denialOf 3 = .ok (.ireturn, 1) := by decide +kernel
theorem dX8_init_0 : decode cX8_init 0 = .ok (.aload_n 0, 1) := by decide +kernel
theorem dX8_init_1 : decode cX8_init 1 = .ok (.invokespecial 1, 3) := by decide +kernel
theorem dX8_init_4 : decode cX8_init 4 = .ok (.aload_n 0, 1) := by decide +kernel
theorem dX8_init_5 : decode cX8_init 5 = .ok (.bipush 10, 2) := by decide +kernel
theorem dX8_init_7 : decode cX8_init 7 = .ok (.newarray .int, 2) := by decide +kernel
theorem dX8_init_9 : decode cX8_init 9 = .ok (.putfield 7, 3) := by decide +kernel
theorem dX8_init_12 : decode cX8_init 12 = .ok (.aload_n 0, 1) := by decide +kernel
theorem dX8_init_13 : decode cX8_init 13 = .ok (.bipush 10, 2) := by decide +kernel
theorem dX8_init_15 : decode cX8_init 15 = .ok (.newarray .int, 2) := by decide +kernel
theorem dX8_init_17 : decode cX8_init 17 = .ok (.putfield 13, 3) := by decide +kernel
theorem dX8_init_20 : decode cX8_init 20 = .ok (.aload_n 0, 1) := by decide +kernel
theorem dX8_init_21 : decode cX8_init 21 = .ok (.bipush 10, 2) := by decide +kernel
theorem dX8_init_23 : decode cX8_init 23 = .ok (.newarray .int, 2) := by decide +kernel
theorem dX8_init_25 : decode cX8_init 25 = .ok (.putfield 16, 3) := by decide +kernel
theorem dX8_init_28 : decode cX8_init 28 = .ok (.aload_n 0, 1) := by decide +kernel
theorem dX8_init_29 : decode cX8_init 29 = .ok (.iconst 4, 1) := by decide +kernel
theorem dX8_init_30 : decode cX8_init 30 = .ok (.newarray .int, 2) := by decide +kernel
theorem dX8_init_32 : decode cX8_init 32 = .ok (.putfield 19, 3) := by decide +kernel
theorem dX8_init_35 : decode cX8_init 35 = .ok (.aload_n 0, 1) := by decide +kernel
theorem dX8_init_36 : decode cX8_init 36 = .ok (.sipush 240, 3) := by decide +kernel
theorem dX8_init_39 : decode cX8_init 39 = .ok (.newarray .int, 2) := by decide +kernel
theorem dX8_init_41 : decode cX8_init 41 = .ok (.putfield 22, 3) := by decide +kernel
theorem dX8_init_44 : decode cX8_init 44 = .ok (.aload_n 0, 1) := by decide +kernel
theorem dX8_init_45 : decode cX8_init 45 = .ok (.iconst (-1), 1) := by decide +kernel
theorem dX8_init_46 : decode cX8_init 46 = .ok (.putfield 25, 3) := by decide +kernel
theorem dX8_init_49 : decode cX8_init 49 = .ok (.aload_n 0, 1) := by decide +kernel
theorem dX8_init_50 : decode cX8_init 50 = .ok (.bipush 10, 2) := by decide +kernel
theorem dX8_init_52 : decode cX8_init 52 = .ok (.newarray .int, 2) := by decide +kernel
theorem dX8_init_54 : decode cX8_init 54 = .ok (.putfield 29, 3) := by decide +kernel
theorem dX8_init_57 : decode cX8_init 57 = .ok (.aload_n 0, 1) := by decide +kernel
theorem dX8_init_58 : decode cX8_init 58 = .ok (.bipush 10, 2) := by decide +kernel
theorem dX8_init_60 : decode cX8_init 60 = .ok (.newarray .int, 2) := by decide +kernel
theorem dX8_init_62 : decode cX8_init 62 = .ok (.putfield 32, 3) := by decide +kernel
theorem dX8_init_65 : decode cX8_init 65 = .ok (.aload_n 0, 1) := by decide +kernel
theorem dX8_init_66 : decode cX8_init 66 = .ok (.bipush 10, 2) := by decide +kernel
theorem dX8_init_68 : decode cX8_init 68 = .ok (.newarray .int, 2) := by decide +kernel
theorem dX8_init_70 : decode cX8_init 70 = .ok (.putfield 35, 3) := by decide +kernel
theorem dX8_init_73 : decode cX8_init 73 = .ok (.aload_n 0, 1) := by decide +kernel
theorem dX8_init_74 : decode cX8_init 74 = .ok (.bipush 80, 2) := by decide +kernel
theorem dX8_init_76 : decode cX8_init 76 = .ok (.newarray .int, 2) := by decide +kernel
theorem dX8_init_78 : decode cX8_init 78 = .ok (.putfield 38, 3) := by decide +kernel
theorem dX8_init_81 : decode cX8_init 81 = .ok (.aload_n 0, 1) := by decide +kernel
theorem dX8_init_82 : decode cX8_init 82 = .ok (.bipush 10, 2) := by decide +kernel
theorem dX8_init_84 : decode cX8_init 84 = .ok (.newarray .long, 2) := by decide +kernel
theorem dX8_init_86 : decode cX8_init 86 = .ok (.putfield 41, 3) := by decide +kernel
theorem dX8_init_89 : decode cX8_init 89 = .ok (.aload_n 0, 1) := by decide +kernel
theorem dX8_init_90 : decode cX8_init 90 = .ok (.bipush 6, 2) := by decide +kernel
theorem dX8_init_92 : decode cX8_init 92 = .ok (.newarray .int, 2) := by decide +kernel
theorem dX8_init_94 : decode cX8_init 94 = .ok (.putfield 45, 3) := by decide +kernel
theorem dX8_init_97 : decode cX8_init 97 = .ok (.aload_n 0, 1) := by decide +kernel
theorem dX8_init_98 : decode cX8_init 98 = .ok (.bipush 6, 2) := by decide +kernel
theorem dX8_init_100 : decode cX8_init 100 = .ok (.newarray .int, 2) := by decide +kernel
theorem dX8_init_102 : decode cX8_init 102 = .ok (.putfield 48, 3) := by decide +kernel
theorem dX8_init_105 : decode cX8_init 105 = .ok (.aload_n 0, 1) := by decide +kernel
theorem dX8_init_106 : decode cX8_init 106 = .ok (.bipush 6, 2) := by decide +kernel
theorem dX8_init_108 : decode cX8_init 108 = .ok (.newarray .boolean, 2) := by decide +kernel
theorem dX8_init_110 : decode cX8_init 110 = .ok (.putfield 51, 3) := by decide +kernel
theorem dX8_init_113 : decode cX8_init 113 = .ok (.aload_n 0, 1) := by decide +kernel
theorem dX8_init_114 : decode cX8_init 114 = .ok (.bipush 16, 2) := by decide +kernel
theorem dX8_init_116 : decode cX8_init 116 = .ok (.newarray .int, 2) := by decide +kernel
theorem dX8_init_118 : decode cX8_init 118 = .ok (.putfield 55, 3) := by decide +kernel
theorem dX8_init_121 : decode cX8_init 121 = .ok (.aload_n 0, 1) := by decide +kernel
theorem dX8_init_122 : decode cX8_init 122 = .ok (.bipush 15, 2) := by decide +kernel
theorem dX8_init_124 : decode cX8_init 124 = .ok (.newarray .int, 2) := by decide +kernel
theorem dX8_init_126 : decode cX8_init 126 = .ok (.putfield 58, 3) := by decide +kernel
theorem dX8_init_129 : decode cX8_init 129 = .ok (.aload_n 0, 1) := by decide +kernel
theorem dX8_init_130 : decode cX8_init 130 = .ok (.bipush 15, 2) := by decide +kernel
theorem dX8_init_132 : decode cX8_init 132 = .ok (.newarray .int, 2) := by decide +kernel
theorem dX8_init_134 : decode cX8_init 134 = .ok (.putfield 61, 3) := by decide +kernel
theorem dX8_init_137 : decode cX8_init 137 = .ok (.aload_n 0, 1) := by decide +kernel
theorem dX8_init_138 : decode cX8_init 138 = .ok (.bipush 10, 2) := by decide +kernel
theorem dX8_init_140 : decode cX8_init 140 = .ok (.newarray .int, 2) := by decide +kernel
theorem dX8_init_142 : decode cX8_init 142 = .ok (.putfield 64, 3) := by decide +kernel
theorem dX8_init_145 : decode cX8_init 145 = .ok (.aload_n 0, 1) := by decide +kernel
theorem dX8_init_146 : decode cX8_init 146 = .ok (.iconst 2, 1) := by decide +kernel
theorem dX8_init_147 : decode cX8_init 147 = .ok (.newarray .boolean, 2) := by decide +kernel
theorem dX8_init_149 : decode cX8_init 149 = .ok (.putfield 67, 3) := by decide +kernel
theorem dX8_init_152 : decode cX8_init 152 = .ok (.aload_n 0, 1) := by decide +kernel
theorem dX8_init_153 : decode cX8_init 153 = .ok (.iconst 0, 1) := by decide +kernel
theorem dX8_init_154 : decode cX8_init 154 = .ok (.putfield 70, 3) := by decide +kernel
theorem dX8_init_157 : decode cX8_init 157 = .ok (.return_, 1) := by decide +kernel
theorem dX8_in_0 : decode cX8_in 0 = .ok (.lload_n 0, 1) := by decide +kernel
theorem dX8_in_1 : decode cX8_in 1 = .ok (.lload_n 2, 1) := by decide +kernel
theorem dX8_in_2 : decode cX8_in 2 = .ok (.lcmp, 1) := by decide +kernel
theorem dX8_in_3 : decode cX8_in 3 = .ok (.ifCond .lt 14, 3) := by decide +kernel
theorem dX8_in_6 : decode cX8_in 6 = .ok (.lload_n 0, 1) := by decide +kernel
theorem dX8_in_7 : decode cX8_in 7 = .ok (.lload 4, 2) := by decide +kernel
theorem dX8_in_9 : decode cX8_in 9 = .ok (.lcmp, 1) := by decide +kernel
theorem dX8_in_10 : decode cX8_in 10 = .ok (.ifCond .gt 7, 3) := by decide +kernel
theorem dX8_in_13 : decode cX8_in 13 = .ok (.iconst 1, 1) := by decide +kernel
theorem dX8_in_14 : decode cX8_in 14 = .ok (.goto 4, 3) := by decide +kernel
theorem dX8_in_17 : decode cX8_in 17 = .ok (.iconst 0, 1) := by decide +kernel
theorem dX8_in_18 : decode cX8_in 18 = .ok (.ireturn, 1) := by decide +kernel
theorem dX8_has_0 : decode cX8_has 0 = .ok (.iload_n 0, 1) := by decide +kernel
theorem dX8_has_1 : decode cX8_has 1 = .ok (.iload_n 1, 1) := by decide +kernel
theorem dX8_has_2 : decode cX8_has 2 = .ok (.ishr, 1) := by decide +kernel
theorem dX8_has_3 : decode cX8_has 3 = .ok (.iconst 1, 1) := by decide +kernel
theorem dX8_has_4 : decode cX8_has 4 = .ok (.iand, 1) := by decide +kernel
theorem dX8_has_5 : decode cX8_has 5 = .ok (.iconst 1, 1) := by decide +kernel
theorem dX8_has_6 : decode cX8_has 6 = .ok (.if_icmp .ne 7, 3) := by decide +kernel
theorem dX8_has_9 : decode cX8_has 9 = .ok (.iconst 1, 1) := by decide +kernel
theorem dX8_has_10 : decode cX8_has 10 = .ok (.goto 4, 3) := by decide +kernel
theorem dX8_has_13 : decode cX8_has 13 = .ok (.iconst 0, 1) := by decide +kernel
theorem dX8_has_14 : decode cX8_has 14 = .ok (.ireturn, 1) := by decide +kernel
theorem dX8_bits_0 : decode cX8_bits 0 = .ok (.iconst 0, 1) := by decide +kernel
theorem dX8_bits_1 : decode cX8_bits 1 = .ok (.istore_n 1, 1) := by decide +kernel
theorem dX8_bits_2 : decode cX8_bits 2 = .ok (.iconst 0, 1) := by decide +kernel
theorem dX8_bits_3 : decode cX8_bits 3 = .ok (.istore_n 2, 1) := by decide +kernel
theorem dX8_bits_4 : decode cX8_bits 4 = .ok (.iload_n 2, 1) := by decide +kernel
theorem dX8_bits_5 : decode cX8_bits 5 = .ok (.bipush 16, 2) := by decide +kernel
theorem dX8_bits_7 : decode cX8_bits 7 = .ok (.if_icmp .ge 17, 3) := by decide +kernel
theorem dX8_bits_10 : decode cX8_bits 10 = .ok (.iload_n 1, 1) := by decide +kernel
theorem dX8_bits_11 : decode cX8_bits 11 = .ok (.iload_n 0, 1) := by decide +kernel
theorem dX8_bits_12 : decode cX8_bits 12 = .ok (.iload_n 2, 1) := by decide +kernel
theorem dX8_bits_13 : decode cX8_bits 13 = .ok (.ishr, 1) := by decide +kernel
theorem dX8_bits_14 : decode cX8_bits 14 = .ok (.iconst 1, 1) := by decide +kernel
theorem dX8_bits_15 : decode cX8_bits 15 = .ok (.iand, 1) := by decide +kernel
theorem dX8_bits_16 : decode cX8_bits 16 = .ok (.iadd, 1) := by decide +kernel
theorem dX8_bits_17 : decode cX8_bits 17 = .ok (.istore_n 1, 1) := by decide +kernel
theorem dX8_bits_18 : decode cX8_bits 18 = .ok (.iinc 2 1, 3) := by decide +kernel
theorem dX8_bits_21 : decode cX8_bits 21 = .ok (.goto (-17), 3) := by decide +kernel
theorem dX8_bits_24 : decode cX8_bits 24 = .ok (.iload_n 1, 1) := by decide +kernel
theorem dX8_bits_25 : decode cX8_bits 25 = .ok (.ireturn, 1) := by decide +kernel
theorem dX8_isSaying_0 : decode cX8_isSaying 0 = .ok (.iload_n 1, 1) := by decide +kernel
theorem dX8_isSaying_1 : decode cX8_isSaying 1 = .ok (.i2l, 1) := by decide +kernel
theorem dX8_isSaying_2 : decode cX8_isSaying 2 = .ok (.lconst 0, 1) := by decide +kernel
theorem dX8_isSaying_3 : decode cX8_isSaying 3 = .ok (.iconst 2, 1) := by decide +kernel
theorem dX8_isSaying_4 : decode cX8_isSaying 4 = .ok (.aload_n 0, 1) := by decide +kernel
theorem dX8_isSaying_5 : decode cX8_isSaying 5 = .ok (.getfield 70, 3) := by decide +kernel
theorem dX8_isSaying_8 : decode cX8_isSaying 8 = .ok (.imul, 1) := by decide +kernel
theorem dX8_isSaying_9 : decode cX8_isSaying 9 = .ok (.iconst 1, 1) := by decide +kernel
theorem dX8_isSaying_10 : decode cX8_isSaying 10 = .ok (.isub, 1) := by decide +kernel
theorem dX8_isSaying_11 : decode cX8_isSaying 11 = .ok (.i2l, 1) := by decide +kernel
theorem dX8_isSaying_12 : decode cX8_isSaying 12 = .ok (.invokestatic 73, 3) := by decide +kernel
theorem dX8_isSaying_15 : decode cX8_isSaying 15 = .ok (.ireturn, 1) := by decide +kernel
theorem dX8_isSet_0 : decode cX8_isSet 0 = .ok (.iload_n 1, 1) := by decide +kernel
theorem dX8_isSet_1 : decode cX8_isSet 1 = .ok (.i2l, 1) := by decide +kernel
theorem dX8_isSet_2 : decode cX8_isSet 2 = .ok (.lconst 0, 1) := by decide +kernel
theorem dX8_isSet_3 : decode cX8_isSet 3 = .ok (.iconst 1, 1) := by decide +kernel
theorem dX8_isSet_4 : decode cX8_isSet 4 = .ok (.iconst 2, 1) := by decide +kernel
theorem dX8_isSet_5 : decode cX8_isSet 5 = .ok (.aload_n 0, 1) := by decide +kernel
theorem dX8_isSet_6 : decode cX8_isSet 6 = .ok (.getfield 70, 3) := by decide +kernel
theorem dX8_isSet_9 : decode cX8_isSet 9 = .ok (.imul, 1) := by decide +kernel
theorem dX8_isSet_10 : decode cX8_isSet 10 = .ok (.ishl, 1) := by decide +kernel
theorem dX8_isSet_11 : decode cX8_isSet 11 = .ok (.iconst 1, 1) := by decide +kernel
theorem dX8_isSet_12 : decode cX8_isSet 12 = .ok (.isub, 1) := by decide +kernel
theorem dX8_isSet_13 : decode cX8_isSet 13 = .ok (.i2l, 1) := by decide +kernel
theorem dX8_isSet_14 : decode cX8_isSet 14 = .ok (.invokestatic 73, 3) := by decide +kernel
theorem dX8_isSet_17 : decode cX8_isSet 17 = .ok (.ireturn, 1) := by decide +kernel
theorem dX8_isRule_0 : decode cX8_isRule 0 = .ok (.iload_n 1, 1) := by decide +kernel
theorem dX8_isRule_1 : decode cX8_isRule 1 = .ok (.i2l, 1) := by decide +kernel
theorem dX8_isRule_2 : decode cX8_isRule 2 = .ok (.lconst 0, 1) := by decide +kernel
theorem dX8_isRule_3 : decode cX8_isRule 3 = .ok (.aload_n 0, 1) := by decide +kernel
theorem dX8_isRule_4 : decode cX8_isRule 4 = .ok (.getfield 77, 3) := by decide +kernel
theorem dX8_isRule_7 : decode cX8_isRule 7 = .ok (.iconst 1, 1) := by decide +kernel
theorem dX8_isRule_8 : decode cX8_isRule 8 = .ok (.isub, 1) := by decide +kernel
theorem dX8_isRule_9 : decode cX8_isRule 9 = .ok (.i2l, 1) := by decide +kernel
theorem dX8_isRule_10 : decode cX8_isRule 10 = .ok (.invokestatic 73, 3) := by decide +kernel
theorem dX8_isRule_13 : decode cX8_isRule 13 = .ok (.ireturn, 1) := by decide +kernel
theorem dX8_denial_0 : decode cX8_denial 0 = .ok (.iload_n 0, 1) := by decide +kernel
theorem dX8_denial_1 : decode cX8_denial 1 = .ok (.iconst 2, 1) := by decide +kernel
theorem dX8_denial_2 : decode cX8_denial 2 = .ok (.irem, 1) := by decide +kernel
theorem dX8_denial_3 : decode cX8_denial 3 = .ok (.ifCond .ne 9, 3) := by decide +kernel
theorem dX8_denial_6 : decode cX8_denial 6 = .ok (.iload_n 0, 1) := by decide +kernel
theorem dX8_denial_7 : decode cX8_denial 7 = .ok (.iconst 1, 1) := by decide +kernel
theorem dX8_denial_8 : decode cX8_denial 8 = .ok (.iadd, 1) := by decide +kernel
theorem dX8_denial_9 : decode cX8_denial 9 = .ok (.goto 6, 3) := by decide +kernel
theorem dX8_denial_12 : decode cX8_denial 12 = .ok (.iload_n 0, 1) := by decide +kernel
theorem dX8_denial_13 : decode cX8_denial 13 = .ok (.iconst 1, 1) := by decide +kernel
theorem dX8_denial_14 : decode cX8_denial 14 = .ok (.isub, 1) := by decide +kernel
theorem dX8_denial_15 : decode cX8_denial 15 = .ok (.ireturn, 1) := by decide +kernel
theorem dX8_feed_0 : decode cX8_feed 0 = .ok (.iload_n 1, 1) := by decide +kernel
theorem dX8_feed_1 : decode cX8_feed 1 = .ok (.i2l, 1) := by decide +kernel
theorem dX8_feed_2 : decode cX8_feed 2 = .ok (.lconst 0, 1) := by decide +kernel
theorem dX8_feed_3 : decode cX8_feed 3 = .ok (.ldc2_w 80, 3) := by decide +kernel
theorem dX8_feed_6 : decode cX8_feed 6 = .ok (.invokestatic 73, 3) := by decide +kernel
theorem dX8_feed_9 : decode cX8_feed 9 = .ok (.ifCond .ne 6, 3) := by decide +kernel
theorem dX8_feed_12 : decode cX8_feed 12 = .ok (.ldc 82, 2) := by decide +kernel
theorem dX8_feed_14 : decode cX8_feed 14 = .ok (.ireturn, 1) := by decide +kernel
theorem dX8_feed_15 : decode cX8_feed 15 = .ok (.aload_n 0, 1) := by decide +kernel
theorem dX8_feed_16 : decode cX8_feed 16 = .ok (.getfield 83, 3) := by decide +kernel
theorem dX8_feed_19 : decode cX8_feed 19 = .ok (.sipush 240, 3) := by decide +kernel
theorem dX8_feed_22 : decode cX8_feed 22 = .ok (.if_icmp .ne 6, 3) := by decide +kernel
theorem dX8_feed_25 : decode cX8_feed 25 = .ok (.ldc 86, 2) := by decide +kernel
theorem dX8_feed_27 : decode cX8_feed 27 = .ok (.ireturn, 1) := by decide +kernel
theorem dX8_feed_28 : decode cX8_feed 28 = .ok (.aload_n 0, 1) := by decide +kernel
theorem dX8_feed_29 : decode cX8_feed 29 = .ok (.getfield 22, 3) := by decide +kernel
theorem dX8_feed_32 : decode cX8_feed 32 = .ok (.aload_n 0, 1) := by decide +kernel
theorem dX8_feed_33 : decode cX8_feed 33 = .ok (.getfield 83, 3) := by decide +kernel
theorem dX8_feed_36 : decode cX8_feed 36 = .ok (.iload_n 1, 1) := by decide +kernel
theorem dX8_feed_37 : decode cX8_feed 37 = .ok (.iastore, 1) := by decide +kernel
theorem dX8_feed_38 : decode cX8_feed 38 = .ok (.aload_n 0, 1) := by decide +kernel
theorem dX8_feed_39 : decode cX8_feed 39 = .ok (.dup, 1) := by decide +kernel
theorem dX8_feed_40 : decode cX8_feed 40 = .ok (.getfield 83, 3) := by decide +kernel
theorem dX8_feed_43 : decode cX8_feed 43 = .ok (.iconst 1, 1) := by decide +kernel
theorem dX8_feed_44 : decode cX8_feed 44 = .ok (.iadd, 1) := by decide +kernel
theorem dX8_feed_45 : decode cX8_feed 45 = .ok (.putfield 83, 3) := by decide +kernel
theorem dX8_feed_48 : decode cX8_feed 48 = .ok (.aload_n 0, 1) := by decide +kernel
theorem dX8_feed_49 : decode cX8_feed 49 = .ok (.getfield 83, 3) := by decide +kernel
theorem dX8_feed_52 : decode cX8_feed 52 = .ok (.ireturn, 1) := by decide +kernel
theorem dX8_here_0 : decode cX8_here 0 = .ok (.aload_n 0, 1) := by decide +kernel
theorem dX8_here_1 : decode cX8_here 1 = .ok (.getfield 87, 3) := by decide +kernel
theorem dX8_here_4 : decode cX8_here 4 = .ok (.aload_n 0, 1) := by decide +kernel
theorem dX8_here_5 : decode cX8_here 5 = .ok (.getfield 83, 3) := by decide +kernel
theorem dX8_here_8 : decode cX8_here 8 = .ok (.if_icmp .ge 30, 3) := by decide +kernel
theorem dX8_here_11 : decode cX8_here 11 = .ok (.aload_n 0, 1) := by decide +kernel
theorem dX8_here_12 : decode cX8_here 12 = .ok (.getfield 22, 3) := by decide +kernel
theorem dX8_here_15 : decode cX8_here 15 = .ok (.aload_n 0, 1) := by decide +kernel
theorem dX8_here_16 : decode cX8_here 16 = .ok (.getfield 87, 3) := by decide +kernel
theorem dX8_here_19 : decode cX8_here 19 = .ok (.iaload, 1) := by decide +kernel
theorem dX8_here_20 : decode cX8_here 20 = .ok (.bipush 32, 2) := by decide +kernel
theorem dX8_here_22 : decode cX8_here 22 = .ok (.if_icmp .ne 16, 3) := by decide +kernel
theorem dX8_here_25 : decode cX8_here 25 = .ok (.aload_n 0, 1) := by decide +kernel
theorem dX8_here_26 : decode cX8_here 26 = .ok (.dup, 1) := by decide +kernel
theorem dX8_here_27 : decode cX8_here 27 = .ok (.getfield 87, 3) := by decide +kernel
theorem dX8_here_30 : decode cX8_here 30 = .ok (.iconst 1, 1) := by decide +kernel
theorem dX8_here_31 : decode cX8_here 31 = .ok (.iadd, 1) := by decide +kernel
theorem dX8_here_32 : decode cX8_here 32 = .ok (.putfield 87, 3) := by decide +kernel
theorem dX8_here_35 : decode cX8_here 35 = .ok (.goto (-35), 3) := by decide +kernel
theorem dX8_here_38 : decode cX8_here 38 = .ok (.aload_n 0, 1) := by decide +kernel
theorem dX8_here_39 : decode cX8_here 39 = .ok (.getfield 87, 3) := by decide +kernel
theorem dX8_here_42 : decode cX8_here 42 = .ok (.aload_n 0, 1) := by decide +kernel
theorem dX8_here_43 : decode cX8_here 43 = .ok (.getfield 83, 3) := by decide +kernel
theorem dX8_here_46 : decode cX8_here 46 = .ok (.if_icmp .ge 15, 3) := by decide +kernel
theorem dX8_here_49 : decode cX8_here 49 = .ok (.aload_n 0, 1) := by decide +kernel
theorem dX8_here_50 : decode cX8_here 50 = .ok (.getfield 22, 3) := by decide +kernel
theorem dX8_here_53 : decode cX8_here 53 = .ok (.aload_n 0, 1) := by decide +kernel
theorem dX8_here_54 : decode cX8_here 54 = .ok (.getfield 87, 3) := by decide +kernel
theorem dX8_here_57 : decode cX8_here 57 = .ok (.iaload, 1) := by decide +kernel
theorem dX8_here_58 : decode cX8_here 58 = .ok (.goto 4, 3) := by decide +kernel
theorem dX8_here_61 : decode cX8_here 61 = .ok (.iconst (-1), 1) := by decide +kernel
theorem dX8_here_62 : decode cX8_here 62 = .ok (.ireturn, 1) := by decide +kernel
theorem dX8_fails_0 : decode cX8_fails 0 = .ok (.aload_n 0, 1) := by decide +kernel
theorem dX8_fails_1 : decode cX8_fails 1 = .ok (.iload_n 2, 1) := by decide +kernel
theorem dX8_fails_2 : decode cX8_fails 2 = .ok (.putfield 25, 3) := by decide +kernel
theorem dX8_fails_5 : decode cX8_fails 5 = .ok (.iload_n 1, 1) := by decide +kernel
theorem dX8_fails_6 : decode cX8_fails 6 = .ok (.ireturn, 1) := by decide +kernel
theorem dX8_takeNumber_0 : decode cX8_takeNumber 0 = .ok (.aload_n 0, 1) := by decide +kernel
theorem dX8_takeNumber_1 : decode cX8_takeNumber 1 = .ok (.invokevirtual 90, 3) := by decide +kernel
theorem dX8_takeNumber_4 : decode cX8_takeNumber 4 = .ok (.istore_n 3, 1) := by decide +kernel
theorem dX8_takeNumber_5 : decode cX8_takeNumber 5 = .ok (.iload_n 3, 1) := by decide +kernel
theorem dX8_takeNumber_6 : decode cX8_takeNumber 6 = .ok (.i2l, 1) := by decide +kernel
theorem dX8_takeNumber_7 : decode cX8_takeNumber 7 = .ok (.ldc2_w 94, 3) := by decide +kernel
theorem dX8_takeNumber_10 : decode cX8_takeNumber 10 = .ok (.ldc2_w 96, 3) := by decide +kernel
theorem dX8_takeNumber_13 : decode cX8_takeNumber 13 = .ok (.invokestatic 73, 3) := by decide +kernel
theorem dX8_takeNumber_16 : decode cX8_takeNumber 16 = .ok (.ifCond .ne 13, 3) := by decide +kernel
theorem dX8_takeNumber_19 : decode cX8_takeNumber 19 = .ok (.aload_n 0, 1) := by decide +kernel
theorem dX8_takeNumber_20 : decode cX8_takeNumber 20 = .ok (.iconst 1, 1) := by decide +kernel
theorem dX8_takeNumber_21 : decode cX8_takeNumber 21 = .ok (.aload_n 0, 1) := by decide +kernel
theorem dX8_takeNumber_22 : decode cX8_takeNumber 22 = .ok (.getfield 87, 3) := by decide +kernel
theorem dX8_takeNumber_25 : decode cX8_takeNumber 25 = .ok (.invokevirtual 98, 3) := by decide +kernel
theorem dX8_takeNumber_28 : decode cX8_takeNumber 28 = .ok (.ireturn, 1) := by decide +kernel
theorem dX8_takeNumber_29 : decode cX8_takeNumber 29 = .ok (.aload_n 0, 1) := by decide +kernel
theorem dX8_takeNumber_30 : decode cX8_takeNumber 30 = .ok (.aload_n 0, 1) := by decide +kernel
theorem dX8_takeNumber_31 : decode cX8_takeNumber 31 = .ok (.getfield 87, 3) := by decide +kernel
theorem dX8_takeNumber_34 : decode cX8_takeNumber 34 = .ok (.putfield 102, 3) := by decide +kernel
theorem dX8_takeNumber_37 : decode cX8_takeNumber 37 = .ok (.aload_n 0, 1) := by decide +kernel
theorem dX8_takeNumber_38 : decode cX8_takeNumber 38 = .ok (.iconst 0, 1) := by decide +kernel
theorem dX8_takeNumber_39 : decode cX8_takeNumber 39 = .ok (.putfield 105, 3) := by decide +kernel
theorem dX8_takeNumber_42 : decode cX8_takeNumber 42 = .ok (.aload_n 0, 1) := by decide +kernel
theorem dX8_takeNumber_43 : decode cX8_takeNumber 43 = .ok (.getfield 87, 3) := by decide +kernel
theorem dX8_takeNumber_46 : decode cX8_takeNumber 46 = .ok (.aload_n 0, 1) := by decide +kernel
theorem dX8_takeNumber_47 : decode cX8_takeNumber 47 = .ok (.getfield 83, 3) := by decide +kernel
theorem dX8_takeNumber_50 : decode cX8_takeNumber 50 = .ok (.if_icmp .ge 79, 3) := by decide +kernel
theorem dX8_takeNumber_53 : decode cX8_takeNumber 53 = .ok (.aload_n 0, 1) := by decide +kernel
theorem dX8_takeNumber_54 : decode cX8_takeNumber 54 = .ok (.getfield 22, 3) := by decide +kernel
theorem dX8_takeNumber_57 : decode cX8_takeNumber 57 = .ok (.aload_n 0, 1) := by decide +kernel
theorem dX8_takeNumber_58 : decode cX8_takeNumber 58 = .ok (.getfield 87, 3) := by decide +kernel
theorem dX8_takeNumber_61 : decode cX8_takeNumber 61 = .ok (.iaload, 1) := by decide +kernel
theorem dX8_takeNumber_62 : decode cX8_takeNumber 62 = .ok (.i2l, 1) := by decide +kernel
theorem dX8_takeNumber_63 : decode cX8_takeNumber 63 = .ok (.ldc2_w 94, 3) := by decide +kernel
theorem dX8_takeNumber_66 : decode cX8_takeNumber 66 = .ok (.ldc2_w 96, 3) := by decide +kernel
theorem dX8_takeNumber_69 : decode cX8_takeNumber 69 = .ok (.invokestatic 73, 3) := by decide +kernel
theorem dX8_takeNumber_72 : decode cX8_takeNumber 72 = .ok (.ifCond .eq 57, 3) := by decide +kernel
theorem dX8_takeNumber_75 : decode cX8_takeNumber 75 = .ok (.aload_n 0, 1) := by decide +kernel
theorem dX8_takeNumber_76 : decode cX8_takeNumber 76 = .ok (.aload_n 0, 1) := by decide +kernel
theorem dX8_takeNumber_77 : decode cX8_takeNumber 77 = .ok (.getfield 105, 3) := by decide +kernel
theorem dX8_takeNumber_80 : decode cX8_takeNumber 80 = .ok (.sipush 10000, 3) := by decide +kernel
theorem dX8_takeNumber_83 : decode cX8_takeNumber 83 = .ok (.if_icmp .le 10, 3) := by decide +kernel
theorem dX8_takeNumber_86 : decode cX8_takeNumber 86 = .ok (.aload_n 0, 1) := by decide +kernel
theorem dX8_takeNumber_87 : decode cX8_takeNumber 87 = .ok (.getfield 105, 3) := by decide +kernel
theorem dX8_takeNumber_90 : decode cX8_takeNumber 90 = .ok (.goto 23, 3) := by decide +kernel
theorem dX8_takeNumber_93 : decode cX8_takeNumber 93 = .ok (.bipush 10, 2) := by decide +kernel
theorem dX8_takeNumber_95 : decode cX8_takeNumber 95 = .ok (.aload_n 0, 1) := by decide +kernel
theorem dX8_takeNumber_96 : decode cX8_takeNumber 96 = .ok (.getfield 105, 3) := by decide +kernel
theorem dX8_takeNumber_99 : decode cX8_takeNumber 99 = .ok (.imul, 1) := by decide +kernel
theorem dX8_takeNumber_100 : decode cX8_takeNumber 100 = .ok (.aload_n 0, 1) := by decide +kernel
theorem dX8_takeNumber_101 : decode cX8_takeNumber 101 = .ok (.getfield 22, 3) := by decide +kernel
theorem dX8_takeNumber_104 : decode cX8_takeNumber 104 = .ok (.aload_n 0, 1) := by decide +kernel
theorem dX8_takeNumber_105 : decode cX8_takeNumber 105 = .ok (.getfield 87, 3) := by decide +kernel
theorem dX8_takeNumber_108 : decode cX8_takeNumber 108 = .ok (.iaload, 1) := by decide +kernel
theorem dX8_takeNumber_109 : decode cX8_takeNumber 109 = .ok (.iadd, 1) := by decide +kernel
theorem dX8_takeNumber_110 : decode cX8_takeNumber 110 = .ok (.bipush 48, 2) := by decide +kernel
theorem dX8_takeNumber_112 : decode cX8_takeNumber 112 = .ok (.isub, 1) := by decide +kernel
theorem dX8_takeNumber_113 : decode cX8_takeNumber 113 = .ok (.putfield 105, 3) := by decide +kernel
theorem dX8_takeNumber_116 : decode cX8_takeNumber 116 = .ok (.aload_n 0, 1) := by decide +kernel
theorem dX8_takeNumber_117 : decode cX8_takeNumber 117 = .ok (.dup, 1) := by decide +kernel
theorem dX8_takeNumber_118 : decode cX8_takeNumber 118 = .ok (.getfield 87, 3) := by decide +kernel
theorem dX8_takeNumber_121 : decode cX8_takeNumber 121 = .ok (.iconst 1, 1) := by decide +kernel
theorem dX8_takeNumber_122 : decode cX8_takeNumber 122 = .ok (.iadd, 1) := by decide +kernel
theorem dX8_takeNumber_123 : decode cX8_takeNumber 123 = .ok (.putfield 87, 3) := by decide +kernel
theorem dX8_takeNumber_126 : decode cX8_takeNumber 126 = .ok (.goto (-84), 3) := by decide +kernel
theorem dX8_takeNumber_129 : decode cX8_takeNumber 129 = .ok (.aload_n 0, 1) := by decide +kernel
theorem dX8_takeNumber_130 : decode cX8_takeNumber 130 = .ok (.getfield 87, 3) := by decide +kernel
theorem dX8_takeNumber_133 : decode cX8_takeNumber 133 = .ok (.aload_n 0, 1) := by decide +kernel
theorem dX8_takeNumber_134 : decode cX8_takeNumber 134 = .ok (.getfield 102, 3) := by decide +kernel
theorem dX8_takeNumber_137 : decode cX8_takeNumber 137 = .ok (.isub, 1) := by decide +kernel
theorem dX8_takeNumber_138 : decode cX8_takeNumber 138 = .ok (.iconst 3, 1) := by decide +kernel
theorem dX8_takeNumber_139 : decode cX8_takeNumber 139 = .ok (.if_icmp .gt 18, 3) := by decide +kernel
theorem dX8_takeNumber_142 : decode cX8_takeNumber 142 = .ok (.aload_n 0, 1) := by decide +kernel
theorem dX8_takeNumber_143 : decode cX8_takeNumber 143 = .ok (.getfield 105, 3) := by decide +kernel
theorem dX8_takeNumber_146 : decode cX8_takeNumber 146 = .ok (.i2l, 1) := by decide +kernel
theorem dX8_takeNumber_147 : decode cX8_takeNumber 147 = .ok (.iload_n 1, 1) := by decide +kernel
theorem dX8_takeNumber_148 : decode cX8_takeNumber 148 = .ok (.i2l, 1) := by decide +kernel
theorem dX8_takeNumber_149 : decode cX8_takeNumber 149 = .ok (.iload_n 2, 1) := by decide +kernel
theorem dX8_takeNumber_150 : decode cX8_takeNumber 150 = .ok (.i2l, 1) := by decide +kernel
theorem dX8_takeNumber_151 : decode cX8_takeNumber 151 = .ok (.invokestatic 73, 3) := by decide +kernel
theorem dX8_takeNumber_154 : decode cX8_takeNumber 154 = .ok (.ifCond .ne 15, 3) := by decide +kernel
theorem dX8_takeNumber_157 : decode cX8_takeNumber 157 = .ok (.aload_n 0, 1) := by decide +kernel
theorem dX8_takeNumber_158 : decode cX8_takeNumber 158 = .ok (.iconst 2, 1) := by decide +kernel
theorem dX8_takeNumber_159 : decode cX8_takeNumber 159 = .ok (.aload_n 0, 1) := by decide +kernel
theorem dX8_takeNumber_160 : decode cX8_takeNumber 160 = .ok (.getfield 102, 3) := by decide +kernel
theorem dX8_takeNumber_163 : decode cX8_takeNumber 163 = .ok (.invokevirtual 98, 3) := by decide +kernel
theorem dX8_takeNumber_166 : decode cX8_takeNumber 166 = .ok (.goto 4, 3) := by decide +kernel
theorem dX8_takeNumber_169 : decode cX8_takeNumber 169 = .ok (.iconst 0, 1) := by decide +kernel
theorem dX8_takeNumber_170 : decode cX8_takeNumber 170 = .ok (.ireturn, 1) := by decide +kernel
theorem dX8_takeThings_0 : decode cX8_takeThings 0 = .ok (.aload_n 0, 1) := by decide +kernel
theorem dX8_takeThings_1 : decode cX8_takeThings 1 = .ok (.iconst 1, 1) := by decide +kernel
theorem dX8_takeThings_2 : decode cX8_takeThings 2 = .ok (.bipush 8, 2) := by decide +kernel
theorem dX8_takeThings_4 : decode cX8_takeThings 4 = .ok (.invokevirtual 108, 3) := by decide +kernel
theorem dX8_takeThings_7 : decode cX8_takeThings 7 = .ok (.istore_n 1, 1) := by decide +kernel
theorem dX8_takeThings_8 : decode cX8_takeThings 8 = .ok (.aload_n 0, 1) := by decide +kernel
theorem dX8_takeThings_9 : decode cX8_takeThings 9 = .ok (.aload_n 0, 1) := by decide +kernel
theorem dX8_takeThings_10 : decode cX8_takeThings 10 = .ok (.getfield 105, 3) := by decide +kernel
theorem dX8_takeThings_13 : decode cX8_takeThings 13 = .ok (.putfield 111, 3) := by decide +kernel
theorem dX8_takeThings_16 : decode cX8_takeThings 16 = .ok (.iload_n 1, 1) := by decide +kernel
theorem dX8_takeThings_17 : decode cX8_takeThings 17 = .ok (.ireturn, 1) := by decide +kernel
theorem dX8_takeSaying_0 : decode cX8_takeSaying 0 = .ok (.aload_n 0, 1) := by decide +kernel
theorem dX8_takeSaying_1 : decode cX8_takeSaying 1 = .ok (.iconst 0, 1) := by decide +kernel
theorem dX8_takeSaying_2 : decode cX8_takeSaying 2 = .ok (.iconst 2, 1) := by decide +kernel
theorem dX8_takeSaying_3 : decode cX8_takeSaying 3 = .ok (.aload_n 0, 1) := by decide +kernel
theorem dX8_takeSaying_4 : decode cX8_takeSaying 4 = .ok (.getfield 111, 3) := by decide +kernel
theorem dX8_takeSaying_7 : decode cX8_takeSaying 7 = .ok (.imul, 1) := by decide +kernel
theorem dX8_takeSaying_8 : decode cX8_takeSaying 8 = .ok (.iconst 1, 1) := by decide +kernel
theorem dX8_takeSaying_9 : decode cX8_takeSaying 9 = .ok (.isub, 1) := by decide +kernel
theorem dX8_takeSaying_10 : decode cX8_takeSaying 10 = .ok (.invokevirtual 108, 3) := by decide +kernel
theorem dX8_takeSaying_13 : decode cX8_takeSaying 13 = .ok (.istore_n 2, 1) := by decide +kernel
theorem dX8_takeSaying_14 : decode cX8_takeSaying 14 = .ok (.iload_n 2, 1) := by decide +kernel
theorem dX8_takeSaying_15 : decode cX8_takeSaying 15 = .ok (.ifCond .ne 24, 3) := by decide +kernel
theorem dX8_takeSaying_18 : decode cX8_takeSaying 18 = .ok (.iload_n 1, 1) := by decide +kernel
theorem dX8_takeSaying_19 : decode cX8_takeSaying 19 = .ok (.aload_n 0, 1) := by decide +kernel
theorem dX8_takeSaying_20 : decode cX8_takeSaying 20 = .ok (.getfield 105, 3) := by decide +kernel
theorem dX8_takeSaying_23 : decode cX8_takeSaying 23 = .ok (.invokestatic 114, 3) := by decide +kernel
theorem dX8_takeSaying_26 : decode cX8_takeSaying 26 = .ok (.ifCond .eq 13, 3) := by decide +kernel
theorem dX8_takeSaying_29 : decode cX8_takeSaying 29 = .ok (.aload_n 0, 1) := by decide +kernel
theorem dX8_takeSaying_30 : decode cX8_takeSaying 30 = .ok (.iconst 4, 1) := by decide +kernel
theorem dX8_takeSaying_31 : decode cX8_takeSaying 31 = .ok (.aload_n 0, 1) := by decide +kernel
theorem dX8_takeSaying_32 : decode cX8_takeSaying 32 = .ok (.getfield 102, 3) := by decide +kernel
theorem dX8_takeSaying_35 : decode cX8_takeSaying 35 = .ok (.invokevirtual 98, 3) := by decide +kernel
theorem dX8_takeSaying_38 : decode cX8_takeSaying 38 = .ok (.ireturn, 1) := by decide +kernel
theorem dX8_takeSaying_39 : decode cX8_takeSaying 39 = .ok (.iload_n 2, 1) := by decide +kernel
theorem dX8_takeSaying_40 : decode cX8_takeSaying 40 = .ok (.ireturn, 1) := by decide +kernel
theorem dX8_takeRule_0 : decode cX8_takeRule 0 = .ok (.aload_n 0, 1) := by decide +kernel
theorem dX8_takeRule_1 : decode cX8_takeRule 1 = .ok (.getfield 118, 3) := by decide +kernel
theorem dX8_takeRule_4 : decode cX8_takeRule 4 = .ok (.istore_n 1, 1) := by decide +kernel
theorem dX8_takeRule_5 : decode cX8_takeRule 5 = .ok (.aload_n 0, 1) := by decide +kernel
theorem dX8_takeRule_6 : decode cX8_takeRule 6 = .ok (.dup, 1) := by decide +kernel
theorem dX8_takeRule_7 : decode cX8_takeRule 7 = .ok (.getfield 118, 3) := by decide +kernel
theorem dX8_takeRule_10 : decode cX8_takeRule 10 = .ok (.iconst 1, 1) := by decide +kernel
theorem dX8_takeRule_11 : decode cX8_takeRule 11 = .ok (.iadd, 1) := by decide +kernel
theorem dX8_takeRule_12 : decode cX8_takeRule 12 = .ok (.putfield 118, 3) := by decide +kernel
theorem dX8_takeRule_15 : decode cX8_takeRule 15 = .ok (.aload_n 0, 1) := by decide +kernel
theorem dX8_takeRule_16 : decode cX8_takeRule 16 = .ok (.iconst 0, 1) := by decide +kernel
theorem dX8_takeRule_17 : decode cX8_takeRule 17 = .ok (.bipush 99, 2) := by decide +kernel
theorem dX8_takeRule_19 : decode cX8_takeRule 19 = .ok (.invokevirtual 108, 3) := by decide +kernel
theorem dX8_takeRule_22 : decode cX8_takeRule 22 = .ok (.istore_n 2, 1) := by decide +kernel
theorem dX8_takeRule_23 : decode cX8_takeRule 23 = .ok (.aload_n 0, 1) := by decide +kernel
theorem dX8_takeRule_24 : decode cX8_takeRule 24 = .ok (.getfield 29, 3) := by decide +kernel
theorem dX8_takeRule_27 : decode cX8_takeRule 27 = .ok (.iload_n 1, 1) := by decide +kernel
theorem dX8_takeRule_28 : decode cX8_takeRule 28 = .ok (.aload_n 0, 1) := by decide +kernel
theorem dX8_takeRule_29 : decode cX8_takeRule 29 = .ok (.getfield 105, 3) := by decide +kernel
theorem dX8_takeRule_32 : decode cX8_takeRule 32 = .ok (.iastore, 1) := by decide +kernel
theorem dX8_takeRule_33 : decode cX8_takeRule 33 = .ok (.iload_n 2, 1) := by decide +kernel
theorem dX8_takeRule_34 : decode cX8_takeRule 34 = .ok (.ifCond .le 7, 3) := by decide +kernel
theorem dX8_takeRule_37 : decode cX8_takeRule 37 = .ok (.iload_n 2, 1) := by decide +kernel
theorem dX8_takeRule_38 : decode cX8_takeRule 38 = .ok (.goto 8, 3) := by decide +kernel
theorem dX8_takeRule_41 : decode cX8_takeRule 41 = .ok (.aload_n 0, 1) := by decide +kernel
theorem dX8_takeRule_42 : decode cX8_takeRule 42 = .ok (.iconst 0, 1) := by decide +kernel
theorem dX8_takeRule_43 : decode cX8_takeRule 43 = .ok (.invokevirtual 121, 3) := by decide +kernel
theorem dX8_takeRule_46 : decode cX8_takeRule 46 = .ok (.istore_n 2, 1) := by decide +kernel
theorem dX8_takeRule_47 : decode cX8_takeRule 47 = .ok (.aload_n 0, 1) := by decide +kernel
theorem dX8_takeRule_48 : decode cX8_takeRule 48 = .ok (.getfield 32, 3) := by decide +kernel
theorem dX8_takeRule_51 : decode cX8_takeRule 51 = .ok (.iload_n 1, 1) := by decide +kernel
theorem dX8_takeRule_52 : decode cX8_takeRule 52 = .ok (.aload_n 0, 1) := by decide +kernel
theorem dX8_takeRule_53 : decode cX8_takeRule 53 = .ok (.getfield 105, 3) := by decide +kernel
theorem dX8_takeRule_56 : decode cX8_takeRule 56 = .ok (.iastore, 1) := by decide +kernel
theorem dX8_takeRule_57 : decode cX8_takeRule 57 = .ok (.aload_n 0, 1) := by decide +kernel
theorem dX8_takeRule_58 : decode cX8_takeRule 58 = .ok (.getfield 35, 3) := by decide +kernel
theorem dX8_takeRule_61 : decode cX8_takeRule 61 = .ok (.iload_n 1, 1) := by decide +kernel
theorem dX8_takeRule_62 : decode cX8_takeRule 62 = .ok (.iconst 0, 1) := by decide +kernel
theorem dX8_takeRule_63 : decode cX8_takeRule 63 = .ok (.iastore, 1) := by decide +kernel
theorem dX8_takeRule_64 : decode cX8_takeRule 64 = .ok (.iconst 0, 1) := by decide +kernel
theorem dX8_takeRule_65 : decode cX8_takeRule 65 = .ok (.istore_n 3, 1) := by decide +kernel
theorem dX8_takeRule_66 : decode cX8_takeRule 66 = .ok (.iload_n 2, 1) := by decide +kernel
theorem dX8_takeRule_67 : decode cX8_takeRule 67 = .ok (.ifCond .ne 82, 3) := by decide +kernel
theorem dX8_takeRule_70 : decode cX8_takeRule 70 = .ok (.aload_n 0, 1) := by decide +kernel
theorem dX8_takeRule_71 : decode cX8_takeRule 71 = .ok (.invokevirtual 90, 3) := by decide +kernel
theorem dX8_takeRule_74 : decode cX8_takeRule 74 = .ok (.bipush 44, 2) := by decide +kernel
theorem dX8_takeRule_76 : decode cX8_takeRule 76 = .ok (.if_icmp .ne 73, 3) := by decide +kernel
theorem dX8_takeRule_79 : decode cX8_takeRule 79 = .ok (.iload_n 3, 1) := by decide +kernel
theorem dX8_takeRule_80 : decode cX8_takeRule 80 = .ok (.iconst 3, 1) := by decide +kernel
theorem dX8_takeRule_81 : decode cX8_takeRule 81 = .ok (.if_icmp .ne 13, 3) := by decide +kernel
theorem dX8_takeRule_84 : decode cX8_takeRule 84 = .ok (.aload_n 0, 1) := by decide +kernel
theorem dX8_takeRule_85 : decode cX8_takeRule 85 = .ok (.iconst 1, 1) := by decide +kernel
theorem dX8_takeRule_86 : decode cX8_takeRule 86 = .ok (.aload_n 0, 1) := by decide +kernel
theorem dX8_takeRule_87 : decode cX8_takeRule 87 = .ok (.getfield 87, 3) := by decide +kernel
theorem dX8_takeRule_90 : decode cX8_takeRule 90 = .ok (.invokevirtual 98, 3) := by decide +kernel
theorem dX8_takeRule_93 : decode cX8_takeRule 93 = .ok (.ireturn, 1) := by decide +kernel
theorem dX8_takeRule_94 : decode cX8_takeRule 94 = .ok (.aload_n 0, 1) := by decide +kernel
theorem dX8_takeRule_95 : decode cX8_takeRule 95 = .ok (.dup, 1) := by decide +kernel
theorem dX8_takeRule_96 : decode cX8_takeRule 96 = .ok (.getfield 87, 3) := by decide +kernel
theorem dX8_takeRule_99 : decode cX8_takeRule 99 = .ok (.iconst 1, 1) := by decide +kernel
theorem dX8_takeRule_100 : decode cX8_takeRule 100 = .ok (.iadd, 1) := by decide +kernel
theorem dX8_takeRule_101 : decode cX8_takeRule 101 = .ok (.putfield 87, 3) := by decide +kernel
theorem dX8_takeRule_104 : decode cX8_takeRule 104 = .ok (.aload_n 0, 1) := by decide +kernel
theorem dX8_takeRule_105 : decode cX8_takeRule 105 = .ok (.aload_n 0, 1) := by decide +kernel
theorem dX8_takeRule_106 : decode cX8_takeRule 106 = .ok (.getfield 35, 3) := by decide +kernel
theorem dX8_takeRule_109 : decode cX8_takeRule 109 = .ok (.iload_n 1, 1) := by decide +kernel
theorem dX8_takeRule_110 : decode cX8_takeRule 110 = .ok (.iaload, 1) := by decide +kernel
theorem dX8_takeRule_111 : decode cX8_takeRule 111 = .ok (.iconst 1, 1) := by decide +kernel
theorem dX8_takeRule_112 : decode cX8_takeRule 112 = .ok (.aload_n 0, 1) := by decide +kernel
theorem dX8_takeRule_113 : decode cX8_takeRule 113 = .ok (.getfield 32, 3) := by decide +kernel
theorem dX8_takeRule_116 : decode cX8_takeRule 116 = .ok (.iload_n 1, 1) := by decide +kernel
theorem dX8_takeRule_117 : decode cX8_takeRule 117 = .ok (.iaload, 1) := by decide +kernel
theorem dX8_takeRule_118 : decode cX8_takeRule 118 = .ok (.ishl, 1) := by decide +kernel
theorem dX8_takeRule_119 : decode cX8_takeRule 119 = .ok (.ior, 1) := by decide +kernel
theorem dX8_takeRule_120 : decode cX8_takeRule 120 = .ok (.invokevirtual 121, 3) := by decide +kernel
theorem dX8_takeRule_123 : decode cX8_takeRule 123 = .ok (.istore_n 2, 1) := by decide +kernel
theorem dX8_takeRule_124 : decode cX8_takeRule 124 = .ok (.iload_n 2, 1) := by decide +kernel
theorem dX8_takeRule_125 : decode cX8_takeRule 125 = .ok (.ifCond .ne (-59), 3) := by decide +kernel
theorem dX8_takeRule_128 : decode cX8_takeRule 128 = .ok (.aload_n 0, 1) := by decide +kernel
theorem dX8_takeRule_129 : decode cX8_takeRule 129 = .ok (.getfield 35, 3) := by decide +kernel
theorem dX8_takeRule_132 : decode cX8_takeRule 132 = .ok (.iload_n 1, 1) := by decide +kernel
theorem dX8_takeRule_133 : decode cX8_takeRule 133 = .ok (.dup2, 1) := by decide +kernel
theorem dX8_takeRule_134 : decode cX8_takeRule 134 = .ok (.iaload, 1) := by decide +kernel
theorem dX8_takeRule_135 : decode cX8_takeRule 135 = .ok (.iconst 1, 1) := by decide +kernel
theorem dX8_takeRule_136 : decode cX8_takeRule 136 = .ok (.aload_n 0, 1) := by decide +kernel
theorem dX8_takeRule_137 : decode cX8_takeRule 137 = .ok (.getfield 105, 3) := by decide +kernel
theorem dX8_takeRule_140 : decode cX8_takeRule 140 = .ok (.ishl, 1) := by decide +kernel
theorem dX8_takeRule_141 : decode cX8_takeRule 141 = .ok (.ior, 1) := by decide +kernel
theorem dX8_takeRule_142 : decode cX8_takeRule 142 = .ok (.iastore, 1) := by decide +kernel
theorem dX8_takeRule_143 : decode cX8_takeRule 143 = .ok (.iinc 3 1, 3) := by decide +kernel
theorem dX8_takeRule_146 : decode cX8_takeRule 146 = .ok (.goto (-80), 3) := by decide +kernel
theorem dX8_takeRule_149 : decode cX8_takeRule 149 = .ok (.iload_n 2, 1) := by decide +kernel
theorem dX8_takeRule_150 : decode cX8_takeRule 150 = .ok (.ireturn, 1) := by decide +kernel
theorem dX8_takeSeen_0 : decode cX8_takeSeen 0 = .ok (.aload_n 0, 1) := by decide +kernel
theorem dX8_takeSeen_1 : decode cX8_takeSeen 1 = .ok (.aload_n 0, 1) := by decide +kernel
theorem dX8_takeSeen_2 : decode cX8_takeSeen 2 = .ok (.getfield 125, 3) := by decide +kernel
theorem dX8_takeSeen_5 : decode cX8_takeSeen 5 = .ok (.invokevirtual 121, 3) := by decide +kernel
theorem dX8_takeSeen_8 : decode cX8_takeSeen 8 = .ok (.istore_n 1, 1) := by decide +kernel
theorem dX8_takeSeen_9 : decode cX8_takeSeen 9 = .ok (.iload_n 1, 1) := by decide +kernel
theorem dX8_takeSeen_10 : decode cX8_takeSeen 10 = .ok (.ifCond .ne 18, 3) := by decide +kernel
theorem dX8_takeSeen_13 : decode cX8_takeSeen 13 = .ok (.aload_n 0, 1) := by decide +kernel
theorem dX8_takeSeen_14 : decode cX8_takeSeen 14 = .ok (.dup, 1) := by decide +kernel
theorem dX8_takeSeen_15 : decode cX8_takeSeen 15 = .ok (.getfield 125, 3) := by decide +kernel
theorem dX8_takeSeen_18 : decode cX8_takeSeen 18 = .ok (.iconst 1, 1) := by decide +kernel
theorem dX8_takeSeen_19 : decode cX8_takeSeen 19 = .ok (.aload_n 0, 1) := by decide +kernel
theorem dX8_takeSeen_20 : decode cX8_takeSeen 20 = .ok (.getfield 105, 3) := by decide +kernel
theorem dX8_takeSeen_23 : decode cX8_takeSeen 23 = .ok (.ishl, 1) := by decide +kernel
theorem dX8_takeSeen_24 : decode cX8_takeSeen 24 = .ok (.ior, 1) := by decide +kernel
theorem dX8_takeSeen_25 : decode cX8_takeSeen 25 = .ok (.putfield 125, 3) := by decide +kernel
theorem dX8_takeSeen_28 : decode cX8_takeSeen 28 = .ok (.iload_n 1, 1) := by decide +kernel
theorem dX8_takeSeen_29 : decode cX8_takeSeen 29 = .ok (.ireturn, 1) := by decide +kernel
theorem dX8_takeClause_0 : decode cX8_takeClause 0 = .ok (.aload_n 0, 1) := by decide +kernel
theorem dX8_takeClause_1 : decode cX8_takeClause 1 = .ok (.invokevirtual 90, 3) := by decide +kernel
theorem dX8_takeClause_4 : decode cX8_takeClause 4 = .ok (.istore_n 1, 1) := by decide +kernel
theorem dX8_takeClause_5 : decode cX8_takeClause 5 = .ok (.iload_n 1, 1) := by decide +kernel
theorem dX8_takeClause_6 : decode cX8_takeClause 6 = .ok (.bipush 116, 2) := by decide +kernel
theorem dX8_takeClause_8 : decode cX8_takeClause 8 = .ok (.if_icmp .ne 7, 3) := by decide +kernel
theorem dX8_takeClause_11 : decode cX8_takeClause 11 = .ok (.iconst 0, 1) := by decide +kernel
theorem dX8_takeClause_12 : decode cX8_takeClause 12 = .ok (.goto 24, 3) := by decide +kernel
theorem dX8_takeClause_15 : decode cX8_takeClause 15 = .ok (.iload_n 1, 1) := by decide +kernel
theorem dX8_takeClause_16 : decode cX8_takeClause 16 = .ok (.bipush 114, 2) := by decide +kernel
theorem dX8_takeClause_18 : decode cX8_takeClause 18 = .ok (.if_icmp .ne 7, 3) := by decide +kernel
theorem dX8_takeClause_21 : decode cX8_takeClause 21 = .ok (.iconst 1, 1) := by decide +kernel
theorem dX8_takeClause_22 : decode cX8_takeClause 22 = .ok (.goto 14, 3) := by decide +kernel
theorem dX8_takeClause_25 : decode cX8_takeClause 25 = .ok (.iload_n 1, 1) := by decide +kernel
theorem dX8_takeClause_26 : decode cX8_takeClause 26 = .ok (.bipush 115, 2) := by decide +kernel
theorem dX8_takeClause_28 : decode cX8_takeClause 28 = .ok (.if_icmp .ne 7, 3) := by decide +kernel
theorem dX8_takeClause_31 : decode cX8_takeClause 31 = .ok (.iconst 2, 1) := by decide +kernel
theorem dX8_takeClause_32 : decode cX8_takeClause 32 = .ok (.goto 4, 3) := by decide +kernel
theorem dX8_takeClause_35 : decode cX8_takeClause 35 = .ok (.iconst (-1), 1) := by decide +kernel
theorem dX8_takeClause_36 : decode cX8_takeClause 36 = .ok (.istore_n 2, 1) := by decide +kernel
theorem dX8_takeClause_37 : decode cX8_takeClause 37 = .ok (.iload_n 2, 1) := by decide +kernel
theorem dX8_takeClause_38 : decode cX8_takeClause 38 = .ok (.ifCond .lt 14, 3) := by decide +kernel
theorem dX8_takeClause_41 : decode cX8_takeClause 41 = .ok (.iload_n 2, 1) := by decide +kernel
theorem dX8_takeClause_42 : decode cX8_takeClause 42 = .ok (.ifCond .le 20, 3) := by decide +kernel
theorem dX8_takeClause_45 : decode cX8_takeClause 45 = .ok (.aload_n 0, 1) := by decide +kernel
theorem dX8_takeClause_46 : decode cX8_takeClause 46 = .ok (.getfield 111, 3) := by decide +kernel
theorem dX8_takeClause_49 : decode cX8_takeClause 49 = .ok (.ifCond .ne 13, 3) := by decide +kernel
theorem dX8_takeClause_52 : decode cX8_takeClause 52 = .ok (.aload_n 0, 1) := by decide +kernel
theorem dX8_takeClause_53 : decode cX8_takeClause 53 = .ok (.iconst 1, 1) := by decide +kernel
theorem dX8_takeClause_54 : decode cX8_takeClause 54 = .ok (.aload_n 0, 1) := by decide +kernel
theorem dX8_takeClause_55 : decode cX8_takeClause 55 = .ok (.getfield 87, 3) := by decide +kernel
theorem dX8_takeClause_58 : decode cX8_takeClause 58 = .ok (.invokevirtual 98, 3) := by decide +kernel
theorem dX8_takeClause_61 : decode cX8_takeClause 61 = .ok (.ireturn, 1) := by decide +kernel
theorem dX8_takeClause_62 : decode cX8_takeClause 62 = .ok (.iload_n 2, 1) := by decide +kernel
theorem dX8_takeClause_63 : decode cX8_takeClause 63 = .ok (.ifCond .ne 10, 3) := by decide +kernel
theorem dX8_takeClause_66 : decode cX8_takeClause 66 = .ok (.aload_n 0, 1) := by decide +kernel
theorem dX8_takeClause_67 : decode cX8_takeClause 67 = .ok (.getfield 111, 3) := by decide +kernel
theorem dX8_takeClause_70 : decode cX8_takeClause 70 = .ok (.ifCond .gt 17, 3) := by decide +kernel
theorem dX8_takeClause_73 : decode cX8_takeClause 73 = .ok (.iload_n 2, 1) := by decide +kernel
theorem dX8_takeClause_74 : decode cX8_takeClause 74 = .ok (.iconst 1, 1) := by decide +kernel
theorem dX8_takeClause_75 : decode cX8_takeClause 75 = .ok (.if_icmp .ne 22, 3) := by decide +kernel
theorem dX8_takeClause_78 : decode cX8_takeClause 78 = .ok (.aload_n 0, 1) := by decide +kernel
theorem dX8_takeClause_79 : decode cX8_takeClause 79 = .ok (.getfield 118, 3) := by decide +kernel
theorem dX8_takeClause_82 : decode cX8_takeClause 82 = .ok (.bipush 10, 2) := by decide +kernel
theorem dX8_takeClause_84 : decode cX8_takeClause 84 = .ok (.if_icmp .ne 13, 3) := by decide +kernel
theorem dX8_takeClause_87 : decode cX8_takeClause 87 = .ok (.aload_n 0, 1) := by decide +kernel
theorem dX8_takeClause_88 : decode cX8_takeClause 88 = .ok (.iconst 3, 1) := by decide +kernel
theorem dX8_takeClause_89 : decode cX8_takeClause 89 = .ok (.aload_n 0, 1) := by decide +kernel
theorem dX8_takeClause_90 : decode cX8_takeClause 90 = .ok (.getfield 87, 3) := by decide +kernel
theorem dX8_takeClause_93 : decode cX8_takeClause 93 = .ok (.invokevirtual 98, 3) := by decide +kernel
theorem dX8_takeClause_96 : decode cX8_takeClause 96 = .ok (.ireturn, 1) := by decide +kernel
theorem dX8_takeClause_97 : decode cX8_takeClause 97 = .ok (.aload_n 0, 1) := by decide +kernel
theorem dX8_takeClause_98 : decode cX8_takeClause 98 = .ok (.dup, 1) := by decide +kernel
theorem dX8_takeClause_99 : decode cX8_takeClause 99 = .ok (.getfield 87, 3) := by decide +kernel
theorem dX8_takeClause_102 : decode cX8_takeClause 102 = .ok (.iconst 1, 1) := by decide +kernel
theorem dX8_takeClause_103 : decode cX8_takeClause 103 = .ok (.iadd, 1) := by decide +kernel
theorem dX8_takeClause_104 : decode cX8_takeClause 104 = .ok (.putfield 87, 3) := by decide +kernel
theorem dX8_takeClause_107 : decode cX8_takeClause 107 = .ok (.iload_n 2, 1) := by decide +kernel
theorem dX8_takeClause_108 : decode cX8_takeClause 108 = .ok (.ifCond .ne 10, 3) := by decide +kernel
theorem dX8_takeClause_111 : decode cX8_takeClause 111 = .ok (.aload_n 0, 1) := by decide +kernel
theorem dX8_takeClause_112 : decode cX8_takeClause 112 = .ok (.invokevirtual 128, 3) := by decide +kernel
theorem dX8_takeClause_115 : decode cX8_takeClause 115 = .ok (.goto 19, 3) := by decide +kernel
theorem dX8_takeClause_118 : decode cX8_takeClause 118 = .ok (.iload_n 2, 1) := by decide +kernel
theorem dX8_takeClause_119 : decode cX8_takeClause 119 = .ok (.iconst 1, 1) := by decide +kernel
theorem dX8_takeClause_120 : decode cX8_takeClause 120 = .ok (.if_icmp .ne 10, 3) := by decide +kernel
theorem dX8_takeClause_123 : decode cX8_takeClause 123 = .ok (.aload_n 0, 1) := by decide +kernel
theorem dX8_takeClause_124 : decode cX8_takeClause 124 = .ok (.invokevirtual 131, 3) := by decide +kernel
theorem dX8_takeClause_127 : decode cX8_takeClause 127 = .ok (.goto 7, 3) := by decide +kernel
theorem dX8_takeClause_130 : decode cX8_takeClause 130 = .ok (.aload_n 0, 1) := by decide +kernel
theorem dX8_takeClause_131 : decode cX8_takeClause 131 = .ok (.invokevirtual 134, 3) := by decide +kernel
theorem dX8_takeClause_134 : decode cX8_takeClause 134 = .ok (.istore_n 3, 1) := by decide +kernel
theorem dX8_takeClause_135 : decode cX8_takeClause 135 = .ok (.iload_n 3, 1) := by decide +kernel
theorem dX8_takeClause_136 : decode cX8_takeClause 136 = .ok (.ifCond .ne 22, 3) := by decide +kernel
theorem dX8_takeClause_139 : decode cX8_takeClause 139 = .ok (.aload_n 0, 1) := by decide +kernel
theorem dX8_takeClause_140 : decode cX8_takeClause 140 = .ok (.invokevirtual 90, 3) := by decide +kernel
theorem dX8_takeClause_143 : decode cX8_takeClause 143 = .ok (.bipush 59, 2) := by decide +kernel
theorem dX8_takeClause_145 : decode cX8_takeClause 145 = .ok (.if_icmp .eq 13, 3) := by decide +kernel
theorem dX8_takeClause_148 : decode cX8_takeClause 148 = .ok (.aload_n 0, 1) := by decide +kernel
theorem dX8_takeClause_149 : decode cX8_takeClause 149 = .ok (.iconst 1, 1) := by decide +kernel
theorem dX8_takeClause_150 : decode cX8_takeClause 150 = .ok (.aload_n 0, 1) := by decide +kernel
theorem dX8_takeClause_151 : decode cX8_takeClause 151 = .ok (.getfield 87, 3) := by decide +kernel
theorem dX8_takeClause_154 : decode cX8_takeClause 154 = .ok (.invokevirtual 98, 3) := by decide +kernel
theorem dX8_takeClause_157 : decode cX8_takeClause 157 = .ok (.ireturn, 1) := by decide +kernel
theorem dX8_takeClause_158 : decode cX8_takeClause 158 = .ok (.aload_n 0, 1) := by decide +kernel
theorem dX8_takeClause_159 : decode cX8_takeClause 159 = .ok (.dup, 1) := by decide +kernel
theorem dX8_takeClause_160 : decode cX8_takeClause 160 = .ok (.getfield 87, 3) := by decide +kernel
theorem dX8_takeClause_163 : decode cX8_takeClause 163 = .ok (.iconst 1, 1) := by decide +kernel
theorem dX8_takeClause_164 : decode cX8_takeClause 164 = .ok (.iadd, 1) := by decide +kernel
theorem dX8_takeClause_165 : decode cX8_takeClause 165 = .ok (.putfield 87, 3) := by decide +kernel
theorem dX8_takeClause_168 : decode cX8_takeClause 168 = .ok (.iload_n 3, 1) := by decide +kernel
theorem dX8_takeClause_169 : decode cX8_takeClause 169 = .ok (.ireturn, 1) := by decide +kernel
theorem dX8_town_0 : decode cX8_town 0 = .ok (.aload_n 0, 1) := by decide +kernel
theorem dX8_town_1 : decode cX8_town 1 = .ok (.iconst (-1), 1) := by decide +kernel
theorem dX8_town_2 : decode cX8_town 2 = .ok (.putfield 25, 3) := by decide +kernel
theorem dX8_town_5 : decode cX8_town 5 = .ok (.aload_n 0, 1) := by decide +kernel
theorem dX8_town_6 : decode cX8_town 6 = .ok (.iconst 0, 1) := by decide +kernel
theorem dX8_town_7 : decode cX8_town 7 = .ok (.putfield 87, 3) := by decide +kernel
theorem dX8_town_10 : decode cX8_town 10 = .ok (.aload_n 0, 1) := by decide +kernel
theorem dX8_town_11 : decode cX8_town 11 = .ok (.iconst 0, 1) := by decide +kernel
theorem dX8_town_12 : decode cX8_town 12 = .ok (.putfield 111, 3) := by decide +kernel
theorem dX8_town_15 : decode cX8_town 15 = .ok (.aload_n 0, 1) := by decide +kernel
theorem dX8_town_16 : decode cX8_town 16 = .ok (.iconst 0, 1) := by decide +kernel
theorem dX8_town_17 : decode cX8_town 17 = .ok (.putfield 118, 3) := by decide +kernel
theorem dX8_town_20 : decode cX8_town 20 = .ok (.aload_n 0, 1) := by decide +kernel
theorem dX8_town_21 : decode cX8_town 21 = .ok (.iconst 0, 1) := by decide +kernel
theorem dX8_town_22 : decode cX8_town 22 = .ok (.putfield 125, 3) := by decide +kernel
theorem dX8_town_25 : decode cX8_town 25 = .ok (.iconst 0, 1) := by decide +kernel
theorem dX8_town_26 : decode cX8_town 26 = .ok (.istore_n 1, 1) := by decide +kernel
theorem dX8_town_27 : decode cX8_town 27 = .ok (.iload_n 1, 1) := by decide +kernel
theorem dX8_town_28 : decode cX8_town 28 = .ok (.ifCond .ne 18, 3) := by decide +kernel
theorem dX8_town_31 : decode cX8_town 31 = .ok (.aload_n 0, 1) := by decide +kernel
theorem dX8_town_32 : decode cX8_town 32 = .ok (.invokevirtual 90, 3) := by decide +kernel
theorem dX8_town_35 : decode cX8_town 35 = .ok (.ifCond .lt 11, 3) := by decide +kernel
theorem dX8_town_38 : decode cX8_town 38 = .ok (.aload_n 0, 1) := by decide +kernel
theorem dX8_town_39 : decode cX8_town 39 = .ok (.invokevirtual 137, 3) := by decide +kernel
theorem dX8_town_42 : decode cX8_town 42 = .ok (.istore_n 1, 1) := by decide +kernel
theorem dX8_town_43 : decode cX8_town 43 = .ok (.goto (-16), 3) := by decide +kernel
theorem dX8_town_46 : decode cX8_town 46 = .ok (.aload_n 0, 1) := by decide +kernel
theorem dX8_town_47 : decode cX8_town 47 = .ok (.iconst 0, 1) := by decide +kernel
theorem dX8_town_48 : decode cX8_town 48 = .ok (.putfield 83, 3) := by decide +kernel
theorem dX8_town_51 : decode cX8_town 51 = .ok (.iload_n 1, 1) := by decide +kernel
theorem dX8_town_52 : decode cX8_town 52 = .ok (.ifCond .le 8, 3) := by decide +kernel
theorem dX8_town_55 : decode cX8_town 55 = .ok (.bipush (-10), 2) := by decide +kernel
theorem dX8_town_57 : decode cX8_town 57 = .ok (.iload_n 1, 1) := by decide +kernel
theorem dX8_town_58 : decode cX8_town 58 = .ok (.isub, 1) := by decide +kernel
theorem dX8_town_59 : decode cX8_town 59 = .ok (.ireturn, 1) := by decide +kernel
theorem dX8_town_60 : decode cX8_town 60 = .ok (.aload_n 0, 1) := by decide +kernel
theorem dX8_town_61 : decode cX8_town 61 = .ok (.aload_n 0, 1) := by decide +kernel
theorem dX8_town_62 : decode cX8_town 62 = .ok (.getfield 111, 3) := by decide +kernel
theorem dX8_town_65 : decode cX8_town 65 = .ok (.putfield 70, 3) := by decide +kernel
theorem dX8_town_68 : decode cX8_town 68 = .ok (.aload_n 0, 1) := by decide +kernel
theorem dX8_town_69 : decode cX8_town 69 = .ok (.aload_n 0, 1) := by decide +kernel
theorem dX8_town_70 : decode cX8_town 70 = .ok (.getfield 118, 3) := by decide +kernel
theorem dX8_town_73 : decode cX8_town 73 = .ok (.putfield 77, 3) := by decide +kernel
theorem dX8_town_76 : decode cX8_town 76 = .ok (.iconst 0, 1) := by decide +kernel
theorem dX8_town_77 : decode cX8_town 77 = .ok (.istore_n 2, 1) := by decide +kernel
theorem dX8_town_78 : decode cX8_town 78 = .ok (.iload_n 2, 1) := by decide +kernel
theorem dX8_town_79 : decode cX8_town 79 = .ok (.aload_n 0, 1) := by decide +kernel
theorem dX8_town_80 : decode cX8_town 80 = .ok (.getfield 77, 3) := by decide +kernel
theorem dX8_town_83 : decode cX8_town 83 = .ok (.if_icmp .ge 45, 3) := by decide +kernel
theorem dX8_town_86 : decode cX8_town 86 = .ok (.aload_n 0, 1) := by decide +kernel
theorem dX8_town_87 : decode cX8_town 87 = .ok (.getfield 7, 3) := by decide +kernel
theorem dX8_town_90 : decode cX8_town 90 = .ok (.iload_n 2, 1) := by decide +kernel
theorem dX8_town_91 : decode cX8_town 91 = .ok (.aload_n 0, 1) := by decide +kernel
theorem dX8_town_92 : decode cX8_town 92 = .ok (.getfield 29, 3) := by decide +kernel
theorem dX8_town_95 : decode cX8_town 95 = .ok (.iload_n 2, 1) := by decide +kernel
theorem dX8_town_96 : decode cX8_town 96 = .ok (.iaload, 1) := by decide +kernel
theorem dX8_town_97 : decode cX8_town 97 = .ok (.iastore, 1) := by decide +kernel
theorem dX8_town_98 : decode cX8_town 98 = .ok (.aload_n 0, 1) := by decide +kernel
theorem dX8_town_99 : decode cX8_town 99 = .ok (.getfield 13, 3) := by decide +kernel
theorem dX8_town_102 : decode cX8_town 102 = .ok (.iload_n 2, 1) := by decide +kernel
theorem dX8_town_103 : decode cX8_town 103 = .ok (.aload_n 0, 1) := by decide +kernel
theorem dX8_town_104 : decode cX8_town 104 = .ok (.getfield 32, 3) := by decide +kernel
theorem dX8_town_107 : decode cX8_town 107 = .ok (.iload_n 2, 1) := by decide +kernel
theorem dX8_town_108 : decode cX8_town 108 = .ok (.iaload, 1) := by decide +kernel
theorem dX8_town_109 : decode cX8_town 109 = .ok (.iastore, 1) := by decide +kernel
theorem dX8_town_110 : decode cX8_town 110 = .ok (.aload_n 0, 1) := by decide +kernel
theorem dX8_town_111 : decode cX8_town 111 = .ok (.getfield 16, 3) := by decide +kernel
theorem dX8_town_114 : decode cX8_town 114 = .ok (.iload_n 2, 1) := by decide +kernel
theorem dX8_town_115 : decode cX8_town 115 = .ok (.aload_n 0, 1) := by decide +kernel
theorem dX8_town_116 : decode cX8_town 116 = .ok (.getfield 35, 3) := by decide +kernel
theorem dX8_town_119 : decode cX8_town 119 = .ok (.iload_n 2, 1) := by decide +kernel
theorem dX8_town_120 : decode cX8_town 120 = .ok (.iaload, 1) := by decide +kernel
theorem dX8_town_121 : decode cX8_town 121 = .ok (.iastore, 1) := by decide +kernel
theorem dX8_town_122 : decode cX8_town 122 = .ok (.iinc 2 1, 3) := by decide +kernel
theorem dX8_town_125 : decode cX8_town 125 = .ok (.goto (-47), 3) := by decide +kernel
theorem dX8_town_128 : decode cX8_town 128 = .ok (.aload_n 0, 1) := by decide +kernel
theorem dX8_town_129 : decode cX8_town 129 = .ok (.getfield 19, 3) := by decide +kernel
theorem dX8_town_132 : decode cX8_town 132 = .ok (.iconst 0, 1) := by decide +kernel
theorem dX8_town_133 : decode cX8_town 133 = .ok (.aload_n 0, 1) := by decide +kernel
theorem dX8_town_134 : decode cX8_town 134 = .ok (.getfield 125, 3) := by decide +kernel
theorem dX8_town_137 : decode cX8_town 137 = .ok (.iastore, 1) := by decide +kernel
theorem dX8_town_138 : decode cX8_town 138 = .ok (.iconst 1, 1) := by decide +kernel
theorem dX8_town_139 : decode cX8_town 139 = .ok (.istore_n 2, 1) := by decide +kernel
theorem dX8_town_140 : decode cX8_town 140 = .ok (.iload_n 2, 1) := by decide +kernel
theorem dX8_town_141 : decode cX8_town 141 = .ok (.iconst 4, 1) := by decide +kernel
theorem dX8_town_142 : decode cX8_town 142 = .ok (.if_icmp .ge 16, 3) := by decide +kernel
theorem dX8_town_145 : decode cX8_town 145 = .ok (.aload_n 0, 1) := by decide +kernel
theorem dX8_town_146 : decode cX8_town 146 = .ok (.getfield 19, 3) := by decide +kernel
theorem dX8_town_149 : decode cX8_town 149 = .ok (.iload_n 2, 1) := by decide +kernel
theorem dX8_town_150 : decode cX8_town 150 = .ok (.iconst 0, 1) := by decide +kernel
theorem dX8_town_151 : decode cX8_town 151 = .ok (.iastore, 1) := by decide +kernel
theorem dX8_town_152 : decode cX8_town 152 = .ok (.iinc 2 1, 3) := by decide +kernel
theorem dX8_town_155 : decode cX8_town 155 = .ok (.goto (-15), 3) := by decide +kernel
theorem dX8_town_158 : decode cX8_town 158 = .ok (.aload_n 0, 1) := by decide +kernel
theorem dX8_town_159 : decode cX8_town 159 = .ok (.iconst 0, 1) := by decide +kernel
theorem dX8_town_160 : decode cX8_town 160 = .ok (.putfield 140, 3) := by decide +kernel
theorem dX8_town_163 : decode cX8_town 163 = .ok (.aload_n 0, 1) := by decide +kernel
theorem dX8_town_164 : decode cX8_town 164 = .ok (.iconst 0, 1) := by decide +kernel
theorem dX8_town_165 : decode cX8_town 165 = .ok (.putfield 143, 3) := by decide +kernel
theorem dX8_town_168 : decode cX8_town 168 = .ok (.aload_n 0, 1) := by decide +kernel
theorem dX8_town_169 : decode cX8_town 169 = .ok (.iconst 0, 1) := by decide +kernel
theorem dX8_town_170 : decode cX8_town 170 = .ok (.putfield 146, 3) := by decide +kernel
theorem dX8_town_173 : decode cX8_town 173 = .ok (.aload_n 0, 1) := by decide +kernel
theorem dX8_town_174 : decode cX8_town 174 = .ok (.getfield 67, 3) := by decide +kernel
theorem dX8_town_177 : decode cX8_town 177 = .ok (.iconst 0, 1) := by decide +kernel
theorem dX8_town_178 : decode cX8_town 178 = .ok (.iconst 0, 1) := by decide +kernel
theorem dX8_town_179 : decode cX8_town 179 = .ok (.bastore, 1) := by decide +kernel
theorem dX8_town_180 : decode cX8_town 180 = .ok (.aload_n 0, 1) := by decide +kernel
theorem dX8_town_181 : decode cX8_town 181 = .ok (.getfield 67, 3) := by decide +kernel
theorem dX8_town_184 : decode cX8_town 184 = .ok (.iconst 1, 1) := by decide +kernel
theorem dX8_town_185 : decode cX8_town 185 = .ok (.iconst 0, 1) := by decide +kernel
theorem dX8_town_186 : decode cX8_town 186 = .ok (.bastore, 1) := by decide +kernel
theorem dX8_town_187 : decode cX8_town 187 = .ok (.aload_n 0, 1) := by decide +kernel
theorem dX8_town_188 : decode cX8_town 188 = .ok (.getfield 77, 3) := by decide +kernel
theorem dX8_town_191 : decode cX8_town 191 = .ok (.ireturn, 1) := by decide +kernel
theorem dX8_fault_0 : decode cX8_fault 0 = .ok (.aload_n 0, 1) := by decide +kernel
theorem dX8_fault_1 : decode cX8_fault 1 = .ok (.getfield 25, 3) := by decide +kernel
theorem dX8_fault_4 : decode cX8_fault 4 = .ok (.ireturn, 1) := by decide +kernel
theorem dX8_close_0 : decode cX8_close 0 = .ok (.iload_n 1, 1) := by decide +kernel
theorem dX8_close_1 : decode cX8_close 1 = .ok (.istore_n 3, 1) := by decide +kernel
theorem dX8_close_2 : decode cX8_close 2 = .ok (.iconst 1, 1) := by decide +kernel
theorem dX8_close_3 : decode cX8_close 3 = .ok (.istore 4, 2) := by decide +kernel
theorem dX8_close_5 : decode cX8_close 5 = .ok (.iload 4, 2) := by decide +kernel
theorem dX8_close_7 : decode cX8_close 7 = .ok (.ifCond .eq 79, 3) := by decide +kernel
theorem dX8_close_10 : decode cX8_close 10 = .ok (.iconst 0, 1) := by decide +kernel
theorem dX8_close_11 : decode cX8_close 11 = .ok (.istore 4, 2) := by decide +kernel
theorem dX8_close_13 : decode cX8_close 13 = .ok (.iconst 0, 1) := by decide +kernel
theorem dX8_close_14 : decode cX8_close 14 = .ok (.istore 5, 2) := by decide +kernel
theorem dX8_close_16 : decode cX8_close 16 = .ok (.iload 5, 2) := by decide +kernel
theorem dX8_close_18 : decode cX8_close 18 = .ok (.aload_n 0, 1) := by decide +kernel
theorem dX8_close_19 : decode cX8_close 19 = .ok (.getfield 77, 3) := by decide +kernel
theorem dX8_close_22 : decode cX8_close 22 = .ok (.if_icmp .ge 61, 3) := by decide +kernel
theorem dX8_close_25 : decode cX8_close 25 = .ok (.iload_n 2, 1) := by decide +kernel
theorem dX8_close_26 : decode cX8_close 26 = .ok (.iload 5, 2) := by decide +kernel
theorem dX8_close_28 : decode cX8_close 28 = .ok (.invokestatic 114, 3) := by decide +kernel
theorem dX8_close_31 : decode cX8_close 31 = .ok (.ifCond .eq 46, 3) := by decide +kernel
theorem dX8_close_34 : decode cX8_close 34 = .ok (.iload_n 3, 1) := by decide +kernel
theorem dX8_close_35 : decode cX8_close 35 = .ok (.aload_n 0, 1) := by decide +kernel
theorem dX8_close_36 : decode cX8_close 36 = .ok (.getfield 13, 3) := by decide +kernel
theorem dX8_close_39 : decode cX8_close 39 = .ok (.iload 5, 2) := by decide +kernel
theorem dX8_close_41 : decode cX8_close 41 = .ok (.iaload, 1) := by decide +kernel
theorem dX8_close_42 : decode cX8_close 42 = .ok (.invokestatic 114, 3) := by decide +kernel
theorem dX8_close_45 : decode cX8_close 45 = .ok (.ifCond .ne 32, 3) := by decide +kernel
theorem dX8_close_48 : decode cX8_close 48 = .ok (.aload_n 0, 1) := by decide +kernel
theorem dX8_close_49 : decode cX8_close 49 = .ok (.getfield 16, 3) := by decide +kernel
theorem dX8_close_52 : decode cX8_close 52 = .ok (.iload 5, 2) := by decide +kernel
theorem dX8_close_54 : decode cX8_close 54 = .ok (.iaload, 1) := by decide +kernel
theorem dX8_close_55 : decode cX8_close 55 = .ok (.iload_n 3, 1) := by decide +kernel
theorem dX8_close_56 : decode cX8_close 56 = .ok (.iconst (-1), 1) := by decide +kernel
theorem dX8_close_57 : decode cX8_close 57 = .ok (.ixor, 1) := by decide +kernel
theorem dX8_close_58 : decode cX8_close 58 = .ok (.iand, 1) := by decide +kernel
theorem dX8_close_59 : decode cX8_close 59 = .ok (.ifCond .ne 18, 3) := by decide +kernel
theorem dX8_close_62 : decode cX8_close 62 = .ok (.iload_n 3, 1) := by decide +kernel
theorem dX8_close_63 : decode cX8_close 63 = .ok (.iconst 1, 1) := by decide +kernel
theorem dX8_close_64 : decode cX8_close 64 = .ok (.aload_n 0, 1) := by decide +kernel
theorem dX8_close_65 : decode cX8_close 65 = .ok (.getfield 13, 3) := by decide +kernel
theorem dX8_close_68 : decode cX8_close 68 = .ok (.iload 5, 2) := by decide +kernel
theorem dX8_close_70 : decode cX8_close 70 = .ok (.iaload, 1) := by decide +kernel
theorem dX8_close_71 : decode cX8_close 71 = .ok (.ishl, 1) := by decide +kernel
theorem dX8_close_72 : decode cX8_close 72 = .ok (.ior, 1) := by decide +kernel
theorem dX8_close_73 : decode cX8_close 73 = .ok (.istore_n 3, 1) := by decide +kernel
theorem dX8_close_74 : decode cX8_close 74 = .ok (.iconst 1, 1) := by decide +kernel
theorem dX8_close_75 : decode cX8_close 75 = .ok (.istore 4, 2) := by decide +kernel
theorem dX8_close_77 : decode cX8_close 77 = .ok (.iinc 5 1, 3) := by decide +kernel
theorem dX8_close_80 : decode cX8_close 80 = .ok (.goto (-64), 3) := by decide +kernel
theorem dX8_close_83 : decode cX8_close 83 = .ok (.goto (-78), 3) := by decide +kernel
theorem dX8_close_86 : decode cX8_close 86 = .ok (.iload_n 3, 1) := by decide +kernel
theorem dX8_close_87 : decode cX8_close 87 = .ok (.ireturn, 1) := by decide +kernel
theorem dX8_allowed_0 : decode cX8_allowed 0 = .ok (.iconst 1, 1) := by decide +kernel
theorem dX8_allowed_1 : decode cX8_allowed 1 = .ok (.aload_n 0, 1) := by decide +kernel
theorem dX8_allowed_2 : decode cX8_allowed 2 = .ok (.getfield 77, 3) := by decide +kernel
theorem dX8_allowed_5 : decode cX8_allowed 5 = .ok (.ishl, 1) := by decide +kernel
theorem dX8_allowed_6 : decode cX8_allowed 6 = .ok (.iconst 1, 1) := by decide +kernel
theorem dX8_allowed_7 : decode cX8_allowed 7 = .ok (.isub, 1) := by decide +kernel
theorem dX8_allowed_8 : decode cX8_allowed 8 = .ok (.aload_n 0, 1) := by decide +kernel
theorem dX8_allowed_9 : decode cX8_allowed 9 = .ok (.getfield 19, 3) := by decide +kernel
theorem dX8_allowed_12 : decode cX8_allowed 12 = .ok (.iconst 2, 1) := by decide +kernel
theorem dX8_allowed_13 : decode cX8_allowed 13 = .ok (.iaload, 1) := by decide +kernel
theorem dX8_allowed_14 : decode cX8_allowed 14 = .ok (.iconst (-1), 1) := by decide +kernel
theorem dX8_allowed_15 : decode cX8_allowed 15 = .ok (.ixor, 1) := by decide +kernel
theorem dX8_allowed_16 : decode cX8_allowed 16 = .ok (.iand, 1) := by decide +kernel
theorem dX8_allowed_17 : decode cX8_allowed 17 = .ok (.ireturn, 1) := by decide +kernel
theorem dX8_followsNow_0 : decode cX8_followsNow 0 = .ok (.aload_n 0, 1) := by decide +kernel
theorem dX8_followsNow_1 : decode cX8_followsNow 1 = .ok (.aload_n 0, 1) := by decide +kernel
theorem dX8_followsNow_2 : decode cX8_followsNow 2 = .ok (.getfield 19, 3) := by decide +kernel
theorem dX8_followsNow_5 : decode cX8_followsNow 5 = .ok (.iconst 0, 1) := by decide +kernel
theorem dX8_followsNow_6 : decode cX8_followsNow 6 = .ok (.iaload, 1) := by decide +kernel
theorem dX8_followsNow_7 : decode cX8_followsNow 7 = .ok (.aload_n 0, 1) := by decide +kernel
theorem dX8_followsNow_8 : decode cX8_followsNow 8 = .ok (.invokevirtual 149, 3) := by decide +kernel
theorem dX8_followsNow_11 : decode cX8_followsNow 11 = .ok (.invokevirtual 152, 3) := by decide +kernel
theorem dX8_followsNow_14 : decode cX8_followsNow 14 = .ok (.ireturn, 1) := by decide +kernel
theorem dX8_quarrels_0 : decode cX8_quarrels 0 = .ok (.iconst 0, 1) := by decide +kernel
theorem dX8_quarrels_1 : decode cX8_quarrels 1 = .ok (.istore_n 1, 1) := by decide +kernel
theorem dX8_quarrels_2 : decode cX8_quarrels 2 = .ok (.iconst 0, 1) := by decide +kernel
theorem dX8_quarrels_3 : decode cX8_quarrels 3 = .ok (.istore_n 2, 1) := by decide +kernel
theorem dX8_quarrels_4 : decode cX8_quarrels 4 = .ok (.iload_n 2, 1) := by decide +kernel
theorem dX8_quarrels_5 : decode cX8_quarrels 5 = .ok (.bipush 8, 2) := by decide +kernel
theorem dX8_quarrels_7 : decode cX8_quarrels 7 = .ok (.if_icmp .ge 30, 3) := by decide +kernel
theorem dX8_quarrels_10 : decode cX8_quarrels 10 = .ok (.iload_n 1, 1) := by decide +kernel
theorem dX8_quarrels_11 : decode cX8_quarrels 11 = .ok (.iload_n 0, 1) := by decide +kernel
theorem dX8_quarrels_12 : decode cX8_quarrels 12 = .ok (.iconst 2, 1) := by decide +kernel
theorem dX8_quarrels_13 : decode cX8_quarrels 13 = .ok (.iload_n 2, 1) := by decide +kernel
theorem dX8_quarrels_14 : decode cX8_quarrels 14 = .ok (.imul, 1) := by decide +kernel
theorem dX8_quarrels_15 : decode cX8_quarrels 15 = .ok (.ishr, 1) := by decide +kernel
theorem dX8_quarrels_16 : decode cX8_quarrels 16 = .ok (.iconst 3, 1) := by decide +kernel
theorem dX8_quarrels_17 : decode cX8_quarrels 17 = .ok (.iand, 1) := by decide +kernel
theorem dX8_quarrels_18 : decode cX8_quarrels 18 = .ok (.iconst 3, 1) := by decide +kernel
theorem dX8_quarrels_19 : decode cX8_quarrels 19 = .ok (.if_icmp .ne 9, 3) := by decide +kernel
theorem dX8_quarrels_22 : decode cX8_quarrels 22 = .ok (.iconst 1, 1) := by decide +kernel
theorem dX8_quarrels_23 : decode cX8_quarrels 23 = .ok (.iload_n 2, 1) := by decide +kernel
theorem dX8_quarrels_24 : decode cX8_quarrels 24 = .ok (.ishl, 1) := by decide +kernel
theorem dX8_quarrels_25 : decode cX8_quarrels 25 = .ok (.goto 4, 3) := by decide +kernel
theorem dX8_quarrels_28 : decode cX8_quarrels 28 = .ok (.iconst 0, 1) := by decide +kernel
theorem dX8_quarrels_29 : decode cX8_quarrels 29 = .ok (.ior, 1) := by decide +kernel
theorem dX8_quarrels_30 : decode cX8_quarrels 30 = .ok (.istore_n 1, 1) := by decide +kernel
theorem dX8_quarrels_31 : decode cX8_quarrels 31 = .ok (.iinc 2 1, 3) := by decide +kernel
theorem dX8_quarrels_34 : decode cX8_quarrels 34 = .ok (.goto (-30), 3) := by decide +kernel
theorem dX8_quarrels_37 : decode cX8_quarrels 37 = .ok (.iload_n 1, 1) := by decide +kernel
theorem dX8_quarrels_38 : decode cX8_quarrels 38 = .ok (.ireturn, 1) := by decide +kernel
theorem dX8_told_0 : decode cX8_told 0 = .ok (.iload_n 1, 1) := by decide +kernel
theorem dX8_told_1 : decode cX8_told 1 = .ok (.tableswitch 148 0 12 #[67, 72, 77, 82, 89, 96, 103, 110, 115, 123, 133, 138, 143], 67) := by decide +kernel
theorem dX8_told_68 : decode cX8_told 68 = .ok (.aload_n 0, 1) := by decide +kernel
theorem dX8_told_69 : decode cX8_told 69 = .ok (.getfield 70, 3) := by decide +kernel
theorem dX8_told_72 : decode cX8_told 72 = .ok (.ireturn, 1) := by decide +kernel
theorem dX8_told_73 : decode cX8_told 73 = .ok (.aload_n 0, 1) := by decide +kernel
theorem dX8_told_74 : decode cX8_told 74 = .ok (.getfield 77, 3) := by decide +kernel
theorem dX8_told_77 : decode cX8_told 77 = .ok (.ireturn, 1) := by decide +kernel
theorem dX8_told_78 : decode cX8_told 78 = .ok (.aload_n 0, 1) := by decide +kernel
theorem dX8_told_79 : decode cX8_told 79 = .ok (.getfield 83, 3) := by decide +kernel
theorem dX8_told_82 : decode cX8_told 82 = .ok (.ireturn, 1) := by decide +kernel
theorem dX8_told_83 : decode cX8_told 83 = .ok (.aload_n 0, 1) := by decide +kernel
theorem dX8_told_84 : decode cX8_told 84 = .ok (.getfield 19, 3) := by decide +kernel
theorem dX8_told_87 : decode cX8_told 87 = .ok (.iconst 0, 1) := by decide +kernel
theorem dX8_told_88 : decode cX8_told 88 = .ok (.iaload, 1) := by decide +kernel
theorem dX8_told_89 : decode cX8_told 89 = .ok (.ireturn, 1) := by decide +kernel
theorem dX8_told_90 : decode cX8_told 90 = .ok (.aload_n 0, 1) := by decide +kernel
theorem dX8_told_91 : decode cX8_told 91 = .ok (.getfield 19, 3) := by decide +kernel
theorem dX8_told_94 : decode cX8_told 94 = .ok (.iconst 1, 1) := by decide +kernel
theorem dX8_told_95 : decode cX8_told 95 = .ok (.iaload, 1) := by decide +kernel
theorem dX8_told_96 : decode cX8_told 96 = .ok (.ireturn, 1) := by decide +kernel
theorem dX8_told_97 : decode cX8_told 97 = .ok (.aload_n 0, 1) := by decide +kernel
theorem dX8_told_98 : decode cX8_told 98 = .ok (.getfield 19, 3) := by decide +kernel
theorem dX8_told_101 : decode cX8_told 101 = .ok (.iconst 2, 1) := by decide +kernel
theorem dX8_told_102 : decode cX8_told 102 = .ok (.iaload, 1) := by decide +kernel
theorem dX8_told_103 : decode cX8_told 103 = .ok (.ireturn, 1) := by decide +kernel
theorem dX8_told_104 : decode cX8_told 104 = .ok (.aload_n 0, 1) := by decide +kernel
theorem dX8_told_105 : decode cX8_told 105 = .ok (.getfield 19, 3) := by decide +kernel
theorem dX8_told_108 : decode cX8_told 108 = .ok (.iconst 3, 1) := by decide +kernel
theorem dX8_told_109 : decode cX8_told 109 = .ok (.iaload, 1) := by decide +kernel
theorem dX8_told_110 : decode cX8_told 110 = .ok (.ireturn, 1) := by decide +kernel
theorem dX8_told_111 : decode cX8_told 111 = .ok (.aload_n 0, 1) := by decide +kernel
theorem dX8_told_112 : decode cX8_told 112 = .ok (.invokevirtual 155, 3) := by decide +kernel
theorem dX8_told_115 : decode cX8_told 115 = .ok (.ireturn, 1) := by decide +kernel
theorem dX8_told_116 : decode cX8_told 116 = .ok (.aload_n 0, 1) := by decide +kernel
theorem dX8_told_117 : decode cX8_told 117 = .ok (.invokevirtual 155, 3) := by decide +kernel
theorem dX8_told_120 : decode cX8_told 120 = .ok (.invokestatic 158, 3) := by decide +kernel
theorem dX8_told_123 : decode cX8_told 123 = .ok (.ireturn, 1) := by decide +kernel
theorem dX8_told_124 : decode cX8_told 124 = .ok (.aload_n 0, 1) := by decide +kernel
theorem dX8_told_125 : decode cX8_told 125 = .ok (.getfield 19, 3) := by decide +kernel
theorem dX8_told_128 : decode cX8_told 128 = .ok (.iconst 1, 1) := by decide +kernel
theorem dX8_told_129 : decode cX8_told 129 = .ok (.iaload, 1) := by decide +kernel
theorem dX8_told_130 : decode cX8_told 130 = .ok (.invokestatic 158, 3) := by decide +kernel
theorem dX8_told_133 : decode cX8_told 133 = .ok (.ireturn, 1) := by decide +kernel
theorem dX8_told_134 : decode cX8_told 134 = .ok (.aload_n 0, 1) := by decide +kernel
theorem dX8_told_135 : decode cX8_told 135 = .ok (.getfield 140, 3) := by decide +kernel
theorem dX8_told_138 : decode cX8_told 138 = .ok (.ireturn, 1) := by decide +kernel
theorem dX8_told_139 : decode cX8_told 139 = .ok (.aload_n 0, 1) := by decide +kernel
theorem dX8_told_140 : decode cX8_told 140 = .ok (.getfield 143, 3) := by decide +kernel
theorem dX8_told_143 : decode cX8_told 143 = .ok (.ireturn, 1) := by decide +kernel
theorem dX8_told_144 : decode cX8_told 144 = .ok (.aload_n 0, 1) := by decide +kernel
theorem dX8_told_145 : decode cX8_told 145 = .ok (.getfield 146, 3) := by decide +kernel
theorem dX8_told_148 : decode cX8_told 148 = .ok (.ireturn, 1) := by decide +kernel
theorem dX8_told_149 : decode cX8_told 149 = .ok (.ldc 82, 2) := by decide +kernel
theorem dX8_told_151 : decode cX8_told 151 = .ok (.ireturn, 1) := by decide +kernel
theorem dX8_rule_0 : decode cX8_rule 0 = .ok (.aload_n 0, 1) := by decide +kernel
theorem dX8_rule_1 : decode cX8_rule 1 = .ok (.iload_n 1, 1) := by decide +kernel
theorem dX8_rule_2 : decode cX8_rule 2 = .ok (.invokevirtual 161, 3) := by decide +kernel
theorem dX8_rule_5 : decode cX8_rule 5 = .ok (.ifCond .ne 6, 3) := by decide +kernel
theorem dX8_rule_8 : decode cX8_rule 8 = .ok (.ldc 165, 2) := by decide +kernel
theorem dX8_rule_10 : decode cX8_rule 10 = .ok (.ireturn, 1) := by decide +kernel
theorem dX8_rule_11 : decode cX8_rule 11 = .ok (.iload_n 2, 1) := by decide +kernel
theorem dX8_rule_12 : decode cX8_rule 12 = .ok (.tableswitch 64 0 3 #[32, 39, 46, 53], 32) := by decide +kernel
theorem dX8_rule_44 : decode cX8_rule 44 = .ok (.aload_n 0, 1) := by decide +kernel
theorem dX8_rule_45 : decode cX8_rule 45 = .ok (.getfield 7, 3) := by decide +kernel
theorem dX8_rule_48 : decode cX8_rule 48 = .ok (.iload_n 1, 1) := by decide +kernel
theorem dX8_rule_49 : decode cX8_rule 49 = .ok (.iaload, 1) := by decide +kernel
theorem dX8_rule_50 : decode cX8_rule 50 = .ok (.ireturn, 1) := by decide +kernel
theorem dX8_rule_51 : decode cX8_rule 51 = .ok (.aload_n 0, 1) := by decide +kernel
theorem dX8_rule_52 : decode cX8_rule 52 = .ok (.getfield 13, 3) := by decide +kernel
theorem dX8_rule_55 : decode cX8_rule 55 = .ok (.iload_n 1, 1) := by decide +kernel
theorem dX8_rule_56 : decode cX8_rule 56 = .ok (.iaload, 1) := by decide +kernel
theorem dX8_rule_57 : decode cX8_rule 57 = .ok (.ireturn, 1) := by decide +kernel
theorem dX8_rule_58 : decode cX8_rule 58 = .ok (.aload_n 0, 1) := by decide +kernel
theorem dX8_rule_59 : decode cX8_rule 59 = .ok (.getfield 16, 3) := by decide +kernel
theorem dX8_rule_62 : decode cX8_rule 62 = .ok (.iload_n 1, 1) := by decide +kernel
theorem dX8_rule_63 : decode cX8_rule 63 = .ok (.iaload, 1) := by decide +kernel
theorem dX8_rule_64 : decode cX8_rule 64 = .ok (.ireturn, 1) := by decide +kernel
theorem dX8_rule_65 : decode cX8_rule 65 = .ok (.aload_n 0, 1) := by decide +kernel
theorem dX8_rule_66 : decode cX8_rule 66 = .ok (.getfield 19, 3) := by decide +kernel
theorem dX8_rule_69 : decode cX8_rule 69 = .ok (.iconst 2, 1) := by decide +kernel
theorem dX8_rule_70 : decode cX8_rule 70 = .ok (.iaload, 1) := by decide +kernel
theorem dX8_rule_71 : decode cX8_rule 71 = .ok (.iload_n 1, 1) := by decide +kernel
theorem dX8_rule_72 : decode cX8_rule 72 = .ok (.ishr, 1) := by decide +kernel
theorem dX8_rule_73 : decode cX8_rule 73 = .ok (.iconst 1, 1) := by decide +kernel
theorem dX8_rule_74 : decode cX8_rule 74 = .ok (.iand, 1) := by decide +kernel
theorem dX8_rule_75 : decode cX8_rule 75 = .ok (.ireturn, 1) := by decide +kernel
theorem dX8_rule_76 : decode cX8_rule 76 = .ok (.ldc 82, 2) := by decide +kernel
theorem dX8_rule_78 : decode cX8_rule 78 = .ok (.ireturn, 1) := by decide +kernel
theorem dX8_remember_0 : decode cX8_remember 0 = .ok (.aload_n 0, 1) := by decide +kernel
theorem dX8_remember_1 : decode cX8_remember 1 = .ok (.getfield 146, 3) := by decide +kernel
theorem dX8_remember_4 : decode cX8_remember 4 = .ok (.bipush 20, 2) := by decide +kernel
theorem dX8_remember_6 : decode cX8_remember 6 = .ok (.if_icmp .ne 41, 3) := by decide +kernel
theorem dX8_remember_9 : decode cX8_remember 9 = .ok (.iconst 4, 1) := by decide +kernel
theorem dX8_remember_10 : decode cX8_remember 10 = .ok (.istore_n 1, 1) := by decide +kernel
theorem dX8_remember_11 : decode cX8_remember 11 = .ok (.iload_n 1, 1) := by decide +kernel
theorem dX8_remember_12 : decode cX8_remember 12 = .ok (.bipush 80, 2) := by decide +kernel
theorem dX8_remember_14 : decode cX8_remember 14 = .ok (.if_icmp .ge 23, 3) := by decide +kernel
theorem dX8_remember_17 : decode cX8_remember 17 = .ok (.aload_n 0, 1) := by decide +kernel
theorem dX8_remember_18 : decode cX8_remember 18 = .ok (.getfield 38, 3) := by decide +kernel
theorem dX8_remember_21 : decode cX8_remember 21 = .ok (.iload_n 1, 1) := by decide +kernel
theorem dX8_remember_22 : decode cX8_remember 22 = .ok (.iconst 4, 1) := by decide +kernel
theorem dX8_remember_23 : decode cX8_remember 23 = .ok (.isub, 1) := by decide +kernel
theorem dX8_remember_24 : decode cX8_remember 24 = .ok (.aload_n 0, 1) := by decide +kernel
theorem dX8_remember_25 : decode cX8_remember 25 = .ok (.getfield 38, 3) := by decide +kernel
theorem dX8_remember_28 : decode cX8_remember 28 = .ok (.iload_n 1, 1) := by decide +kernel
theorem dX8_remember_29 : decode cX8_remember 29 = .ok (.iaload, 1) := by decide +kernel
theorem dX8_remember_30 : decode cX8_remember 30 = .ok (.iastore, 1) := by decide +kernel
theorem dX8_remember_31 : decode cX8_remember 31 = .ok (.iinc 1 1, 3) := by decide +kernel
theorem dX8_remember_34 : decode cX8_remember 34 = .ok (.goto (-23), 3) := by decide +kernel
theorem dX8_remember_37 : decode cX8_remember 37 = .ok (.aload_n 0, 1) := by decide +kernel
theorem dX8_remember_38 : decode cX8_remember 38 = .ok (.dup, 1) := by decide +kernel
theorem dX8_remember_39 : decode cX8_remember 39 = .ok (.getfield 146, 3) := by decide +kernel
theorem dX8_remember_42 : decode cX8_remember 42 = .ok (.iconst 1, 1) := by decide +kernel
theorem dX8_remember_43 : decode cX8_remember 43 = .ok (.isub, 1) := by decide +kernel
theorem dX8_remember_44 : decode cX8_remember 44 = .ok (.putfield 146, 3) := by decide +kernel
theorem dX8_remember_47 : decode cX8_remember 47 = .ok (.iconst 0, 1) := by decide +kernel
theorem dX8_remember_48 : decode cX8_remember 48 = .ok (.istore_n 1, 1) := by decide +kernel
theorem dX8_remember_49 : decode cX8_remember 49 = .ok (.iload_n 1, 1) := by decide +kernel
theorem dX8_remember_50 : decode cX8_remember 50 = .ok (.iconst 4, 1) := by decide +kernel
theorem dX8_remember_51 : decode cX8_remember 51 = .ok (.if_icmp .ge 28, 3) := by decide +kernel
theorem dX8_remember_54 : decode cX8_remember 54 = .ok (.aload_n 0, 1) := by decide +kernel
theorem dX8_remember_55 : decode cX8_remember 55 = .ok (.getfield 38, 3) := by decide +kernel
theorem dX8_remember_58 : decode cX8_remember 58 = .ok (.iconst 4, 1) := by decide +kernel
theorem dX8_remember_59 : decode cX8_remember 59 = .ok (.aload_n 0, 1) := by decide +kernel
theorem dX8_remember_60 : decode cX8_remember 60 = .ok (.getfield 146, 3) := by decide +kernel
theorem dX8_remember_63 : decode cX8_remember 63 = .ok (.imul, 1) := by decide +kernel
theorem dX8_remember_64 : decode cX8_remember 64 = .ok (.iload_n 1, 1) := by decide +kernel
theorem dX8_remember_65 : decode cX8_remember 65 = .ok (.iadd, 1) := by decide +kernel
theorem dX8_remember_66 : decode cX8_remember 66 = .ok (.aload_n 0, 1) := by decide +kernel
theorem dX8_remember_67 : decode cX8_remember 67 = .ok (.getfield 19, 3) := by decide +kernel
theorem dX8_remember_70 : decode cX8_remember 70 = .ok (.iload_n 1, 1) := by decide +kernel
theorem dX8_remember_71 : decode cX8_remember 71 = .ok (.iaload, 1) := by decide +kernel
theorem dX8_remember_72 : decode cX8_remember 72 = .ok (.iastore, 1) := by decide +kernel
theorem dX8_remember_73 : decode cX8_remember 73 = .ok (.iinc 1 1, 3) := by decide +kernel
theorem dX8_remember_76 : decode cX8_remember 76 = .ok (.goto (-27), 3) := by decide +kernel
theorem dX8_remember_79 : decode cX8_remember 79 = .ok (.aload_n 0, 1) := by decide +kernel
theorem dX8_remember_80 : decode cX8_remember 80 = .ok (.dup, 1) := by decide +kernel
theorem dX8_remember_81 : decode cX8_remember 81 = .ok (.getfield 146, 3) := by decide +kernel
theorem dX8_remember_84 : decode cX8_remember 84 = .ok (.iconst 1, 1) := by decide +kernel
theorem dX8_remember_85 : decode cX8_remember 85 = .ok (.iadd, 1) := by decide +kernel
theorem dX8_remember_86 : decode cX8_remember 86 = .ok (.putfield 146, 3) := by decide +kernel
theorem dX8_remember_89 : decode cX8_remember 89 = .ok (.return_, 1) := by decide +kernel
theorem dX8_with_0 : decode cX8_with 0 = .ok (.iload_n 2, 1) := by decide +kernel
theorem dX8_with_1 : decode cX8_with 1 = .ok (.ifCond .eq 11, 3) := by decide +kernel
theorem dX8_with_4 : decode cX8_with 4 = .ok (.iload_n 0, 1) := by decide +kernel
theorem dX8_with_5 : decode cX8_with 5 = .ok (.iconst 1, 1) := by decide +kernel
theorem dX8_with_6 : decode cX8_with 6 = .ok (.iload_n 1, 1) := by decide +kernel
theorem dX8_with_7 : decode cX8_with 7 = .ok (.ishl, 1) := by decide +kernel
theorem dX8_with_8 : decode cX8_with 8 = .ok (.ior, 1) := by decide +kernel
theorem dX8_with_9 : decode cX8_with 9 = .ok (.goto 10, 3) := by decide +kernel
theorem dX8_with_12 : decode cX8_with 12 = .ok (.iload_n 0, 1) := by decide +kernel
theorem dX8_with_13 : decode cX8_with 13 = .ok (.iconst 1, 1) := by decide +kernel
theorem dX8_with_14 : decode cX8_with 14 = .ok (.iload_n 1, 1) := by decide +kernel
theorem dX8_with_15 : decode cX8_with 15 = .ok (.ishl, 1) := by decide +kernel
theorem dX8_with_16 : decode cX8_with 16 = .ok (.iconst (-1), 1) := by decide +kernel
theorem dX8_with_17 : decode cX8_with 17 = .ok (.ixor, 1) := by decide +kernel
theorem dX8_with_18 : decode cX8_with 18 = .ok (.iand, 1) := by decide +kernel
theorem dX8_with_19 : decode cX8_with 19 = .ok (.ireturn, 1) := by decide +kernel
theorem dX8_see_0 : decode cX8_see 0 = .ok (.aload_n 0, 1) := by decide +kernel
theorem dX8_see_1 : decode cX8_see 1 = .ok (.iload_n 1, 1) := by decide +kernel
theorem dX8_see_2 : decode cX8_see 2 = .ok (.invokevirtual 166, 3) := by decide +kernel
theorem dX8_see_5 : decode cX8_see 5 = .ok (.ifCond .ne 6, 3) := by decide +kernel
theorem dX8_see_8 : decode cX8_see 8 = .ok (.ldc 165, 2) := by decide +kernel
theorem dX8_see_10 : decode cX8_see 10 = .ok (.ireturn, 1) := by decide +kernel
theorem dX8_see_11 : decode cX8_see 11 = .ok (.aload_n 0, 1) := by decide +kernel
theorem dX8_see_12 : decode cX8_see 12 = .ok (.invokevirtual 169, 3) := by decide +kernel
theorem dX8_see_15 : decode cX8_see 15 = .ok (.aload_n 0, 1) := by decide +kernel
theorem dX8_see_16 : decode cX8_see 16 = .ok (.getfield 19, 3) := by decide +kernel
theorem dX8_see_19 : decode cX8_see 19 = .ok (.iconst 0, 1) := by decide +kernel
theorem dX8_see_20 : decode cX8_see 20 = .ok (.iaload, 1) := by decide +kernel
theorem dX8_see_21 : decode cX8_see 21 = .ok (.iload_n 1, 1) := by decide +kernel
theorem dX8_see_22 : decode cX8_see 22 = .ok (.ishr, 1) := by decide +kernel
theorem dX8_see_23 : decode cX8_see 23 = .ok (.iconst 1, 1) := by decide +kernel
theorem dX8_see_24 : decode cX8_see 24 = .ok (.iand, 1) := by decide +kernel
theorem dX8_see_25 : decode cX8_see 25 = .ok (.istore_n 3, 1) := by decide +kernel
theorem dX8_see_26 : decode cX8_see 26 = .ok (.aload_n 0, 1) := by decide +kernel
theorem dX8_see_27 : decode cX8_see 27 = .ok (.getfield 19, 3) := by decide +kernel
theorem dX8_see_30 : decode cX8_see 30 = .ok (.iconst 0, 1) := by decide +kernel
theorem dX8_see_31 : decode cX8_see 31 = .ok (.aload_n 0, 1) := by decide +kernel
theorem dX8_see_32 : decode cX8_see 32 = .ok (.getfield 19, 3) := by decide +kernel
theorem dX8_see_35 : decode cX8_see 35 = .ok (.iconst 0, 1) := by decide +kernel
theorem dX8_see_36 : decode cX8_see 36 = .ok (.iaload, 1) := by decide +kernel
theorem dX8_see_37 : decode cX8_see 37 = .ok (.iload_n 1, 1) := by decide +kernel
theorem dX8_see_38 : decode cX8_see 38 = .ok (.iload_n 2, 1) := by decide +kernel
theorem dX8_see_39 : decode cX8_see 39 = .ok (.invokestatic 172, 3) := by decide +kernel
theorem dX8_see_42 : decode cX8_see 42 = .ok (.iastore, 1) := by decide +kernel
theorem dX8_see_43 : decode cX8_see 43 = .ok (.iload_n 3, 1) := by decide +kernel
theorem dX8_see_44 : decode cX8_see 44 = .ok (.ireturn, 1) := by decide +kernel
theorem dX8_forbid_0 : decode cX8_forbid 0 = .ok (.aload_n 0, 1) := by decide +kernel
theorem dX8_forbid_1 : decode cX8_forbid 1 = .ok (.iload_n 1, 1) := by decide +kernel
theorem dX8_forbid_2 : decode cX8_forbid 2 = .ok (.invokevirtual 161, 3) := by decide +kernel
theorem dX8_forbid_5 : decode cX8_forbid 5 = .ok (.ifCond .ne 6, 3) := by decide +kernel
theorem dX8_forbid_8 : decode cX8_forbid 8 = .ok (.ldc 165, 2) := by decide +kernel
theorem dX8_forbid_10 : decode cX8_forbid 10 = .ok (.ireturn, 1) := by decide +kernel
theorem dX8_forbid_11 : decode cX8_forbid 11 = .ok (.aload_n 0, 1) := by decide +kernel
theorem dX8_forbid_12 : decode cX8_forbid 12 = .ok (.invokevirtual 169, 3) := by decide +kernel
theorem dX8_forbid_15 : decode cX8_forbid 15 = .ok (.aload_n 0, 1) := by decide +kernel
theorem dX8_forbid_16 : decode cX8_forbid 16 = .ok (.getfield 19, 3) := by decide +kernel
theorem dX8_forbid_19 : decode cX8_forbid 19 = .ok (.iconst 2, 1) := by decide +kernel
theorem dX8_forbid_20 : decode cX8_forbid 20 = .ok (.iaload, 1) := by decide +kernel
theorem dX8_forbid_21 : decode cX8_forbid 21 = .ok (.iload_n 1, 1) := by decide +kernel
theorem dX8_forbid_22 : decode cX8_forbid 22 = .ok (.ishr, 1) := by decide +kernel
theorem dX8_forbid_23 : decode cX8_forbid 23 = .ok (.iconst 1, 1) := by decide +kernel
theorem dX8_forbid_24 : decode cX8_forbid 24 = .ok (.iand, 1) := by decide +kernel
theorem dX8_forbid_25 : decode cX8_forbid 25 = .ok (.istore_n 3, 1) := by decide +kernel
theorem dX8_forbid_26 : decode cX8_forbid 26 = .ok (.aload_n 0, 1) := by decide +kernel
theorem dX8_forbid_27 : decode cX8_forbid 27 = .ok (.getfield 19, 3) := by decide +kernel
theorem dX8_forbid_30 : decode cX8_forbid 30 = .ok (.iconst 2, 1) := by decide +kernel
theorem dX8_forbid_31 : decode cX8_forbid 31 = .ok (.aload_n 0, 1) := by decide +kernel
theorem dX8_forbid_32 : decode cX8_forbid 32 = .ok (.getfield 19, 3) := by decide +kernel
theorem dX8_forbid_35 : decode cX8_forbid 35 = .ok (.iconst 2, 1) := by decide +kernel
theorem dX8_forbid_36 : decode cX8_forbid 36 = .ok (.iaload, 1) := by decide +kernel
theorem dX8_forbid_37 : decode cX8_forbid 37 = .ok (.iload_n 1, 1) := by decide +kernel
theorem dX8_forbid_38 : decode cX8_forbid 38 = .ok (.iload_n 2, 1) := by decide +kernel
theorem dX8_forbid_39 : decode cX8_forbid 39 = .ok (.invokestatic 172, 3) := by decide +kernel
theorem dX8_forbid_42 : decode cX8_forbid 42 = .ok (.iastore, 1) := by decide +kernel
theorem dX8_forbid_43 : decode cX8_forbid 43 = .ok (.iload_n 3, 1) := by decide +kernel
theorem dX8_forbid_44 : decode cX8_forbid 44 = .ok (.ireturn, 1) := by decide +kernel
theorem dX8_debateNow_0 : decode cX8_debateNow 0 = .ok (.aload_n 0, 1) := by decide +kernel
theorem dX8_debateNow_1 : decode cX8_debateNow 1 = .ok (.getfield 19, 3) := by decide +kernel
theorem dX8_debateNow_4 : decode cX8_debateNow 4 = .ok (.iconst 1, 1) := by decide +kernel
theorem dX8_debateNow_5 : decode cX8_debateNow 5 = .ok (.aload_n 0, 1) := by decide +kernel
theorem dX8_debateNow_6 : decode cX8_debateNow 6 = .ok (.aload_n 0, 1) := by decide +kernel
theorem dX8_debateNow_7 : decode cX8_debateNow 7 = .ok (.getfield 19, 3) := by decide +kernel
theorem dX8_debateNow_10 : decode cX8_debateNow 10 = .ok (.iconst 0, 1) := by decide +kernel
theorem dX8_debateNow_11 : decode cX8_debateNow 11 = .ok (.iaload, 1) := by decide +kernel
theorem dX8_debateNow_12 : decode cX8_debateNow 12 = .ok (.aload_n 0, 1) := by decide +kernel
theorem dX8_debateNow_13 : decode cX8_debateNow 13 = .ok (.getfield 19, 3) := by decide +kernel
theorem dX8_debateNow_16 : decode cX8_debateNow 16 = .ok (.iconst 1, 1) := by decide +kernel
theorem dX8_debateNow_17 : decode cX8_debateNow 17 = .ok (.iaload, 1) := by decide +kernel
theorem dX8_debateNow_18 : decode cX8_debateNow 18 = .ok (.ior, 1) := by decide +kernel
theorem dX8_debateNow_19 : decode cX8_debateNow 19 = .ok (.aload_n 0, 1) := by decide +kernel
theorem dX8_debateNow_20 : decode cX8_debateNow 20 = .ok (.invokevirtual 149, 3) := by decide +kernel
theorem dX8_debateNow_23 : decode cX8_debateNow 23 = .ok (.invokevirtual 152, 3) := by decide +kernel
theorem dX8_debateNow_26 : decode cX8_debateNow 26 = .ok (.iastore, 1) := by decide +kernel
theorem dX8_debateNow_27 : decode cX8_debateNow 27 = .ok (.aload_n 0, 1) := by decide +kernel
theorem dX8_debateNow_28 : decode cX8_debateNow 28 = .ok (.getfield 19, 3) := by decide +kernel
theorem dX8_debateNow_31 : decode cX8_debateNow 31 = .ok (.iconst 3, 1) := by decide +kernel
theorem dX8_debateNow_32 : decode cX8_debateNow 32 = .ok (.dup2, 1) := by decide +kernel
theorem dX8_debateNow_33 : decode cX8_debateNow 33 = .ok (.iaload, 1) := by decide +kernel
theorem dX8_debateNow_34 : decode cX8_debateNow 34 = .ok (.iconst 1, 1) := by decide +kernel
theorem dX8_debateNow_35 : decode cX8_debateNow 35 = .ok (.iadd, 1) := by decide +kernel
theorem dX8_debateNow_36 : decode cX8_debateNow 36 = .ok (.iastore, 1) := by decide +kernel
theorem dX8_debateNow_37 : decode cX8_debateNow 37 = .ok (.return_, 1) := by decide +kernel
theorem dX8_debate_0 : decode cX8_debate 0 = .ok (.aload_n 0, 1) := by decide +kernel
theorem dX8_debate_1 : decode cX8_debate 1 = .ok (.getfield 70, 3) := by decide +kernel
theorem dX8_debate_4 : decode cX8_debate 4 = .ok (.ifCond .ne 6, 3) := by decide +kernel
theorem dX8_debate_7 : decode cX8_debate 7 = .ok (.ldc 176, 2) := by decide +kernel
theorem dX8_debate_9 : decode cX8_debate 9 = .ok (.ireturn, 1) := by decide +kernel
theorem dX8_debate_10 : decode cX8_debate 10 = .ok (.aload_n 0, 1) := by decide +kernel
theorem dX8_debate_11 : decode cX8_debate 11 = .ok (.getfield 19, 3) := by decide +kernel
theorem dX8_debate_14 : decode cX8_debate 14 = .ok (.iconst 3, 1) := by decide +kernel
theorem dX8_debate_15 : decode cX8_debate 15 = .ok (.iaload, 1) := by decide +kernel
theorem dX8_debate_16 : decode cX8_debate 16 = .ok (.sipush 9000, 3) := by decide +kernel
theorem dX8_debate_19 : decode cX8_debate 19 = .ok (.if_icmp .le 6, 3) := by decide +kernel
theorem dX8_debate_22 : decode cX8_debate 22 = .ok (.ldc 86, 2) := by decide +kernel
theorem dX8_debate_24 : decode cX8_debate 24 = .ok (.ireturn, 1) := by decide +kernel
theorem dX8_debate_25 : decode cX8_debate 25 = .ok (.aload_n 0, 1) := by decide +kernel
theorem dX8_debate_26 : decode cX8_debate 26 = .ok (.invokevirtual 169, 3) := by decide +kernel
theorem dX8_debate_29 : decode cX8_debate 29 = .ok (.aload_n 0, 1) := by decide +kernel
theorem dX8_debate_30 : decode cX8_debate 30 = .ok (.invokevirtual 177, 3) := by decide +kernel
theorem dX8_debate_33 : decode cX8_debate 33 = .ok (.aload_n 0, 1) := by decide +kernel
theorem dX8_debate_34 : decode cX8_debate 34 = .ok (.getfield 19, 3) := by decide +kernel
theorem dX8_debate_37 : decode cX8_debate 37 = .ok (.iconst 1, 1) := by decide +kernel
theorem dX8_debate_38 : decode cX8_debate 38 = .ok (.iaload, 1) := by decide +kernel
theorem dX8_debate_39 : decode cX8_debate 39 = .ok (.ireturn, 1) := by decide +kernel
theorem dX8_drop_0 : decode cX8_drop 0 = .ok (.aload_n 0, 1) := by decide +kernel
theorem dX8_drop_1 : decode cX8_drop 1 = .ok (.getfield 70, 3) := by decide +kernel
theorem dX8_drop_4 : decode cX8_drop 4 = .ok (.ifCond .ne 6, 3) := by decide +kernel
theorem dX8_drop_7 : decode cX8_drop 7 = .ok (.ldc 176, 2) := by decide +kernel
theorem dX8_drop_9 : decode cX8_drop 9 = .ok (.ireturn, 1) := by decide +kernel
theorem dX8_drop_10 : decode cX8_drop 10 = .ok (.aload_n 0, 1) := by decide +kernel
theorem dX8_drop_11 : decode cX8_drop 11 = .ok (.invokevirtual 169, 3) := by decide +kernel
theorem dX8_drop_14 : decode cX8_drop 14 = .ok (.aload_n 0, 1) := by decide +kernel
theorem dX8_drop_15 : decode cX8_drop 15 = .ok (.getfield 19, 3) := by decide +kernel
theorem dX8_drop_18 : decode cX8_drop 18 = .ok (.iconst 1, 1) := by decide +kernel
theorem dX8_drop_19 : decode cX8_drop 19 = .ok (.iaload, 1) := by decide +kernel
theorem dX8_drop_20 : decode cX8_drop 20 = .ok (.istore_n 1, 1) := by decide +kernel
theorem dX8_drop_21 : decode cX8_drop 21 = .ok (.aload_n 0, 1) := by decide +kernel
theorem dX8_drop_22 : decode cX8_drop 22 = .ok (.getfield 19, 3) := by decide +kernel
theorem dX8_drop_25 : decode cX8_drop 25 = .ok (.iconst 1, 1) := by decide +kernel
theorem dX8_drop_26 : decode cX8_drop 26 = .ok (.iconst 0, 1) := by decide +kernel
theorem dX8_drop_27 : decode cX8_drop 27 = .ok (.iastore, 1) := by decide +kernel
theorem dX8_drop_28 : decode cX8_drop 28 = .ok (.iload_n 1, 1) := by decide +kernel
theorem dX8_drop_29 : decode cX8_drop 29 = .ok (.ireturn, 1) := by decide +kernel
theorem dX8_draw_0 : decode cX8_draw 0 = .ok (.aload_n 0, 1) := by decide +kernel
theorem dX8_draw_1 : decode cX8_draw 1 = .ok (.aload_n 0, 1) := by decide +kernel
theorem dX8_draw_2 : decode cX8_draw 2 = .ok (.getfield 180, 3) := by decide +kernel
theorem dX8_draw_5 : decode cX8_draw 5 = .ok (.i2l, 1) := by decide +kernel
theorem dX8_draw_6 : decode cX8_draw 6 = .ok (.ldc2_w 183, 3) := by decide +kernel
theorem dX8_draw_9 : decode cX8_draw 9 = .ok (.lmul, 1) := by decide +kernel
theorem dX8_draw_10 : decode cX8_draw 10 = .ok (.ldc2_w 185, 3) := by decide +kernel
theorem dX8_draw_13 : decode cX8_draw 13 = .ok (.ladd, 1) := by decide +kernel
theorem dX8_draw_14 : decode cX8_draw 14 = .ok (.ldc2_w 187, 3) := by decide +kernel
theorem dX8_draw_17 : decode cX8_draw 17 = .ok (.lrem, 1) := by decide +kernel
theorem dX8_draw_18 : decode cX8_draw 18 = .ok (.l2i, 1) := by decide +kernel
theorem dX8_draw_19 : decode cX8_draw 19 = .ok (.putfield 180, 3) := by decide +kernel
theorem dX8_draw_22 : decode cX8_draw 22 = .ok (.aload_n 0, 1) := by decide +kernel
theorem dX8_draw_23 : decode cX8_draw 23 = .ok (.getfield 180, 3) := by decide +kernel
theorem dX8_draw_26 : decode cX8_draw 26 = .ok (.ldc 189, 2) := by decide +kernel
theorem dX8_draw_28 : decode cX8_draw 28 = .ok (.idiv, 1) := by decide +kernel
theorem dX8_draw_29 : decode cX8_draw 29 = .ok (.iload_n 1, 1) := by decide +kernel
theorem dX8_draw_30 : decode cX8_draw 30 = .ok (.irem, 1) := by decide +kernel
theorem dX8_draw_31 : decode cX8_draw 31 = .ok (.ireturn, 1) := by decide +kernel
theorem dX8_drift_0 : decode cX8_drift 0 = .ok (.iload_n 1, 1) := by decide +kernel
theorem dX8_drift_1 : decode cX8_drift 1 = .ok (.i2l, 1) := by decide +kernel
theorem dX8_drift_2 : decode cX8_drift 2 = .ok (.lconst 1, 1) := by decide +kernel
theorem dX8_drift_3 : decode cX8_drift 3 = .ok (.ldc2_w 190, 3) := by decide +kernel
theorem dX8_drift_6 : decode cX8_drift 6 = .ok (.invokestatic 73, 3) := by decide +kernel
theorem dX8_drift_9 : decode cX8_drift 9 = .ok (.ifCond .ne 6, 3) := by decide +kernel
theorem dX8_drift_12 : decode cX8_drift 12 = .ok (.ldc 82, 2) := by decide +kernel
theorem dX8_drift_14 : decode cX8_drift 14 = .ok (.ireturn, 1) := by decide +kernel
theorem dX8_drift_15 : decode cX8_drift 15 = .ok (.aload_n 0, 1) := by decide +kernel
theorem dX8_drift_16 : decode cX8_drift 16 = .ok (.getfield 70, 3) := by decide +kernel
theorem dX8_drift_19 : decode cX8_drift 19 = .ok (.ifCond .ne 6, 3) := by decide +kernel
theorem dX8_drift_22 : decode cX8_drift 22 = .ok (.ldc 176, 2) := by decide +kernel
theorem dX8_drift_24 : decode cX8_drift 24 = .ok (.ireturn, 1) := by decide +kernel
theorem dX8_drift_25 : decode cX8_drift 25 = .ok (.aload_n 0, 1) := by decide +kernel
theorem dX8_drift_26 : decode cX8_drift 26 = .ok (.getfield 19, 3) := by decide +kernel
theorem dX8_drift_29 : decode cX8_drift 29 = .ok (.iconst 3, 1) := by decide +kernel
theorem dX8_drift_30 : decode cX8_drift 30 = .ok (.iaload, 1) := by decide +kernel
theorem dX8_drift_31 : decode cX8_drift 31 = .ok (.sipush 9000, 3) := by decide +kernel
theorem dX8_drift_34 : decode cX8_drift 34 = .ok (.if_icmp .le 6, 3) := by decide +kernel
theorem dX8_drift_37 : decode cX8_drift 37 = .ok (.ldc 86, 2) := by decide +kernel
theorem dX8_drift_39 : decode cX8_drift 39 = .ok (.ireturn, 1) := by decide +kernel
theorem dX8_drift_40 : decode cX8_drift 40 = .ok (.aload_n 0, 1) := by decide +kernel
theorem dX8_drift_41 : decode cX8_drift 41 = .ok (.invokevirtual 169, 3) := by decide +kernel
theorem dX8_drift_44 : decode cX8_drift 44 = .ok (.iconst 0, 1) := by decide +kernel
theorem dX8_drift_45 : decode cX8_drift 45 = .ok (.istore_n 2, 1) := by decide +kernel
theorem dX8_drift_46 : decode cX8_drift 46 = .ok (.iload_n 2, 1) := by decide +kernel
theorem dX8_drift_47 : decode cX8_drift 47 = .ok (.iload_n 1, 1) := by decide +kernel
theorem dX8_drift_48 : decode cX8_drift 48 = .ok (.if_icmp .ge 57, 3) := by decide +kernel
theorem dX8_drift_51 : decode cX8_drift 51 = .ok (.aload_n 0, 1) := by decide +kernel
theorem dX8_drift_52 : decode cX8_drift 52 = .ok (.iconst 2, 1) := by decide +kernel
theorem dX8_drift_53 : decode cX8_drift 53 = .ok (.aload_n 0, 1) := by decide +kernel
theorem dX8_drift_54 : decode cX8_drift 54 = .ok (.getfield 70, 3) := by decide +kernel
theorem dX8_drift_57 : decode cX8_drift 57 = .ok (.imul, 1) := by decide +kernel
theorem dX8_drift_58 : decode cX8_drift 58 = .ok (.invokevirtual 192, 3) := by decide +kernel
theorem dX8_drift_61 : decode cX8_drift 61 = .ok (.istore_n 3, 1) := by decide +kernel
theorem dX8_drift_62 : decode cX8_drift 62 = .ok (.aload_n 0, 1) := by decide +kernel
theorem dX8_drift_63 : decode cX8_drift 63 = .ok (.getfield 19, 3) := by decide +kernel
theorem dX8_drift_66 : decode cX8_drift 66 = .ok (.iconst 0, 1) := by decide +kernel
theorem dX8_drift_67 : decode cX8_drift 67 = .ok (.aload_n 0, 1) := by decide +kernel
theorem dX8_drift_68 : decode cX8_drift 68 = .ok (.getfield 19, 3) := by decide +kernel
theorem dX8_drift_71 : decode cX8_drift 71 = .ok (.iconst 0, 1) := by decide +kernel
theorem dX8_drift_72 : decode cX8_drift 72 = .ok (.iaload, 1) := by decide +kernel
theorem dX8_drift_73 : decode cX8_drift 73 = .ok (.iload_n 3, 1) := by decide +kernel
theorem dX8_drift_74 : decode cX8_drift 74 = .ok (.iconst 1, 1) := by decide +kernel
theorem dX8_drift_75 : decode cX8_drift 75 = .ok (.invokestatic 172, 3) := by decide +kernel
theorem dX8_drift_78 : decode cX8_drift 78 = .ok (.iload_n 3, 1) := by decide +kernel
theorem dX8_drift_79 : decode cX8_drift 79 = .ok (.invokestatic 195, 3) := by decide +kernel
theorem dX8_drift_82 : decode cX8_drift 82 = .ok (.iconst 0, 1) := by decide +kernel
theorem dX8_drift_83 : decode cX8_drift 83 = .ok (.invokestatic 172, 3) := by decide +kernel
theorem dX8_drift_86 : decode cX8_drift 86 = .ok (.iastore, 1) := by decide +kernel
theorem dX8_drift_87 : decode cX8_drift 87 = .ok (.aload_n 0, 1) := by decide +kernel
theorem dX8_drift_88 : decode cX8_drift 88 = .ok (.iconst 4, 1) := by decide +kernel
theorem dX8_drift_89 : decode cX8_drift 89 = .ok (.invokevirtual 192, 3) := by decide +kernel
theorem dX8_drift_92 : decode cX8_drift 92 = .ok (.ifCond .ne 7, 3) := by decide +kernel
theorem dX8_drift_95 : decode cX8_drift 95 = .ok (.aload_n 0, 1) := by decide +kernel
theorem dX8_drift_96 : decode cX8_drift 96 = .ok (.invokevirtual 177, 3) := by decide +kernel
theorem dX8_drift_99 : decode cX8_drift 99 = .ok (.iinc 2 1, 3) := by decide +kernel
theorem dX8_drift_102 : decode cX8_drift 102 = .ok (.goto (-56), 3) := by decide +kernel
theorem dX8_drift_105 : decode cX8_drift 105 = .ok (.aload_n 0, 1) := by decide +kernel
theorem dX8_drift_106 : decode cX8_drift 106 = .ok (.getfield 19, 3) := by decide +kernel
theorem dX8_drift_109 : decode cX8_drift 109 = .ok (.iconst 0, 1) := by decide +kernel
theorem dX8_drift_110 : decode cX8_drift 110 = .ok (.iaload, 1) := by decide +kernel
theorem dX8_drift_111 : decode cX8_drift 111 = .ok (.ireturn, 1) := by decide +kernel
theorem dX8_undo_0 : decode cX8_undo 0 = .ok (.aload_n 0, 1) := by decide +kernel
theorem dX8_undo_1 : decode cX8_undo 1 = .ok (.getfield 146, 3) := by decide +kernel
theorem dX8_undo_4 : decode cX8_undo 4 = .ok (.ifCond .ne 6, 3) := by decide +kernel
theorem dX8_undo_7 : decode cX8_undo 7 = .ok (.ldc 176, 2) := by decide +kernel
theorem dX8_undo_9 : decode cX8_undo 9 = .ok (.ireturn, 1) := by decide +kernel
theorem dX8_undo_10 : decode cX8_undo 10 = .ok (.aload_n 0, 1) := by decide +kernel
theorem dX8_undo_11 : decode cX8_undo 11 = .ok (.dup, 1) := by decide +kernel
theorem dX8_undo_12 : decode cX8_undo 12 = .ok (.getfield 146, 3) := by decide +kernel
theorem dX8_undo_15 : decode cX8_undo 15 = .ok (.iconst 1, 1) := by decide +kernel
theorem dX8_undo_16 : decode cX8_undo 16 = .ok (.isub, 1) := by decide +kernel
theorem dX8_undo_17 : decode cX8_undo 17 = .ok (.putfield 146, 3) := by decide +kernel
theorem dX8_undo_20 : decode cX8_undo 20 = .ok (.iconst 0, 1) := by decide +kernel
theorem dX8_undo_21 : decode cX8_undo 21 = .ok (.istore_n 1, 1) := by decide +kernel
theorem dX8_undo_22 : decode cX8_undo 22 = .ok (.iload_n 1, 1) := by decide +kernel
theorem dX8_undo_23 : decode cX8_undo 23 = .ok (.iconst 4, 1) := by decide +kernel
theorem dX8_undo_24 : decode cX8_undo 24 = .ok (.if_icmp .ge 28, 3) := by decide +kernel
theorem dX8_undo_27 : decode cX8_undo 27 = .ok (.aload_n 0, 1) := by decide +kernel
theorem dX8_undo_28 : decode cX8_undo 28 = .ok (.getfield 19, 3) := by decide +kernel
theorem dX8_undo_31 : decode cX8_undo 31 = .ok (.iload_n 1, 1) := by decide +kernel
theorem dX8_undo_32 : decode cX8_undo 32 = .ok (.aload_n 0, 1) := by decide +kernel
theorem dX8_undo_33 : decode cX8_undo 33 = .ok (.getfield 38, 3) := by decide +kernel
theorem dX8_undo_36 : decode cX8_undo 36 = .ok (.iconst 4, 1) := by decide +kernel
theorem dX8_undo_37 : decode cX8_undo 37 = .ok (.aload_n 0, 1) := by decide +kernel
theorem dX8_undo_38 : decode cX8_undo 38 = .ok (.getfield 146, 3) := by decide +kernel
theorem dX8_undo_41 : decode cX8_undo 41 = .ok (.imul, 1) := by decide +kernel
theorem dX8_undo_42 : decode cX8_undo 42 = .ok (.iload_n 1, 1) := by decide +kernel
theorem dX8_undo_43 : decode cX8_undo 43 = .ok (.iadd, 1) := by decide +kernel
theorem dX8_undo_44 : decode cX8_undo 44 = .ok (.iaload, 1) := by decide +kernel
theorem dX8_undo_45 : decode cX8_undo 45 = .ok (.iastore, 1) := by decide +kernel
theorem dX8_undo_46 : decode cX8_undo 46 = .ok (.iinc 1 1, 3) := by decide +kernel
theorem dX8_undo_49 : decode cX8_undo 49 = .ok (.goto (-27), 3) := by decide +kernel
theorem dX8_undo_52 : decode cX8_undo 52 = .ok (.aload_n 0, 1) := by decide +kernel
theorem dX8_undo_53 : decode cX8_undo 53 = .ok (.getfield 146, 3) := by decide +kernel
theorem dX8_undo_56 : decode cX8_undo 56 = .ok (.ireturn, 1) := by decide +kernel
theorem dX8_follows_0 : decode cX8_follows 0 = .ok (.aload_n 0, 1) := by decide +kernel
theorem dX8_follows_1 : decode cX8_follows 1 = .ok (.iload_n 1, 1) := by decide +kernel
theorem dX8_follows_2 : decode cX8_follows 2 = .ok (.invokevirtual 198, 3) := by decide +kernel
theorem dX8_follows_5 : decode cX8_follows 5 = .ok (.ifCond .eq 15, 3) := by decide +kernel
theorem dX8_follows_8 : decode cX8_follows 8 = .ok (.aload_n 0, 1) := by decide +kernel
theorem dX8_follows_9 : decode cX8_follows 9 = .ok (.iload_n 1, 1) := by decide +kernel
theorem dX8_follows_10 : decode cX8_follows 10 = .ok (.aload_n 0, 1) := by decide +kernel
theorem dX8_follows_11 : decode cX8_follows 11 = .ok (.invokevirtual 149, 3) := by decide +kernel
theorem dX8_follows_14 : decode cX8_follows 14 = .ok (.invokevirtual 152, 3) := by decide +kernel
theorem dX8_follows_17 : decode cX8_follows 17 = .ok (.goto 5, 3) := by decide +kernel
theorem dX8_follows_20 : decode cX8_follows 20 = .ok (.ldc 165, 2) := by decide +kernel
theorem dX8_follows_22 : decode cX8_follows 22 = .ok (.ireturn, 1) := by decide +kernel
theorem dX8_proof_0 : decode cX8_proof 0 = .ok (.aload_n 0, 1) := by decide +kernel
theorem dX8_proof_1 : decode cX8_proof 1 = .ok (.iload_n 1, 1) := by decide +kernel
theorem dX8_proof_2 : decode cX8_proof 2 = .ok (.invokevirtual 166, 3) := by decide +kernel
theorem dX8_proof_5 : decode cX8_proof 5 = .ok (.ifCond .ne 6, 3) := by decide +kernel
theorem dX8_proof_8 : decode cX8_proof 8 = .ok (.ldc 165, 2) := by decide +kernel
theorem dX8_proof_10 : decode cX8_proof 10 = .ok (.ireturn, 1) := by decide +kernel
theorem dX8_proof_11 : decode cX8_proof 11 = .ok (.iload_n 2, 1) := by decide +kernel
theorem dX8_proof_12 : decode cX8_proof 12 = .ok (.i2l, 1) := by decide +kernel
theorem dX8_proof_13 : decode cX8_proof 13 = .ok (.lconst 0, 1) := by decide +kernel
theorem dX8_proof_14 : decode cX8_proof 14 = .ok (.lconst 1, 1) := by decide +kernel
theorem dX8_proof_15 : decode cX8_proof 15 = .ok (.invokestatic 73, 3) := by decide +kernel
theorem dX8_proof_18 : decode cX8_proof 18 = .ok (.ifCond .ne 6, 3) := by decide +kernel
theorem dX8_proof_21 : decode cX8_proof 21 = .ok (.ldc 82, 2) := by decide +kernel
theorem dX8_proof_23 : decode cX8_proof 23 = .ok (.ireturn, 1) := by decide +kernel
theorem dX8_proof_24 : decode cX8_proof 24 = .ok (.iconst (-1), 1) := by decide +kernel
theorem dX8_proof_25 : decode cX8_proof 25 = .ok (.istore_n 3, 1) := by decide +kernel
theorem dX8_proof_26 : decode cX8_proof 26 = .ok (.iconst 0, 1) := by decide +kernel
theorem dX8_proof_27 : decode cX8_proof 27 = .ok (.istore 4, 2) := by decide +kernel
theorem dX8_proof_29 : decode cX8_proof 29 = .ok (.iload 4, 2) := by decide +kernel
theorem dX8_proof_31 : decode cX8_proof 31 = .ok (.iconst 1, 1) := by decide +kernel
theorem dX8_proof_32 : decode cX8_proof 32 = .ok (.aload_n 0, 1) := by decide +kernel
theorem dX8_proof_33 : decode cX8_proof 33 = .ok (.getfield 77, 3) := by decide +kernel
theorem dX8_proof_36 : decode cX8_proof 36 = .ok (.ishl, 1) := by decide +kernel
theorem dX8_proof_37 : decode cX8_proof 37 = .ok (.if_icmp .ge 75, 3) := by decide +kernel
theorem dX8_proof_40 : decode cX8_proof 40 = .ok (.iload 4, 2) := by decide +kernel
theorem dX8_proof_42 : decode cX8_proof 42 = .ok (.aload_n 0, 1) := by decide +kernel
theorem dX8_proof_43 : decode cX8_proof 43 = .ok (.getfield 19, 3) := by decide +kernel
theorem dX8_proof_46 : decode cX8_proof 46 = .ok (.iconst 2, 1) := by decide +kernel
theorem dX8_proof_47 : decode cX8_proof 47 = .ok (.iaload, 1) := by decide +kernel
theorem dX8_proof_48 : decode cX8_proof 48 = .ok (.iand, 1) := by decide +kernel
theorem dX8_proof_49 : decode cX8_proof 49 = .ok (.ifCond .ne 23, 3) := by decide +kernel
theorem dX8_proof_52 : decode cX8_proof 52 = .ok (.iload_n 3, 1) := by decide +kernel
theorem dX8_proof_53 : decode cX8_proof 53 = .ok (.ifCond .lt 15, 3) := by decide +kernel
theorem dX8_proof_56 : decode cX8_proof 56 = .ok (.iload 4, 2) := by decide +kernel
theorem dX8_proof_58 : decode cX8_proof 58 = .ok (.invokestatic 201, 3) := by decide +kernel
theorem dX8_proof_61 : decode cX8_proof 61 = .ok (.iload_n 3, 1) := by decide +kernel
theorem dX8_proof_62 : decode cX8_proof 62 = .ok (.invokestatic 201, 3) := by decide +kernel
theorem dX8_proof_65 : decode cX8_proof 65 = .ok (.if_icmp .ge 7, 3) := by decide +kernel
theorem dX8_proof_68 : decode cX8_proof 68 = .ok (.iconst 1, 1) := by decide +kernel
theorem dX8_proof_69 : decode cX8_proof 69 = .ok (.goto 4, 3) := by decide +kernel
theorem dX8_proof_72 : decode cX8_proof 72 = .ok (.iconst 0, 1) := by decide +kernel
theorem dX8_proof_73 : decode cX8_proof 73 = .ok (.istore 5, 2) := by decide +kernel
theorem dX8_proof_75 : decode cX8_proof 75 = .ok (.iload 5, 2) := by decide +kernel
theorem dX8_proof_77 : decode cX8_proof 77 = .ok (.ifCond .eq 27, 3) := by decide +kernel
theorem dX8_proof_80 : decode cX8_proof 80 = .ok (.aload_n 0, 1) := by decide +kernel
theorem dX8_proof_81 : decode cX8_proof 81 = .ok (.aload_n 0, 1) := by decide +kernel
theorem dX8_proof_82 : decode cX8_proof 82 = .ok (.getfield 19, 3) := by decide +kernel
theorem dX8_proof_85 : decode cX8_proof 85 = .ok (.iconst 0, 1) := by decide +kernel
theorem dX8_proof_86 : decode cX8_proof 86 = .ok (.iaload, 1) := by decide +kernel
theorem dX8_proof_87 : decode cX8_proof 87 = .ok (.iload 4, 2) := by decide +kernel
theorem dX8_proof_89 : decode cX8_proof 89 = .ok (.invokevirtual 152, 3) := by decide +kernel
theorem dX8_proof_92 : decode cX8_proof 92 = .ok (.iload_n 1, 1) := by decide +kernel
theorem dX8_proof_93 : decode cX8_proof 93 = .ok (.invokestatic 114, 3) := by decide +kernel
theorem dX8_proof_96 : decode cX8_proof 96 = .ok (.ifCond .eq 8, 3) := by decide +kernel
theorem dX8_proof_99 : decode cX8_proof 99 = .ok (.iload 4, 2) := by decide +kernel
theorem dX8_proof_101 : decode cX8_proof 101 = .ok (.goto 4, 3) := by decide +kernel
theorem dX8_proof_104 : decode cX8_proof 104 = .ok (.iload_n 3, 1) := by decide +kernel
theorem dX8_proof_105 : decode cX8_proof 105 = .ok (.istore_n 3, 1) := by decide +kernel
theorem dX8_proof_106 : decode cX8_proof 106 = .ok (.iinc 4 1, 3) := by decide +kernel
theorem dX8_proof_109 : decode cX8_proof 109 = .ok (.goto (-80), 3) := by decide +kernel
theorem dX8_proof_112 : decode cX8_proof 112 = .ok (.iload_n 3, 1) := by decide +kernel
theorem dX8_proof_113 : decode cX8_proof 113 = .ok (.ifCond .lt 8, 3) := by decide +kernel
theorem dX8_proof_116 : decode cX8_proof 116 = .ok (.iload_n 2, 1) := by decide +kernel
theorem dX8_proof_117 : decode cX8_proof 117 = .ok (.iconst 1, 1) := by decide +kernel
theorem dX8_proof_118 : decode cX8_proof 118 = .ok (.if_icmp .ne 7, 3) := by decide +kernel
theorem dX8_proof_121 : decode cX8_proof 121 = .ok (.iload_n 3, 1) := by decide +kernel
theorem dX8_proof_122 : decode cX8_proof 122 = .ok (.goto 7, 3) := by decide +kernel
theorem dX8_proof_125 : decode cX8_proof 125 = .ok (.iload_n 3, 1) := by decide +kernel
theorem dX8_proof_126 : decode cX8_proof 126 = .ok (.invokestatic 201, 3) := by decide +kernel
theorem dX8_proof_129 : decode cX8_proof 129 = .ok (.ireturn, 1) := by decide +kernel
theorem dX8_costOf_0 : decode cX8_costOf 0 = .ok (.iconst 0, 1) := by decide +kernel
theorem dX8_costOf_1 : decode cX8_costOf 1 = .ok (.istore_n 2, 1) := by decide +kernel
theorem dX8_costOf_2 : decode cX8_costOf 2 = .ok (.iconst 0, 1) := by decide +kernel
theorem dX8_costOf_3 : decode cX8_costOf 3 = .ok (.istore_n 3, 1) := by decide +kernel
theorem dX8_costOf_4 : decode cX8_costOf 4 = .ok (.iload_n 3, 1) := by decide +kernel
theorem dX8_costOf_5 : decode cX8_costOf 5 = .ok (.aload_n 0, 1) := by decide +kernel
theorem dX8_costOf_6 : decode cX8_costOf 6 = .ok (.getfield 77, 3) := by decide +kernel
theorem dX8_costOf_9 : decode cX8_costOf 9 = .ok (.if_icmp .ge 30, 3) := by decide +kernel
theorem dX8_costOf_12 : decode cX8_costOf 12 = .ok (.iload_n 2, 1) := by decide +kernel
theorem dX8_costOf_13 : decode cX8_costOf 13 = .ok (.iload_n 1, 1) := by decide +kernel
theorem dX8_costOf_14 : decode cX8_costOf 14 = .ok (.iload_n 3, 1) := by decide +kernel
theorem dX8_costOf_15 : decode cX8_costOf 15 = .ok (.invokestatic 114, 3) := by decide +kernel
theorem dX8_costOf_18 : decode cX8_costOf 18 = .ok (.ifCond .eq 12, 3) := by decide +kernel
theorem dX8_costOf_21 : decode cX8_costOf 21 = .ok (.aload_n 0, 1) := by decide +kernel
theorem dX8_costOf_22 : decode cX8_costOf 22 = .ok (.getfield 7, 3) := by decide +kernel
theorem dX8_costOf_25 : decode cX8_costOf 25 = .ok (.iload_n 3, 1) := by decide +kernel
theorem dX8_costOf_26 : decode cX8_costOf 26 = .ok (.iaload, 1) := by decide +kernel
theorem dX8_costOf_27 : decode cX8_costOf 27 = .ok (.goto 4, 3) := by decide +kernel
theorem dX8_costOf_30 : decode cX8_costOf 30 = .ok (.iconst 0, 1) := by decide +kernel
theorem dX8_costOf_31 : decode cX8_costOf 31 = .ok (.iadd, 1) := by decide +kernel
theorem dX8_costOf_32 : decode cX8_costOf 32 = .ok (.istore_n 2, 1) := by decide +kernel
theorem dX8_costOf_33 : decode cX8_costOf 33 = .ok (.iinc 3 1, 3) := by decide +kernel
theorem dX8_costOf_36 : decode cX8_costOf 36 = .ok (.goto (-32), 3) := by decide +kernel
theorem dX8_costOf_39 : decode cX8_costOf 39 = .ok (.iload_n 2, 1) := by decide +kernel
theorem dX8_costOf_40 : decode cX8_costOf 40 = .ok (.ireturn, 1) := by decide +kernel
theorem dX8_giveUp_0 : decode cX8_giveUp 0 = .ok (.iload_n 1, 1) := by decide +kernel
theorem dX8_giveUp_1 : decode cX8_giveUp 1 = .ok (.i2l, 1) := by decide +kernel
theorem dX8_giveUp_2 : decode cX8_giveUp 2 = .ok (.lconst 0, 1) := by decide +kernel
theorem dX8_giveUp_3 : decode cX8_giveUp 3 = .ok (.lconst 1, 1) := by decide +kernel
theorem dX8_giveUp_4 : decode cX8_giveUp 4 = .ok (.invokestatic 73, 3) := by decide +kernel
theorem dX8_giveUp_7 : decode cX8_giveUp 7 = .ok (.ifCond .ne 6, 3) := by decide +kernel
theorem dX8_giveUp_10 : decode cX8_giveUp 10 = .ok (.ldc 82, 2) := by decide +kernel
theorem dX8_giveUp_12 : decode cX8_giveUp 12 = .ok (.ireturn, 1) := by decide +kernel
theorem dX8_giveUp_13 : decode cX8_giveUp 13 = .ok (.iconst (-1), 1) := by decide +kernel
theorem dX8_giveUp_14 : decode cX8_giveUp 14 = .ok (.istore_n 2, 1) := by decide +kernel
theorem dX8_giveUp_15 : decode cX8_giveUp 15 = .ok (.ldc 204, 2) := by decide +kernel
theorem dX8_giveUp_17 : decode cX8_giveUp 17 = .ok (.istore_n 3, 1) := by decide +kernel
theorem dX8_giveUp_18 : decode cX8_giveUp 18 = .ok (.iconst 0, 1) := by decide +kernel
theorem dX8_giveUp_19 : decode cX8_giveUp 19 = .ok (.istore 4, 2) := by decide +kernel
theorem dX8_giveUp_21 : decode cX8_giveUp 21 = .ok (.iload 4, 2) := by decide +kernel
theorem dX8_giveUp_23 : decode cX8_giveUp 23 = .ok (.iconst 1, 1) := by decide +kernel
theorem dX8_giveUp_24 : decode cX8_giveUp 24 = .ok (.aload_n 0, 1) := by decide +kernel
theorem dX8_giveUp_25 : decode cX8_giveUp 25 = .ok (.getfield 77, 3) := by decide +kernel
theorem dX8_giveUp_28 : decode cX8_giveUp 28 = .ok (.ishl, 1) := by decide +kernel
theorem dX8_giveUp_29 : decode cX8_giveUp 29 = .ok (.if_icmp .ge 78, 3) := by decide +kernel
theorem dX8_giveUp_32 : decode cX8_giveUp 32 = .ok (.iload 4, 2) := by decide +kernel
theorem dX8_giveUp_34 : decode cX8_giveUp 34 = .ok (.aload_n 0, 1) := by decide +kernel
theorem dX8_giveUp_35 : decode cX8_giveUp 35 = .ok (.getfield 19, 3) := by decide +kernel
theorem dX8_giveUp_38 : decode cX8_giveUp 38 = .ok (.iconst 2, 1) := by decide +kernel
theorem dX8_giveUp_39 : decode cX8_giveUp 39 = .ok (.iaload, 1) := by decide +kernel
theorem dX8_giveUp_40 : decode cX8_giveUp 40 = .ok (.iand, 1) := by decide +kernel
theorem dX8_giveUp_41 : decode cX8_giveUp 41 = .ok (.ifCond .ne 17, 3) := by decide +kernel
theorem dX8_giveUp_44 : decode cX8_giveUp 44 = .ok (.aload_n 0, 1) := by decide +kernel
theorem dX8_giveUp_45 : decode cX8_giveUp 45 = .ok (.iload 4, 2) := by decide +kernel
theorem dX8_giveUp_47 : decode cX8_giveUp 47 = .ok (.invokevirtual 205, 3) := by decide +kernel
theorem dX8_giveUp_50 : decode cX8_giveUp 50 = .ok (.iload_n 3, 1) := by decide +kernel
theorem dX8_giveUp_51 : decode cX8_giveUp 51 = .ok (.if_icmp .ge 7, 3) := by decide +kernel
theorem dX8_giveUp_54 : decode cX8_giveUp 54 = .ok (.iconst 1, 1) := by decide +kernel
theorem dX8_giveUp_55 : decode cX8_giveUp 55 = .ok (.goto 4, 3) := by decide +kernel
theorem dX8_giveUp_58 : decode cX8_giveUp 58 = .ok (.iconst 0, 1) := by decide +kernel
theorem dX8_giveUp_59 : decode cX8_giveUp 59 = .ok (.istore 5, 2) := by decide +kernel
theorem dX8_giveUp_61 : decode cX8_giveUp 61 = .ok (.iload 5, 2) := by decide +kernel
theorem dX8_giveUp_63 : decode cX8_giveUp 63 = .ok (.ifCond .eq 38, 3) := by decide +kernel
theorem dX8_giveUp_66 : decode cX8_giveUp 66 = .ok (.aload_n 0, 1) := by decide +kernel
theorem dX8_giveUp_67 : decode cX8_giveUp 67 = .ok (.aload_n 0, 1) := by decide +kernel
theorem dX8_giveUp_68 : decode cX8_giveUp 68 = .ok (.getfield 19, 3) := by decide +kernel
theorem dX8_giveUp_71 : decode cX8_giveUp 71 = .ok (.iconst 0, 1) := by decide +kernel
theorem dX8_giveUp_72 : decode cX8_giveUp 72 = .ok (.iaload, 1) := by decide +kernel
theorem dX8_giveUp_73 : decode cX8_giveUp 73 = .ok (.aload_n 0, 1) := by decide +kernel
theorem dX8_giveUp_74 : decode cX8_giveUp 74 = .ok (.invokevirtual 149, 3) := by decide +kernel
theorem dX8_giveUp_77 : decode cX8_giveUp 77 = .ok (.iload 4, 2) := by decide +kernel
theorem dX8_giveUp_79 : decode cX8_giveUp 79 = .ok (.iconst (-1), 1) := by decide +kernel
theorem dX8_giveUp_80 : decode cX8_giveUp 80 = .ok (.ixor, 1) := by decide +kernel
theorem dX8_giveUp_81 : decode cX8_giveUp 81 = .ok (.iand, 1) := by decide +kernel
theorem dX8_giveUp_82 : decode cX8_giveUp 82 = .ok (.invokevirtual 152, 3) := by decide +kernel
theorem dX8_giveUp_85 : decode cX8_giveUp 85 = .ok (.invokestatic 158, 3) := by decide +kernel
theorem dX8_giveUp_88 : decode cX8_giveUp 88 = .ok (.ifCond .ne 13, 3) := by decide +kernel
theorem dX8_giveUp_91 : decode cX8_giveUp 91 = .ok (.iload 4, 2) := by decide +kernel
theorem dX8_giveUp_93 : decode cX8_giveUp 93 = .ok (.istore_n 2, 1) := by decide +kernel
theorem dX8_giveUp_94 : decode cX8_giveUp 94 = .ok (.aload_n 0, 1) := by decide +kernel
theorem dX8_giveUp_95 : decode cX8_giveUp 95 = .ok (.iload 4, 2) := by decide +kernel
theorem dX8_giveUp_97 : decode cX8_giveUp 97 = .ok (.invokevirtual 205, 3) := by decide +kernel
theorem dX8_giveUp_100 : decode cX8_giveUp 100 = .ok (.istore_n 3, 1) := by decide +kernel
theorem dX8_giveUp_101 : decode cX8_giveUp 101 = .ok (.iinc 4 1, 3) := by decide +kernel
theorem dX8_giveUp_104 : decode cX8_giveUp 104 = .ok (.goto (-83), 3) := by decide +kernel
theorem dX8_giveUp_107 : decode cX8_giveUp 107 = .ok (.iload_n 2, 1) := by decide +kernel
theorem dX8_giveUp_108 : decode cX8_giveUp 108 = .ok (.ifCond .lt 7, 3) := by decide +kernel
theorem dX8_giveUp_111 : decode cX8_giveUp 111 = .ok (.iload_n 1, 1) := by decide +kernel
theorem dX8_giveUp_112 : decode cX8_giveUp 112 = .ok (.ifCond .ne 7, 3) := by decide +kernel
theorem dX8_giveUp_115 : decode cX8_giveUp 115 = .ok (.iload_n 2, 1) := by decide +kernel
theorem dX8_giveUp_116 : decode cX8_giveUp 116 = .ok (.goto 4, 3) := by decide +kernel
theorem dX8_giveUp_119 : decode cX8_giveUp 119 = .ok (.iload_n 3, 1) := by decide +kernel
theorem dX8_giveUp_120 : decode cX8_giveUp 120 = .ok (.ireturn, 1) := by decide +kernel
theorem dX8_doWords_0 : decode cX8_doWords 0 = .ok (.aload_n 0, 1) := by decide +kernel
theorem dX8_doWords_1 : decode cX8_doWords 1 = .ok (.aload_n 0, 1) := by decide +kernel
theorem dX8_doWords_2 : decode cX8_doWords 2 = .ok (.getfield 19, 3) := by decide +kernel
theorem dX8_doWords_5 : decode cX8_doWords 5 = .ok (.iconst 0, 1) := by decide +kernel
theorem dX8_doWords_6 : decode cX8_doWords 6 = .ok (.iaload, 1) := by decide +kernel
theorem dX8_doWords_7 : decode cX8_doWords 7 = .ok (.iload_n 1, 1) := by decide +kernel
theorem dX8_doWords_8 : decode cX8_doWords 8 = .ok (.ior, 1) := by decide +kernel
theorem dX8_doWords_9 : decode cX8_doWords 9 = .ok (.aload_n 0, 1) := by decide +kernel
theorem dX8_doWords_10 : decode cX8_doWords 10 = .ok (.invokevirtual 149, 3) := by decide +kernel
theorem dX8_doWords_13 : decode cX8_doWords 13 = .ok (.invokevirtual 152, 3) := by decide +kernel
theorem dX8_doWords_16 : decode cX8_doWords 16 = .ok (.istore_n 3, 1) := by decide +kernel
theorem dX8_doWords_17 : decode cX8_doWords 17 = .ok (.iload_n 3, 1) := by decide +kernel
theorem dX8_doWords_18 : decode cX8_doWords 18 = .ok (.iload_n 2, 1) := by decide +kernel
theorem dX8_doWords_19 : decode cX8_doWords 19 = .ok (.invokestatic 114, 3) := by decide +kernel
theorem dX8_doWords_22 : decode cX8_doWords 22 = .ok (.ifCond .eq 14, 3) := by decide +kernel
theorem dX8_doWords_25 : decode cX8_doWords 25 = .ok (.iload_n 3, 1) := by decide +kernel
theorem dX8_doWords_26 : decode cX8_doWords 26 = .ok (.invokestatic 158, 3) := by decide +kernel
theorem dX8_doWords_29 : decode cX8_doWords 29 = .ok (.ifCond .ne 7, 3) := by decide +kernel
theorem dX8_doWords_32 : decode cX8_doWords 32 = .ok (.iconst 1, 1) := by decide +kernel
theorem dX8_doWords_33 : decode cX8_doWords 33 = .ok (.goto 4, 3) := by decide +kernel
theorem dX8_doWords_36 : decode cX8_doWords 36 = .ok (.iconst 0, 1) := by decide +kernel
theorem dX8_doWords_37 : decode cX8_doWords 37 = .ok (.ireturn, 1) := by decide +kernel
theorem dX8_words_0 : decode cX8_words 0 = .ok (.aload_n 0, 1) := by decide +kernel
theorem dX8_words_1 : decode cX8_words 1 = .ok (.iload_n 1, 1) := by decide +kernel
theorem dX8_words_2 : decode cX8_words 2 = .ok (.invokevirtual 166, 3) := by decide +kernel
theorem dX8_words_5 : decode cX8_words 5 = .ok (.ifCond .ne 6, 3) := by decide +kernel
theorem dX8_words_8 : decode cX8_words 8 = .ok (.ldc 165, 2) := by decide +kernel
theorem dX8_words_10 : decode cX8_words 10 = .ok (.ireturn, 1) := by decide +kernel
theorem dX8_words_11 : decode cX8_words 11 = .ok (.iconst 1, 1) := by decide +kernel
theorem dX8_words_12 : decode cX8_words 12 = .ok (.iload_n 1, 1) := by decide +kernel
theorem dX8_words_13 : decode cX8_words 13 = .ok (.ishl, 1) := by decide +kernel
theorem dX8_words_14 : decode cX8_words 14 = .ok (.iconst 1, 1) := by decide +kernel
theorem dX8_words_15 : decode cX8_words 15 = .ok (.iload_n 1, 1) := by decide +kernel
theorem dX8_words_16 : decode cX8_words 16 = .ok (.invokestatic 195, 3) := by decide +kernel
theorem dX8_words_19 : decode cX8_words 19 = .ok (.ishl, 1) := by decide +kernel
theorem dX8_words_20 : decode cX8_words 20 = .ok (.ior, 1) := by decide +kernel
theorem dX8_words_21 : decode cX8_words 21 = .ok (.istore_n 2, 1) := by decide +kernel
theorem dX8_words_22 : decode cX8_words 22 = .ok (.iconst (-1), 1) := by decide +kernel
theorem dX8_words_23 : decode cX8_words 23 = .ok (.istore_n 3, 1) := by decide +kernel
theorem dX8_words_24 : decode cX8_words 24 = .ok (.iconst 0, 1) := by decide +kernel
theorem dX8_words_25 : decode cX8_words 25 = .ok (.istore 4, 2) := by decide +kernel
theorem dX8_words_27 : decode cX8_words 27 = .ok (.iload 4, 2) := by decide +kernel
theorem dX8_words_29 : decode cX8_words 29 = .ok (.iconst 1, 1) := by decide +kernel
theorem dX8_words_30 : decode cX8_words 30 = .ok (.iconst 2, 1) := by decide +kernel
theorem dX8_words_31 : decode cX8_words 31 = .ok (.aload_n 0, 1) := by decide +kernel
theorem dX8_words_32 : decode cX8_words 32 = .ok (.getfield 70, 3) := by decide +kernel
theorem dX8_words_35 : decode cX8_words 35 = .ok (.imul, 1) := by decide +kernel
theorem dX8_words_36 : decode cX8_words 36 = .ok (.ishl, 1) := by decide +kernel
theorem dX8_words_37 : decode cX8_words 37 = .ok (.if_icmp .ge 71, 3) := by decide +kernel
theorem dX8_words_40 : decode cX8_words 40 = .ok (.iload 4, 2) := by decide +kernel
theorem dX8_words_42 : decode cX8_words 42 = .ok (.invokestatic 201, 3) := by decide +kernel
theorem dX8_words_45 : decode cX8_words 45 = .ok (.istore 5, 2) := by decide +kernel
theorem dX8_words_47 : decode cX8_words 47 = .ok (.iload 4, 2) := by decide +kernel
theorem dX8_words_49 : decode cX8_words 49 = .ok (.iload_n 2, 1) := by decide +kernel
theorem dX8_words_50 : decode cX8_words 50 = .ok (.iand, 1) := by decide +kernel
theorem dX8_words_51 : decode cX8_words 51 = .ok (.ifCond .ne 26, 3) := by decide +kernel
theorem dX8_words_54 : decode cX8_words 54 = .ok (.iload 5, 2) := by decide +kernel
theorem dX8_words_56 : decode cX8_words 56 = .ok (.iconst 4, 1) := by decide +kernel
theorem dX8_words_57 : decode cX8_words 57 = .ok (.if_icmp .ge 20, 3) := by decide +kernel
theorem dX8_words_60 : decode cX8_words 60 = .ok (.iload_n 3, 1) := by decide +kernel
theorem dX8_words_61 : decode cX8_words 61 = .ok (.ifCond .lt 12, 3) := by decide +kernel
theorem dX8_words_64 : decode cX8_words 64 = .ok (.iload 5, 2) := by decide +kernel
theorem dX8_words_66 : decode cX8_words 66 = .ok (.iload_n 3, 1) := by decide +kernel
theorem dX8_words_67 : decode cX8_words 67 = .ok (.invokestatic 201, 3) := by decide +kernel
theorem dX8_words_70 : decode cX8_words 70 = .ok (.if_icmp .ge 7, 3) := by decide +kernel
theorem dX8_words_73 : decode cX8_words 73 = .ok (.iconst 1, 1) := by decide +kernel
theorem dX8_words_74 : decode cX8_words 74 = .ok (.goto 4, 3) := by decide +kernel
theorem dX8_words_77 : decode cX8_words 77 = .ok (.iconst 0, 1) := by decide +kernel
theorem dX8_words_78 : decode cX8_words 78 = .ok (.istore 6, 2) := by decide +kernel
theorem dX8_words_80 : decode cX8_words 80 = .ok (.iload 6, 2) := by decide +kernel
theorem dX8_words_82 : decode cX8_words 82 = .ok (.ifCond .eq 18, 3) := by decide +kernel
theorem dX8_words_85 : decode cX8_words 85 = .ok (.aload_n 0, 1) := by decide +kernel
theorem dX8_words_86 : decode cX8_words 86 = .ok (.iload 4, 2) := by decide +kernel
theorem dX8_words_88 : decode cX8_words 88 = .ok (.iload_n 1, 1) := by decide +kernel
theorem dX8_words_89 : decode cX8_words 89 = .ok (.invokevirtual 208, 3) := by decide +kernel
theorem dX8_words_92 : decode cX8_words 92 = .ok (.ifCond .eq 8, 3) := by decide +kernel
theorem dX8_words_95 : decode cX8_words 95 = .ok (.iload 4, 2) := by decide +kernel
theorem dX8_words_97 : decode cX8_words 97 = .ok (.goto 4, 3) := by decide +kernel
theorem dX8_words_100 : decode cX8_words 100 = .ok (.iload_n 3, 1) := by decide +kernel
theorem dX8_words_101 : decode cX8_words 101 = .ok (.istore_n 3, 1) := by decide +kernel
theorem dX8_words_102 : decode cX8_words 102 = .ok (.iinc 4 1, 3) := by decide +kernel
theorem dX8_words_105 : decode cX8_words 105 = .ok (.goto (-78), 3) := by decide +kernel
theorem dX8_words_108 : decode cX8_words 108 = .ok (.iload_n 3, 1) := by decide +kernel
theorem dX8_words_109 : decode cX8_words 109 = .ok (.ireturn, 1) := by decide +kernel
theorem dX8_step_0 : decode cX8_step 0 = .ok (.aload_n 0, 1) := by decide +kernel
theorem dX8_step_1 : decode cX8_step 1 = .ok (.iload_n 1, 1) := by decide +kernel
theorem dX8_step_2 : decode cX8_step 2 = .ok (.invokevirtual 166, 3) := by decide +kernel
theorem dX8_step_5 : decode cX8_step 5 = .ok (.ifCond .ne 6, 3) := by decide +kernel
theorem dX8_step_8 : decode cX8_step 8 = .ok (.ldc 165, 2) := by decide +kernel
theorem dX8_step_10 : decode cX8_step 10 = .ok (.ireturn, 1) := by decide +kernel
theorem dX8_step_11 : decode cX8_step 11 = .ok (.iconst 0, 1) := by decide +kernel
theorem dX8_step_12 : decode cX8_step 12 = .ok (.istore_n 2, 1) := by decide +kernel
theorem dX8_step_13 : decode cX8_step 13 = .ok (.iconst 0, 1) := by decide +kernel
theorem dX8_step_14 : decode cX8_step 14 = .ok (.istore_n 3, 1) := by decide +kernel
theorem dX8_step_15 : decode cX8_step 15 = .ok (.iload_n 3, 1) := by decide +kernel
theorem dX8_step_16 : decode cX8_step 16 = .ok (.aload_n 0, 1) := by decide +kernel
theorem dX8_step_17 : decode cX8_step 17 = .ok (.getfield 77, 3) := by decide +kernel
theorem dX8_step_20 : decode cX8_step 20 = .ok (.if_icmp .ge 80, 3) := by decide +kernel
theorem dX8_step_23 : decode cX8_step 23 = .ok (.aload_n 0, 1) := by decide +kernel
theorem dX8_step_24 : decode cX8_step 24 = .ok (.invokevirtual 155, 3) := by decide +kernel
theorem dX8_step_27 : decode cX8_step 27 = .ok (.iload_n 1, 1) := by decide +kernel
theorem dX8_step_28 : decode cX8_step 28 = .ok (.invokestatic 114, 3) := by decide +kernel
theorem dX8_step_31 : decode cX8_step 31 = .ok (.ifCond .eq 18, 3) := by decide +kernel
theorem dX8_step_34 : decode cX8_step 34 = .ok (.aload_n 0, 1) := by decide +kernel
theorem dX8_step_35 : decode cX8_step 35 = .ok (.invokevirtual 149, 3) := by decide +kernel
theorem dX8_step_38 : decode cX8_step 38 = .ok (.iload_n 3, 1) := by decide +kernel
theorem dX8_step_39 : decode cX8_step 39 = .ok (.invokestatic 114, 3) := by decide +kernel
theorem dX8_step_42 : decode cX8_step 42 = .ok (.ifCond .eq 7, 3) := by decide +kernel
theorem dX8_step_45 : decode cX8_step 45 = .ok (.iconst 1, 1) := by decide +kernel
theorem dX8_step_46 : decode cX8_step 46 = .ok (.goto 4, 3) := by decide +kernel
theorem dX8_step_49 : decode cX8_step 49 = .ok (.iconst 0, 1) := by decide +kernel
theorem dX8_step_50 : decode cX8_step 50 = .ok (.istore 4, 2) := by decide +kernel
theorem dX8_step_52 : decode cX8_step 52 = .ok (.iload_n 2, 1) := by decide +kernel
theorem dX8_step_53 : decode cX8_step 53 = .ok (.iload 4, 2) := by decide +kernel
theorem dX8_step_55 : decode cX8_step 55 = .ok (.ifCond .eq 36, 3) := by decide +kernel
theorem dX8_step_58 : decode cX8_step 58 = .ok (.aload_n 0, 1) := by decide +kernel
theorem dX8_step_59 : decode cX8_step 59 = .ok (.aload_n 0, 1) := by decide +kernel
theorem dX8_step_60 : decode cX8_step 60 = .ok (.getfield 19, 3) := by decide +kernel
theorem dX8_step_63 : decode cX8_step 63 = .ok (.iconst 0, 1) := by decide +kernel
theorem dX8_step_64 : decode cX8_step 64 = .ok (.iaload, 1) := by decide +kernel
theorem dX8_step_65 : decode cX8_step 65 = .ok (.aload_n 0, 1) := by decide +kernel
theorem dX8_step_66 : decode cX8_step 66 = .ok (.invokevirtual 149, 3) := by decide +kernel
theorem dX8_step_69 : decode cX8_step 69 = .ok (.iconst 1, 1) := by decide +kernel
theorem dX8_step_70 : decode cX8_step 70 = .ok (.iload_n 3, 1) := by decide +kernel
theorem dX8_step_71 : decode cX8_step 71 = .ok (.ishl, 1) := by decide +kernel
theorem dX8_step_72 : decode cX8_step 72 = .ok (.iconst (-1), 1) := by decide +kernel
theorem dX8_step_73 : decode cX8_step 73 = .ok (.ixor, 1) := by decide +kernel
theorem dX8_step_74 : decode cX8_step 74 = .ok (.iand, 1) := by decide +kernel
theorem dX8_step_75 : decode cX8_step 75 = .ok (.invokevirtual 152, 3) := by decide +kernel
theorem dX8_step_78 : decode cX8_step 78 = .ok (.iload_n 1, 1) := by decide +kernel
theorem dX8_step_79 : decode cX8_step 79 = .ok (.invokestatic 114, 3) := by decide +kernel
theorem dX8_step_82 : decode cX8_step 82 = .ok (.ifCond .ne 9, 3) := by decide +kernel
theorem dX8_step_85 : decode cX8_step 85 = .ok (.iconst 1, 1) := by decide +kernel
theorem dX8_step_86 : decode cX8_step 86 = .ok (.iload_n 3, 1) := by decide +kernel
theorem dX8_step_87 : decode cX8_step 87 = .ok (.ishl, 1) := by decide +kernel
theorem dX8_step_88 : decode cX8_step 88 = .ok (.goto 4, 3) := by decide +kernel
theorem dX8_step_91 : decode cX8_step 91 = .ok (.iconst 0, 1) := by decide +kernel
theorem dX8_step_92 : decode cX8_step 92 = .ok (.ior, 1) := by decide +kernel
theorem dX8_step_93 : decode cX8_step 93 = .ok (.istore_n 2, 1) := by decide +kernel
theorem dX8_step_94 : decode cX8_step 94 = .ok (.iinc 3 1, 3) := by decide +kernel
theorem dX8_step_97 : decode cX8_step 97 = .ok (.goto (-82), 3) := by decide +kernel
theorem dX8_step_100 : decode cX8_step 100 = .ok (.iload_n 2, 1) := by decide +kernel
theorem dX8_step_101 : decode cX8_step 101 = .ok (.ireturn, 1) := by decide +kernel
theorem dX8_barred_0 : decode cX8_barred 0 = .ok (.aload_n 0, 1) := by decide +kernel
theorem dX8_barred_1 : decode cX8_barred 1 = .ok (.iload_n 1, 1) := by decide +kernel
theorem dX8_barred_2 : decode cX8_barred 2 = .ok (.invokevirtual 166, 3) := by decide +kernel
theorem dX8_barred_5 : decode cX8_barred 5 = .ok (.ifCond .ne 6, 3) := by decide +kernel
theorem dX8_barred_8 : decode cX8_barred 8 = .ok (.ldc 165, 2) := by decide +kernel
theorem dX8_barred_10 : decode cX8_barred 10 = .ok (.ireturn, 1) := by decide +kernel
theorem dX8_barred_11 : decode cX8_barred 11 = .ok (.iconst (-1), 1) := by decide +kernel
theorem dX8_barred_12 : decode cX8_barred 12 = .ok (.istore_n 2, 1) := by decide +kernel
theorem dX8_barred_13 : decode cX8_barred 13 = .ok (.iconst 0, 1) := by decide +kernel
theorem dX8_barred_14 : decode cX8_barred 14 = .ok (.istore_n 3, 1) := by decide +kernel
theorem dX8_barred_15 : decode cX8_barred 15 = .ok (.iload_n 3, 1) := by decide +kernel
theorem dX8_barred_16 : decode cX8_barred 16 = .ok (.iconst 1, 1) := by decide +kernel
theorem dX8_barred_17 : decode cX8_barred 17 = .ok (.aload_n 0, 1) := by decide +kernel
theorem dX8_barred_18 : decode cX8_barred 18 = .ok (.getfield 77, 3) := by decide +kernel
theorem dX8_barred_21 : decode cX8_barred 21 = .ok (.ishl, 1) := by decide +kernel
theorem dX8_barred_22 : decode cX8_barred 22 = .ok (.if_icmp .ge 78, 3) := by decide +kernel
theorem dX8_barred_25 : decode cX8_barred 25 = .ok (.iload_n 3, 1) := by decide +kernel
theorem dX8_barred_26 : decode cX8_barred 26 = .ok (.aload_n 0, 1) := by decide +kernel
theorem dX8_barred_27 : decode cX8_barred 27 = .ok (.getfield 19, 3) := by decide +kernel
theorem dX8_barred_30 : decode cX8_barred 30 = .ok (.iconst 2, 1) := by decide +kernel
theorem dX8_barred_31 : decode cX8_barred 31 = .ok (.iaload, 1) := by decide +kernel
theorem dX8_barred_32 : decode cX8_barred 32 = .ok (.iand, 1) := by decide +kernel
theorem dX8_barred_33 : decode cX8_barred 33 = .ok (.ifCond .ne 22, 3) := by decide +kernel
theorem dX8_barred_36 : decode cX8_barred 36 = .ok (.iload_n 2, 1) := by decide +kernel
theorem dX8_barred_37 : decode cX8_barred 37 = .ok (.ifCond .lt 14, 3) := by decide +kernel
theorem dX8_barred_40 : decode cX8_barred 40 = .ok (.iload_n 3, 1) := by decide +kernel
theorem dX8_barred_41 : decode cX8_barred 41 = .ok (.invokestatic 201, 3) := by decide +kernel
theorem dX8_barred_44 : decode cX8_barred 44 = .ok (.iload_n 2, 1) := by decide +kernel
theorem dX8_barred_45 : decode cX8_barred 45 = .ok (.invokestatic 201, 3) := by decide +kernel
theorem dX8_barred_48 : decode cX8_barred 48 = .ok (.if_icmp .ge 7, 3) := by decide +kernel
theorem dX8_barred_51 : decode cX8_barred 51 = .ok (.iconst 1, 1) := by decide +kernel
theorem dX8_barred_52 : decode cX8_barred 52 = .ok (.goto 4, 3) := by decide +kernel
theorem dX8_barred_55 : decode cX8_barred 55 = .ok (.iconst 0, 1) := by decide +kernel
theorem dX8_barred_56 : decode cX8_barred 56 = .ok (.istore 4, 2) := by decide +kernel
theorem dX8_barred_58 : decode cX8_barred 58 = .ok (.iload 4, 2) := by decide +kernel
theorem dX8_barred_60 : decode cX8_barred 60 = .ok (.ifCond .eq 32, 3) := by decide +kernel
theorem dX8_barred_63 : decode cX8_barred 63 = .ok (.aload_n 0, 1) := by decide +kernel
theorem dX8_barred_64 : decode cX8_barred 64 = .ok (.aload_n 0, 1) := by decide +kernel
theorem dX8_barred_65 : decode cX8_barred 65 = .ok (.getfield 19, 3) := by decide +kernel
theorem dX8_barred_68 : decode cX8_barred 68 = .ok (.iconst 0, 1) := by decide +kernel
theorem dX8_barred_69 : decode cX8_barred 69 = .ok (.iaload, 1) := by decide +kernel
theorem dX8_barred_70 : decode cX8_barred 70 = .ok (.aload_n 0, 1) := by decide +kernel
theorem dX8_barred_71 : decode cX8_barred 71 = .ok (.invokevirtual 149, 3) := by decide +kernel
theorem dX8_barred_74 : decode cX8_barred 74 = .ok (.iload_n 3, 1) := by decide +kernel
theorem dX8_barred_75 : decode cX8_barred 75 = .ok (.iconst (-1), 1) := by decide +kernel
theorem dX8_barred_76 : decode cX8_barred 76 = .ok (.ixor, 1) := by decide +kernel
theorem dX8_barred_77 : decode cX8_barred 77 = .ok (.iand, 1) := by decide +kernel
theorem dX8_barred_78 : decode cX8_barred 78 = .ok (.invokevirtual 152, 3) := by decide +kernel
theorem dX8_barred_81 : decode cX8_barred 81 = .ok (.iload_n 1, 1) := by decide +kernel
theorem dX8_barred_82 : decode cX8_barred 82 = .ok (.invokestatic 114, 3) := by decide +kernel
theorem dX8_barred_85 : decode cX8_barred 85 = .ok (.ifCond .ne 7, 3) := by decide +kernel
theorem dX8_barred_88 : decode cX8_barred 88 = .ok (.iload_n 3, 1) := by decide +kernel
theorem dX8_barred_89 : decode cX8_barred 89 = .ok (.goto 4, 3) := by decide +kernel
theorem dX8_barred_92 : decode cX8_barred 92 = .ok (.iload_n 2, 1) := by decide +kernel
theorem dX8_barred_93 : decode cX8_barred 93 = .ok (.istore_n 2, 1) := by decide +kernel
theorem dX8_barred_94 : decode cX8_barred 94 = .ok (.iinc 3 1, 3) := by decide +kernel
theorem dX8_barred_97 : decode cX8_barred 97 = .ok (.goto (-82), 3) := by decide +kernel
theorem dX8_barred_100 : decode cX8_barred 100 = .ok (.iload_n 2, 1) := by decide +kernel
theorem dX8_barred_101 : decode cX8_barred 101 = .ok (.ireturn, 1) := by decide +kernel
theorem dX8_never_0 : decode cX8_never 0 = .ok (.iconst 1, 1) := by decide +kernel
theorem dX8_never_1 : decode cX8_never 1 = .ok (.iconst 2, 1) := by decide +kernel
theorem dX8_never_2 : decode cX8_never 2 = .ok (.aload_n 0, 1) := by decide +kernel
theorem dX8_never_3 : decode cX8_never 3 = .ok (.getfield 70, 3) := by decide +kernel
theorem dX8_never_6 : decode cX8_never 6 = .ok (.imul, 1) := by decide +kernel
theorem dX8_never_7 : decode cX8_never 7 = .ok (.ishl, 1) := by decide +kernel
theorem dX8_never_8 : decode cX8_never 8 = .ok (.iconst 1, 1) := by decide +kernel
theorem dX8_never_9 : decode cX8_never 9 = .ok (.isub, 1) := by decide +kernel
theorem dX8_never_10 : decode cX8_never 10 = .ok (.istore_n 1, 1) := by decide +kernel
theorem dX8_never_11 : decode cX8_never 11 = .ok (.iconst 0, 1) := by decide +kernel
theorem dX8_never_12 : decode cX8_never 12 = .ok (.istore_n 2, 1) := by decide +kernel
theorem dX8_never_13 : decode cX8_never 13 = .ok (.iload_n 2, 1) := by decide +kernel
theorem dX8_never_14 : decode cX8_never 14 = .ok (.aload_n 0, 1) := by decide +kernel
theorem dX8_never_15 : decode cX8_never 15 = .ok (.getfield 77, 3) := by decide +kernel
theorem dX8_never_18 : decode cX8_never 18 = .ok (.if_icmp .ge 37, 3) := by decide +kernel
theorem dX8_never_21 : decode cX8_never 21 = .ok (.iload_n 1, 1) := by decide +kernel
theorem dX8_never_22 : decode cX8_never 22 = .ok (.aload_n 0, 1) := by decide +kernel
theorem dX8_never_23 : decode cX8_never 23 = .ok (.invokevirtual 149, 3) := by decide +kernel
theorem dX8_never_26 : decode cX8_never 26 = .ok (.iload_n 2, 1) := by decide +kernel
theorem dX8_never_27 : decode cX8_never 27 = .ok (.invokestatic 114, 3) := by decide +kernel
theorem dX8_never_30 : decode cX8_never 30 = .ok (.ifCond .eq 16, 3) := by decide +kernel
theorem dX8_never_33 : decode cX8_never 33 = .ok (.iconst 1, 1) := by decide +kernel
theorem dX8_never_34 : decode cX8_never 34 = .ok (.aload_n 0, 1) := by decide +kernel
theorem dX8_never_35 : decode cX8_never 35 = .ok (.getfield 13, 3) := by decide +kernel
theorem dX8_never_38 : decode cX8_never 38 = .ok (.iload_n 2, 1) := by decide +kernel
theorem dX8_never_39 : decode cX8_never 39 = .ok (.iaload, 1) := by decide +kernel
theorem dX8_never_40 : decode cX8_never 40 = .ok (.ishl, 1) := by decide +kernel
theorem dX8_never_41 : decode cX8_never 41 = .ok (.iconst (-1), 1) := by decide +kernel
theorem dX8_never_42 : decode cX8_never 42 = .ok (.ixor, 1) := by decide +kernel
theorem dX8_never_43 : decode cX8_never 43 = .ok (.goto 4, 3) := by decide +kernel
theorem dX8_never_46 : decode cX8_never 46 = .ok (.iconst (-1), 1) := by decide +kernel
theorem dX8_never_47 : decode cX8_never 47 = .ok (.iand, 1) := by decide +kernel
theorem dX8_never_48 : decode cX8_never 48 = .ok (.istore_n 1, 1) := by decide +kernel
theorem dX8_never_49 : decode cX8_never 49 = .ok (.iinc 2 1, 3) := by decide +kernel
theorem dX8_never_52 : decode cX8_never 52 = .ok (.goto (-39), 3) := by decide +kernel
theorem dX8_never_55 : decode cX8_never 55 = .ok (.iload_n 1, 1) := by decide +kernel
theorem dX8_never_56 : decode cX8_never 56 = .ok (.ireturn, 1) := by decide +kernel
theorem dX8_round_0 : decode cX8_round 0 = .ok (.iconst 0, 1) := by decide +kernel
theorem dX8_round_1 : decode cX8_round 1 = .ok (.istore_n 1, 1) := by decide +kernel
theorem dX8_round_2 : decode cX8_round 2 = .ok (.iconst 0, 1) := by decide +kernel
theorem dX8_round_3 : decode cX8_round 3 = .ok (.istore_n 2, 1) := by decide +kernel
theorem dX8_round_4 : decode cX8_round 4 = .ok (.iload_n 2, 1) := by decide +kernel
theorem dX8_round_5 : decode cX8_round 5 = .ok (.aload_n 0, 1) := by decide +kernel
theorem dX8_round_6 : decode cX8_round 6 = .ok (.getfield 77, 3) := by decide +kernel
theorem dX8_round_9 : decode cX8_round 9 = .ok (.if_icmp .ge 65, 3) := by decide +kernel
theorem dX8_round_12 : decode cX8_round 12 = .ok (.aload_n 0, 1) := by decide +kernel
theorem dX8_round_13 : decode cX8_round 13 = .ok (.iconst 1, 1) := by decide +kernel
theorem dX8_round_14 : decode cX8_round 14 = .ok (.aload_n 0, 1) := by decide +kernel
theorem dX8_round_15 : decode cX8_round 15 = .ok (.getfield 13, 3) := by decide +kernel
theorem dX8_round_18 : decode cX8_round 18 = .ok (.iload_n 2, 1) := by decide +kernel
theorem dX8_round_19 : decode cX8_round 19 = .ok (.iaload, 1) := by decide +kernel
theorem dX8_round_20 : decode cX8_round 20 = .ok (.ishl, 1) := by decide +kernel
theorem dX8_round_21 : decode cX8_round 21 = .ok (.aload_n 0, 1) := by decide +kernel
theorem dX8_round_22 : decode cX8_round 22 = .ok (.invokevirtual 149, 3) := by decide +kernel
theorem dX8_round_25 : decode cX8_round 25 = .ok (.invokevirtual 152, 3) := by decide +kernel
theorem dX8_round_28 : decode cX8_round 28 = .ok (.istore_n 3, 1) := by decide +kernel
theorem dX8_round_29 : decode cX8_round 29 = .ok (.iload_n 1, 1) := by decide +kernel
theorem dX8_round_30 : decode cX8_round 30 = .ok (.aload_n 0, 1) := by decide +kernel
theorem dX8_round_31 : decode cX8_round 31 = .ok (.invokevirtual 149, 3) := by decide +kernel
theorem dX8_round_34 : decode cX8_round 34 = .ok (.iload_n 2, 1) := by decide +kernel
theorem dX8_round_35 : decode cX8_round 35 = .ok (.invokestatic 114, 3) := by decide +kernel
theorem dX8_round_38 : decode cX8_round 38 = .ok (.ifCond .eq 27, 3) := by decide +kernel
theorem dX8_round_41 : decode cX8_round 41 = .ok (.aload_n 0, 1) := by decide +kernel
theorem dX8_round_42 : decode cX8_round 42 = .ok (.getfield 16, 3) := by decide +kernel
theorem dX8_round_45 : decode cX8_round 45 = .ok (.iload_n 2, 1) := by decide +kernel
theorem dX8_round_46 : decode cX8_round 46 = .ok (.iaload, 1) := by decide +kernel
theorem dX8_round_47 : decode cX8_round 47 = .ok (.iload_n 3, 1) := by decide +kernel
theorem dX8_round_48 : decode cX8_round 48 = .ok (.iconst (-1), 1) := by decide +kernel
theorem dX8_round_49 : decode cX8_round 49 = .ok (.ixor, 1) := by decide +kernel
theorem dX8_round_50 : decode cX8_round 50 = .ok (.iand, 1) := by decide +kernel
theorem dX8_round_51 : decode cX8_round 51 = .ok (.ifCond .ne 14, 3) := by decide +kernel
theorem dX8_round_54 : decode cX8_round 54 = .ok (.iconst 1, 1) := by decide +kernel
theorem dX8_round_55 : decode cX8_round 55 = .ok (.aload_n 0, 1) := by decide +kernel
theorem dX8_round_56 : decode cX8_round 56 = .ok (.getfield 13, 3) := by decide +kernel
theorem dX8_round_59 : decode cX8_round 59 = .ok (.iload_n 2, 1) := by decide +kernel
theorem dX8_round_60 : decode cX8_round 60 = .ok (.iaload, 1) := by decide +kernel
theorem dX8_round_61 : decode cX8_round 61 = .ok (.ishl, 1) := by decide +kernel
theorem dX8_round_62 : decode cX8_round 62 = .ok (.goto 4, 3) := by decide +kernel
theorem dX8_round_65 : decode cX8_round 65 = .ok (.iconst 0, 1) := by decide +kernel
theorem dX8_round_66 : decode cX8_round 66 = .ok (.ior, 1) := by decide +kernel
theorem dX8_round_67 : decode cX8_round 67 = .ok (.istore_n 1, 1) := by decide +kernel
theorem dX8_round_68 : decode cX8_round 68 = .ok (.iinc 2 1, 3) := by decide +kernel
theorem dX8_round_71 : decode cX8_round 71 = .ok (.goto (-67), 3) := by decide +kernel
theorem dX8_round_74 : decode cX8_round 74 = .ok (.iload_n 1, 1) := by decide +kernel
theorem dX8_round_75 : decode cX8_round 75 = .ok (.ireturn, 1) := by decide +kernel
theorem dX8_vote_0 : decode cX8_vote 0 = .ok (.iload_n 1, 1) := by decide +kernel
theorem dX8_vote_1 : decode cX8_vote 1 = .ok (.i2l, 1) := by decide +kernel
theorem dX8_vote_2 : decode cX8_vote 2 = .ok (.lconst 1, 1) := by decide +kernel
theorem dX8_vote_3 : decode cX8_vote 3 = .ok (.ldc2_w 211, 3) := by decide +kernel
theorem dX8_vote_6 : decode cX8_vote 6 = .ok (.invokestatic 73, 3) := by decide +kernel
theorem dX8_vote_9 : decode cX8_vote 9 = .ok (.ifCond .eq 15, 3) := by decide +kernel
theorem dX8_vote_12 : decode cX8_vote 12 = .ok (.iload_n 2, 1) := by decide +kernel
theorem dX8_vote_13 : decode cX8_vote 13 = .ok (.i2l, 1) := by decide +kernel
theorem dX8_vote_14 : decode cX8_vote 14 = .ok (.lconst 0, 1) := by decide +kernel
theorem dX8_vote_15 : decode cX8_vote 15 = .ok (.ldc2_w 213, 3) := by decide +kernel
theorem dX8_vote_18 : decode cX8_vote 18 = .ok (.invokestatic 73, 3) := by decide +kernel
theorem dX8_vote_21 : decode cX8_vote 21 = .ok (.ifCond .ne 6, 3) := by decide +kernel
theorem dX8_vote_24 : decode cX8_vote 24 = .ok (.ldc 82, 2) := by decide +kernel
theorem dX8_vote_26 : decode cX8_vote 26 = .ok (.ireturn, 1) := by decide +kernel
theorem dX8_vote_27 : decode cX8_vote 27 = .ok (.iconst 0, 1) := by decide +kernel
theorem dX8_vote_28 : decode cX8_vote 28 = .ok (.istore_n 3, 1) := by decide +kernel
theorem dX8_vote_29 : decode cX8_vote 29 = .ok (.iload_n 3, 1) := by decide +kernel
theorem dX8_vote_30 : decode cX8_vote 30 = .ok (.bipush 10, 2) := by decide +kernel
theorem dX8_vote_32 : decode cX8_vote 32 = .ok (.if_icmp .ge 26, 3) := by decide +kernel
theorem dX8_vote_35 : decode cX8_vote 35 = .ok (.aload_n 0, 1) := by decide +kernel
theorem dX8_vote_36 : decode cX8_vote 36 = .ok (.getfield 41, 3) := by decide +kernel
theorem dX8_vote_39 : decode cX8_vote 39 = .ok (.iload_n 3, 1) := by decide +kernel
theorem dX8_vote_40 : decode cX8_vote 40 = .ok (.iload_n 3, 1) := by decide +kernel
theorem dX8_vote_41 : decode cX8_vote 41 = .ok (.ifCond .ne 9, 3) := by decide +kernel
theorem dX8_vote_44 : decode cX8_vote 44 = .ok (.ldc2_w 215, 3) := by decide +kernel
theorem dX8_vote_47 : decode cX8_vote 47 = .ok (.goto 4, 3) := by decide +kernel
theorem dX8_vote_50 : decode cX8_vote 50 = .ok (.lconst 0, 1) := by decide +kernel
theorem dX8_vote_51 : decode cX8_vote 51 = .ok (.lastore, 1) := by decide +kernel
theorem dX8_vote_52 : decode cX8_vote 52 = .ok (.iinc 3 1, 3) := by decide +kernel
theorem dX8_vote_55 : decode cX8_vote 55 = .ok (.goto (-26), 3) := by decide +kernel
theorem dX8_vote_58 : decode cX8_vote 58 = .ok (.iconst 0, 1) := by decide +kernel
theorem dX8_vote_59 : decode cX8_vote 59 = .ok (.istore_n 3, 1) := by decide +kernel
theorem dX8_vote_60 : decode cX8_vote 60 = .ok (.iload_n 3, 1) := by decide +kernel
theorem dX8_vote_61 : decode cX8_vote 61 = .ok (.iload_n 1, 1) := by decide +kernel
theorem dX8_vote_62 : decode cX8_vote 62 = .ok (.if_icmp .ge 65, 3) := by decide +kernel
theorem dX8_vote_65 : decode cX8_vote 65 = .ok (.iload_n 3, 1) := by decide +kernel
theorem dX8_vote_66 : decode cX8_vote 66 = .ok (.istore 4, 2) := by decide +kernel
theorem dX8_vote_68 : decode cX8_vote 68 = .ok (.iload 4, 2) := by decide +kernel
theorem dX8_vote_70 : decode cX8_vote 70 = .ok (.ifCond .lt 51, 3) := by decide +kernel
theorem dX8_vote_73 : decode cX8_vote 73 = .ok (.aload_n 0, 1) := by decide +kernel
theorem dX8_vote_74 : decode cX8_vote 74 = .ok (.getfield 41, 3) := by decide +kernel
theorem dX8_vote_77 : decode cX8_vote 77 = .ok (.iload 4, 2) := by decide +kernel
theorem dX8_vote_79 : decode cX8_vote 79 = .ok (.laload, 1) := by decide +kernel
theorem dX8_vote_80 : decode cX8_vote 80 = .ok (.iload_n 2, 1) := by decide +kernel
theorem dX8_vote_81 : decode cX8_vote 81 = .ok (.i2l, 1) := by decide +kernel
theorem dX8_vote_82 : decode cX8_vote 82 = .ok (.lmul, 1) := by decide +kernel
theorem dX8_vote_83 : decode cX8_vote 83 = .ok (.ldc2_w 213, 3) := by decide +kernel
theorem dX8_vote_86 : decode cX8_vote 86 = .ok (.ldiv, 1) := by decide +kernel
theorem dX8_vote_87 : decode cX8_vote 87 = .ok (.lstore 5, 2) := by decide +kernel
theorem dX8_vote_89 : decode cX8_vote 89 = .ok (.aload_n 0, 1) := by decide +kernel
theorem dX8_vote_90 : decode cX8_vote 90 = .ok (.getfield 41, 3) := by decide +kernel
theorem dX8_vote_93 : decode cX8_vote 93 = .ok (.iload 4, 2) := by decide +kernel
theorem dX8_vote_95 : decode cX8_vote 95 = .ok (.iconst 1, 1) := by decide +kernel
theorem dX8_vote_96 : decode cX8_vote 96 = .ok (.iadd, 1) := by decide +kernel
theorem dX8_vote_97 : decode cX8_vote 97 = .ok (.dup2, 1) := by decide +kernel
theorem dX8_vote_98 : decode cX8_vote 98 = .ok (.laload, 1) := by decide +kernel
theorem dX8_vote_99 : decode cX8_vote 99 = .ok (.lload 5, 2) := by decide +kernel
theorem dX8_vote_101 : decode cX8_vote 101 = .ok (.ladd, 1) := by decide +kernel
theorem dX8_vote_102 : decode cX8_vote 102 = .ok (.lastore, 1) := by decide +kernel
theorem dX8_vote_103 : decode cX8_vote 103 = .ok (.aload_n 0, 1) := by decide +kernel
theorem dX8_vote_104 : decode cX8_vote 104 = .ok (.getfield 41, 3) := by decide +kernel
theorem dX8_vote_107 : decode cX8_vote 107 = .ok (.iload 4, 2) := by decide +kernel
theorem dX8_vote_109 : decode cX8_vote 109 = .ok (.dup2, 1) := by decide +kernel
theorem dX8_vote_110 : decode cX8_vote 110 = .ok (.laload, 1) := by decide +kernel
theorem dX8_vote_111 : decode cX8_vote 111 = .ok (.lload 5, 2) := by decide +kernel
theorem dX8_vote_113 : decode cX8_vote 113 = .ok (.lsub, 1) := by decide +kernel
theorem dX8_vote_114 : decode cX8_vote 114 = .ok (.lastore, 1) := by decide +kernel
theorem dX8_vote_115 : decode cX8_vote 115 = .ok (.iinc 4 (-1), 3) := by decide +kernel
theorem dX8_vote_118 : decode cX8_vote 118 = .ok (.goto (-50), 3) := by decide +kernel
theorem dX8_vote_121 : decode cX8_vote 121 = .ok (.iinc 3 1, 3) := by decide +kernel
theorem dX8_vote_124 : decode cX8_vote 124 = .ok (.goto (-64), 3) := by decide +kernel
theorem dX8_vote_127 : decode cX8_vote 127 = .ok (.lconst 0, 1) := by decide +kernel
theorem dX8_vote_128 : decode cX8_vote 128 = .ok (.lstore_n 3, 1) := by decide +kernel
theorem dX8_vote_129 : decode cX8_vote 129 = .ok (.iload_n 1, 1) := by decide +kernel
theorem dX8_vote_130 : decode cX8_vote 130 = .ok (.iconst 2, 1) := by decide +kernel
theorem dX8_vote_131 : decode cX8_vote 131 = .ok (.idiv, 1) := by decide +kernel
theorem dX8_vote_132 : decode cX8_vote 132 = .ok (.iconst 1, 1) := by decide +kernel
theorem dX8_vote_133 : decode cX8_vote 133 = .ok (.iadd, 1) := by decide +kernel
theorem dX8_vote_134 : decode cX8_vote 134 = .ok (.istore 5, 2) := by decide +kernel
theorem dX8_vote_136 : decode cX8_vote 136 = .ok (.iload 5, 2) := by decide +kernel
theorem dX8_vote_138 : decode cX8_vote 138 = .ok (.iload_n 1, 1) := by decide +kernel
theorem dX8_vote_139 : decode cX8_vote 139 = .ok (.if_icmp .gt 19, 3) := by decide +kernel
theorem dX8_vote_142 : decode cX8_vote 142 = .ok (.lload_n 3, 1) := by decide +kernel
theorem dX8_vote_143 : decode cX8_vote 143 = .ok (.aload_n 0, 1) := by decide +kernel
theorem dX8_vote_144 : decode cX8_vote 144 = .ok (.getfield 41, 3) := by decide +kernel
theorem dX8_vote_147 : decode cX8_vote 147 = .ok (.iload 5, 2) := by decide +kernel
theorem dX8_vote_149 : decode cX8_vote 149 = .ok (.laload, 1) := by decide +kernel
theorem dX8_vote_150 : decode cX8_vote 150 = .ok (.ladd, 1) := by decide +kernel
theorem dX8_vote_151 : decode cX8_vote 151 = .ok (.lstore_n 3, 1) := by decide +kernel
theorem dX8_vote_152 : decode cX8_vote 152 = .ok (.iinc 5 1, 3) := by decide +kernel
theorem dX8_vote_155 : decode cX8_vote 155 = .ok (.goto (-19), 3) := by decide +kernel
theorem dX8_vote_158 : decode cX8_vote 158 = .ok (.lload_n 3, 1) := by decide +kernel
theorem dX8_vote_159 : decode cX8_vote 159 = .ok (.l2i, 1) := by decide +kernel
theorem dX8_vote_160 : decode cX8_vote 160 = .ok (.ireturn, 1) := by decide +kernel
theorem dX8_ask_0 : decode cX8_ask 0 = .ok (.aload_n 0, 1) := by decide +kernel
theorem dX8_ask_1 : decode cX8_ask 1 = .ok (.iload_n 1, 1) := by decide +kernel
theorem dX8_ask_2 : decode cX8_ask 2 = .ok (.invokevirtual 198, 3) := by decide +kernel
theorem dX8_ask_5 : decode cX8_ask 5 = .ok (.ifCond .eq 11, 3) := by decide +kernel
theorem dX8_ask_8 : decode cX8_ask 8 = .ok (.aload_n 0, 1) := by decide +kernel
theorem dX8_ask_9 : decode cX8_ask 9 = .ok (.iload_n 2, 1) := by decide +kernel
theorem dX8_ask_10 : decode cX8_ask 10 = .ok (.invokevirtual 166, 3) := by decide +kernel
theorem dX8_ask_13 : decode cX8_ask 13 = .ok (.ifCond .ne 6, 3) := by decide +kernel
theorem dX8_ask_16 : decode cX8_ask 16 = .ok (.ldc 165, 2) := by decide +kernel
theorem dX8_ask_18 : decode cX8_ask 18 = .ok (.ireturn, 1) := by decide +kernel
theorem dX8_ask_19 : decode cX8_ask 19 = .ok (.aload_n 0, 1) := by decide +kernel
theorem dX8_ask_20 : decode cX8_ask 20 = .ok (.getfield 140, 3) := by decide +kernel
theorem dX8_ask_23 : decode cX8_ask 23 = .ok (.bipush 6, 2) := by decide +kernel
theorem dX8_ask_25 : decode cX8_ask 25 = .ok (.if_icmp .ne 6, 3) := by decide +kernel
theorem dX8_ask_28 : decode cX8_ask 28 = .ok (.ldc 86, 2) := by decide +kernel
theorem dX8_ask_30 : decode cX8_ask 30 = .ok (.ireturn, 1) := by decide +kernel
theorem dX8_ask_31 : decode cX8_ask 31 = .ok (.aload_n 0, 1) := by decide +kernel
theorem dX8_ask_32 : decode cX8_ask 32 = .ok (.getfield 45, 3) := by decide +kernel
theorem dX8_ask_35 : decode cX8_ask 35 = .ok (.aload_n 0, 1) := by decide +kernel
theorem dX8_ask_36 : decode cX8_ask 36 = .ok (.getfield 140, 3) := by decide +kernel
theorem dX8_ask_39 : decode cX8_ask 39 = .ok (.iload_n 1, 1) := by decide +kernel
theorem dX8_ask_40 : decode cX8_ask 40 = .ok (.iastore, 1) := by decide +kernel
theorem dX8_ask_41 : decode cX8_ask 41 = .ok (.aload_n 0, 1) := by decide +kernel
theorem dX8_ask_42 : decode cX8_ask 42 = .ok (.getfield 48, 3) := by decide +kernel
theorem dX8_ask_45 : decode cX8_ask 45 = .ok (.aload_n 0, 1) := by decide +kernel
theorem dX8_ask_46 : decode cX8_ask 46 = .ok (.getfield 140, 3) := by decide +kernel
theorem dX8_ask_49 : decode cX8_ask 49 = .ok (.iload_n 2, 1) := by decide +kernel
theorem dX8_ask_50 : decode cX8_ask 50 = .ok (.iastore, 1) := by decide +kernel
theorem dX8_ask_51 : decode cX8_ask 51 = .ok (.aload_n 0, 1) := by decide +kernel
theorem dX8_ask_52 : decode cX8_ask 52 = .ok (.getfield 51, 3) := by decide +kernel
theorem dX8_ask_55 : decode cX8_ask 55 = .ok (.aload_n 0, 1) := by decide +kernel
theorem dX8_ask_56 : decode cX8_ask 56 = .ok (.getfield 140, 3) := by decide +kernel
theorem dX8_ask_59 : decode cX8_ask 59 = .ok (.iload_n 3, 1) := by decide +kernel
theorem dX8_ask_60 : decode cX8_ask 60 = .ok (.bastore, 1) := by decide +kernel
theorem dX8_ask_61 : decode cX8_ask 61 = .ok (.aload_n 0, 1) := by decide +kernel
theorem dX8_ask_62 : decode cX8_ask 62 = .ok (.dup, 1) := by decide +kernel
theorem dX8_ask_63 : decode cX8_ask 63 = .ok (.getfield 140, 3) := by decide +kernel
theorem dX8_ask_66 : decode cX8_ask 66 = .ok (.iconst 1, 1) := by decide +kernel
theorem dX8_ask_67 : decode cX8_ask 67 = .ok (.iadd, 1) := by decide +kernel
theorem dX8_ask_68 : decode cX8_ask 68 = .ok (.putfield 140, 3) := by decide +kernel
theorem dX8_ask_71 : decode cX8_ask 71 = .ok (.aload_n 0, 1) := by decide +kernel
theorem dX8_ask_72 : decode cX8_ask 72 = .ok (.getfield 140, 3) := by decide +kernel
theorem dX8_ask_75 : decode cX8_ask 75 = .ok (.ireturn, 1) := by decide +kernel
theorem dX8_isBelieved_0 : decode cX8_isBelieved 0 = .ok (.iconst 1, 1) := by decide +kernel
theorem dX8_isBelieved_1 : decode cX8_isBelieved 1 = .ok (.istore_n 2, 1) := by decide +kernel
theorem dX8_isBelieved_2 : decode cX8_isBelieved 2 = .ok (.iconst 0, 1) := by decide +kernel
theorem dX8_isBelieved_3 : decode cX8_isBelieved 3 = .ok (.istore_n 3, 1) := by decide +kernel
theorem dX8_isBelieved_4 : decode cX8_isBelieved 4 = .ok (.iload_n 3, 1) := by decide +kernel
theorem dX8_isBelieved_5 : decode cX8_isBelieved 5 = .ok (.aload_n 0, 1) := by decide +kernel
theorem dX8_isBelieved_6 : decode cX8_isBelieved 6 = .ok (.getfield 140, 3) := by decide +kernel
theorem dX8_isBelieved_9 : decode cX8_isBelieved 9 = .ok (.if_icmp .ge 48, 3) := by decide +kernel
theorem dX8_isBelieved_12 : decode cX8_isBelieved 12 = .ok (.iload_n 2, 1) := by decide +kernel
theorem dX8_isBelieved_13 : decode cX8_isBelieved 13 = .ok (.ifCond .eq 36, 3) := by decide +kernel
theorem dX8_isBelieved_16 : decode cX8_isBelieved 16 = .ok (.aload_n 0, 1) := by decide +kernel
theorem dX8_isBelieved_17 : decode cX8_isBelieved 17 = .ok (.aload_n 0, 1) := by decide +kernel
theorem dX8_isBelieved_18 : decode cX8_isBelieved 18 = .ok (.getfield 45, 3) := by decide +kernel
theorem dX8_isBelieved_21 : decode cX8_isBelieved 21 = .ok (.iload_n 3, 1) := by decide +kernel
theorem dX8_isBelieved_22 : decode cX8_isBelieved 22 = .ok (.iaload, 1) := by decide +kernel
theorem dX8_isBelieved_23 : decode cX8_isBelieved 23 = .ok (.iload_n 1, 1) := by decide +kernel
theorem dX8_isBelieved_24 : decode cX8_isBelieved 24 = .ok (.invokevirtual 152, 3) := by decide +kernel
theorem dX8_isBelieved_27 : decode cX8_isBelieved 27 = .ok (.aload_n 0, 1) := by decide +kernel
theorem dX8_isBelieved_28 : decode cX8_isBelieved 28 = .ok (.getfield 48, 3) := by decide +kernel
theorem dX8_isBelieved_31 : decode cX8_isBelieved 31 = .ok (.iload_n 3, 1) := by decide +kernel
theorem dX8_isBelieved_32 : decode cX8_isBelieved 32 = .ok (.iaload, 1) := by decide +kernel
theorem dX8_isBelieved_33 : decode cX8_isBelieved 33 = .ok (.invokestatic 114, 3) := by decide +kernel
theorem dX8_isBelieved_36 : decode cX8_isBelieved 36 = .ok (.aload_n 0, 1) := by decide +kernel
theorem dX8_isBelieved_37 : decode cX8_isBelieved 37 = .ok (.getfield 51, 3) := by decide +kernel
theorem dX8_isBelieved_40 : decode cX8_isBelieved 40 = .ok (.iload_n 3, 1) := by decide +kernel
theorem dX8_isBelieved_41 : decode cX8_isBelieved 41 = .ok (.baload, 1) := by decide +kernel
theorem dX8_isBelieved_42 : decode cX8_isBelieved 42 = .ok (.if_icmp .ne 7, 3) := by decide +kernel
theorem dX8_isBelieved_45 : decode cX8_isBelieved 45 = .ok (.iconst 1, 1) := by decide +kernel
theorem dX8_isBelieved_46 : decode cX8_isBelieved 46 = .ok (.goto 4, 3) := by decide +kernel
theorem dX8_isBelieved_49 : decode cX8_isBelieved 49 = .ok (.iconst 0, 1) := by decide +kernel
theorem dX8_isBelieved_50 : decode cX8_isBelieved 50 = .ok (.istore_n 2, 1) := by decide +kernel
theorem dX8_isBelieved_51 : decode cX8_isBelieved 51 = .ok (.iinc 3 1, 3) := by decide +kernel
theorem dX8_isBelieved_54 : decode cX8_isBelieved 54 = .ok (.goto (-50), 3) := by decide +kernel
theorem dX8_isBelieved_57 : decode cX8_isBelieved 57 = .ok (.iload_n 2, 1) := by decide +kernel
theorem dX8_isBelieved_58 : decode cX8_isBelieved 58 = .ok (.ireturn, 1) := by decide +kernel
theorem dX8_believed_0 : decode cX8_believed 0 = .ok (.iload_n 1, 1) := by decide +kernel
theorem dX8_believed_1 : decode cX8_believed 1 = .ok (.i2l, 1) := by decide +kernel
theorem dX8_believed_2 : decode cX8_believed 2 = .ok (.lconst 0, 1) := by decide +kernel
theorem dX8_believed_3 : decode cX8_believed 3 = .ok (.ldc2_w 217, 3) := by decide +kernel
theorem dX8_believed_6 : decode cX8_believed 6 = .ok (.invokestatic 73, 3) := by decide +kernel
theorem dX8_believed_9 : decode cX8_believed 9 = .ok (.ifCond .ne 6, 3) := by decide +kernel
theorem dX8_believed_12 : decode cX8_believed 12 = .ok (.ldc 82, 2) := by decide +kernel
theorem dX8_believed_14 : decode cX8_believed 14 = .ok (.ireturn, 1) := by decide +kernel
theorem dX8_believed_15 : decode cX8_believed 15 = .ok (.iconst 0, 1) := by decide +kernel
theorem dX8_believed_16 : decode cX8_believed 16 = .ok (.istore_n 2, 1) := by decide +kernel
theorem dX8_believed_17 : decode cX8_believed 17 = .ok (.iconst (-1), 1) := by decide +kernel
theorem dX8_believed_18 : decode cX8_believed 18 = .ok (.istore_n 3, 1) := by decide +kernel
theorem dX8_believed_19 : decode cX8_believed 19 = .ok (.iconst 1, 1) := by decide +kernel
theorem dX8_believed_20 : decode cX8_believed 20 = .ok (.aload_n 0, 1) := by decide +kernel
theorem dX8_believed_21 : decode cX8_believed 21 = .ok (.getfield 77, 3) := by decide +kernel
theorem dX8_believed_24 : decode cX8_believed 24 = .ok (.ishl, 1) := by decide +kernel
theorem dX8_believed_25 : decode cX8_believed 25 = .ok (.iconst 1, 1) := by decide +kernel
theorem dX8_believed_26 : decode cX8_believed 26 = .ok (.isub, 1) := by decide +kernel
theorem dX8_believed_27 : decode cX8_believed 27 = .ok (.istore 4, 2) := by decide +kernel
theorem dX8_believed_29 : decode cX8_believed 29 = .ok (.iconst 0, 1) := by decide +kernel
theorem dX8_believed_30 : decode cX8_believed 30 = .ok (.istore 5, 2) := by decide +kernel
theorem dX8_believed_32 : decode cX8_believed 32 = .ok (.iload 5, 2) := by decide +kernel
theorem dX8_believed_34 : decode cX8_believed 34 = .ok (.iconst 1, 1) := by decide +kernel
theorem dX8_believed_35 : decode cX8_believed 35 = .ok (.aload_n 0, 1) := by decide +kernel
theorem dX8_believed_36 : decode cX8_believed 36 = .ok (.getfield 77, 3) := by decide +kernel
theorem dX8_believed_39 : decode cX8_believed 39 = .ok (.ishl, 1) := by decide +kernel
theorem dX8_believed_40 : decode cX8_believed 40 = .ok (.if_icmp .ge 39, 3) := by decide +kernel
theorem dX8_believed_43 : decode cX8_believed 43 = .ok (.aload_n 0, 1) := by decide +kernel
theorem dX8_believed_44 : decode cX8_believed 44 = .ok (.iload 5, 2) := by decide +kernel
theorem dX8_believed_46 : decode cX8_believed 46 = .ok (.invokevirtual 219, 3) := by decide +kernel
theorem dX8_believed_49 : decode cX8_believed 49 = .ok (.ifCond .eq 24, 3) := by decide +kernel
theorem dX8_believed_52 : decode cX8_believed 52 = .ok (.iload_n 2, 1) := by decide +kernel
theorem dX8_believed_53 : decode cX8_believed 53 = .ok (.ifCond .ne 8, 3) := by decide +kernel
theorem dX8_believed_56 : decode cX8_believed 56 = .ok (.iload 5, 2) := by decide +kernel
theorem dX8_believed_58 : decode cX8_believed 58 = .ok (.goto 4, 3) := by decide +kernel
theorem dX8_believed_61 : decode cX8_believed 61 = .ok (.iload_n 3, 1) := by decide +kernel
theorem dX8_believed_62 : decode cX8_believed 62 = .ok (.istore_n 3, 1) := by decide +kernel
theorem dX8_believed_63 : decode cX8_believed 63 = .ok (.iload 4, 2) := by decide +kernel
theorem dX8_believed_65 : decode cX8_believed 65 = .ok (.iload 5, 2) := by decide +kernel
theorem dX8_believed_67 : decode cX8_believed 67 = .ok (.iand, 1) := by decide +kernel
theorem dX8_believed_68 : decode cX8_believed 68 = .ok (.istore 4, 2) := by decide +kernel
theorem dX8_believed_70 : decode cX8_believed 70 = .ok (.iinc 2 1, 3) := by decide +kernel
theorem dX8_believed_73 : decode cX8_believed 73 = .ok (.iinc 5 1, 3) := by decide +kernel
theorem dX8_believed_76 : decode cX8_believed 76 = .ok (.goto (-44), 3) := by decide +kernel
theorem dX8_believed_79 : decode cX8_believed 79 = .ok (.iload_n 1, 1) := by decide +kernel
theorem dX8_believed_80 : decode cX8_believed 80 = .ok (.ifCond .ne 7, 3) := by decide +kernel
theorem dX8_believed_83 : decode cX8_believed 83 = .ok (.iload_n 2, 1) := by decide +kernel
theorem dX8_believed_84 : decode cX8_believed 84 = .ok (.goto 22, 3) := by decide +kernel
theorem dX8_believed_87 : decode cX8_believed 87 = .ok (.iload_n 1, 1) := by decide +kernel
theorem dX8_believed_88 : decode cX8_believed 88 = .ok (.iconst 1, 1) := by decide +kernel
theorem dX8_believed_89 : decode cX8_believed 89 = .ok (.if_icmp .ne 7, 3) := by decide +kernel
theorem dX8_believed_92 : decode cX8_believed 92 = .ok (.iload_n 3, 1) := by decide +kernel
theorem dX8_believed_93 : decode cX8_believed 93 = .ok (.goto 13, 3) := by decide +kernel
theorem dX8_believed_96 : decode cX8_believed 96 = .ok (.iload_n 2, 1) := by decide +kernel
theorem dX8_believed_97 : decode cX8_believed 97 = .ok (.ifCond .ne 7, 3) := by decide +kernel
theorem dX8_believed_100 : decode cX8_believed 100 = .ok (.iconst 0, 1) := by decide +kernel
theorem dX8_believed_101 : decode cX8_believed 101 = .ok (.goto 5, 3) := by decide +kernel
theorem dX8_believed_104 : decode cX8_believed 104 = .ok (.iload 4, 2) := by decide +kernel
theorem dX8_believed_106 : decode cX8_believed 106 = .ok (.ireturn, 1) := by decide +kernel
theorem dX8_askNext_0 : decode cX8_askNext 0 = .ok (.iconst 0, 1) := by decide +kernel
theorem dX8_askNext_1 : decode cX8_askNext 1 = .ok (.istore_n 1, 1) := by decide +kernel
theorem dX8_askNext_2 : decode cX8_askNext 2 = .ok (.iconst 0, 1) := by decide +kernel
theorem dX8_askNext_3 : decode cX8_askNext 3 = .ok (.istore_n 2, 1) := by decide +kernel
theorem dX8_askNext_4 : decode cX8_askNext 4 = .ok (.iload_n 2, 1) := by decide +kernel
theorem dX8_askNext_5 : decode cX8_askNext 5 = .ok (.bipush 16, 2) := by decide +kernel
theorem dX8_askNext_7 : decode cX8_askNext 7 = .ok (.if_icmp .ge 16, 3) := by decide +kernel
theorem dX8_askNext_10 : decode cX8_askNext 10 = .ok (.aload_n 0, 1) := by decide +kernel
theorem dX8_askNext_11 : decode cX8_askNext 11 = .ok (.getfield 55, 3) := by decide +kernel
theorem dX8_askNext_14 : decode cX8_askNext 14 = .ok (.iload_n 2, 1) := by decide +kernel
theorem dX8_askNext_15 : decode cX8_askNext 15 = .ok (.iconst 0, 1) := by decide +kernel
theorem dX8_askNext_16 : decode cX8_askNext 16 = .ok (.iastore, 1) := by decide +kernel
theorem dX8_askNext_17 : decode cX8_askNext 17 = .ok (.iinc 2 1, 3) := by decide +kernel
theorem dX8_askNext_20 : decode cX8_askNext 20 = .ok (.goto (-16), 3) := by decide +kernel
theorem dX8_askNext_23 : decode cX8_askNext 23 = .ok (.iconst 0, 1) := by decide +kernel
theorem dX8_askNext_24 : decode cX8_askNext 24 = .ok (.istore_n 2, 1) := by decide +kernel
theorem dX8_askNext_25 : decode cX8_askNext 25 = .ok (.iload_n 2, 1) := by decide +kernel
theorem dX8_askNext_26 : decode cX8_askNext 26 = .ok (.iconst 1, 1) := by decide +kernel
theorem dX8_askNext_27 : decode cX8_askNext 27 = .ok (.aload_n 0, 1) := by decide +kernel
theorem dX8_askNext_28 : decode cX8_askNext 28 = .ok (.getfield 77, 3) := by decide +kernel
theorem dX8_askNext_31 : decode cX8_askNext 31 = .ok (.ishl, 1) := by decide +kernel
theorem dX8_askNext_32 : decode cX8_askNext 32 = .ok (.if_icmp .ge 64, 3) := by decide +kernel
theorem dX8_askNext_35 : decode cX8_askNext 35 = .ok (.aload_n 0, 1) := by decide +kernel
theorem dX8_askNext_36 : decode cX8_askNext 36 = .ok (.iload_n 2, 1) := by decide +kernel
theorem dX8_askNext_37 : decode cX8_askNext 37 = .ok (.invokevirtual 219, 3) := by decide +kernel
theorem dX8_askNext_40 : decode cX8_askNext 40 = .ok (.ifCond .eq 50, 3) := by decide +kernel
theorem dX8_askNext_43 : decode cX8_askNext 43 = .ok (.aload_n 0, 1) := by decide +kernel
theorem dX8_askNext_44 : decode cX8_askNext 44 = .ok (.aload_n 0, 1) := by decide +kernel
theorem dX8_askNext_45 : decode cX8_askNext 45 = .ok (.getfield 19, 3) := by decide +kernel
theorem dX8_askNext_48 : decode cX8_askNext 48 = .ok (.iconst 0, 1) := by decide +kernel
theorem dX8_askNext_49 : decode cX8_askNext 49 = .ok (.iaload, 1) := by decide +kernel
theorem dX8_askNext_50 : decode cX8_askNext 50 = .ok (.iload_n 2, 1) := by decide +kernel
theorem dX8_askNext_51 : decode cX8_askNext 51 = .ok (.invokevirtual 152, 3) := by decide +kernel
theorem dX8_askNext_54 : decode cX8_askNext 54 = .ok (.istore_n 3, 1) := by decide +kernel
theorem dX8_askNext_55 : decode cX8_askNext 55 = .ok (.iinc 1 1, 3) := by decide +kernel
theorem dX8_askNext_58 : decode cX8_askNext 58 = .ok (.iconst 0, 1) := by decide +kernel
theorem dX8_askNext_59 : decode cX8_askNext 59 = .ok (.istore 4, 2) := by decide +kernel
theorem dX8_askNext_61 : decode cX8_askNext 61 = .ok (.iload 4, 2) := by decide +kernel
theorem dX8_askNext_63 : decode cX8_askNext 63 = .ok (.bipush 16, 2) := by decide +kernel
theorem dX8_askNext_65 : decode cX8_askNext 65 = .ok (.if_icmp .ge 25, 3) := by decide +kernel
theorem dX8_askNext_68 : decode cX8_askNext 68 = .ok (.aload_n 0, 1) := by decide +kernel
theorem dX8_askNext_69 : decode cX8_askNext 69 = .ok (.getfield 55, 3) := by decide +kernel
theorem dX8_askNext_72 : decode cX8_askNext 72 = .ok (.iload 4, 2) := by decide +kernel
theorem dX8_askNext_74 : decode cX8_askNext 74 = .ok (.dup2, 1) := by decide +kernel
theorem dX8_askNext_75 : decode cX8_askNext 75 = .ok (.iaload, 1) := by decide +kernel
theorem dX8_askNext_76 : decode cX8_askNext 76 = .ok (.iload_n 3, 1) := by decide +kernel
theorem dX8_askNext_77 : decode cX8_askNext 77 = .ok (.iload 4, 2) := by decide +kernel
theorem dX8_askNext_79 : decode cX8_askNext 79 = .ok (.ishr, 1) := by decide +kernel
theorem dX8_askNext_80 : decode cX8_askNext 80 = .ok (.iconst 1, 1) := by decide +kernel
theorem dX8_askNext_81 : decode cX8_askNext 81 = .ok (.iand, 1) := by decide +kernel
theorem dX8_askNext_82 : decode cX8_askNext 82 = .ok (.iadd, 1) := by decide +kernel
theorem dX8_askNext_83 : decode cX8_askNext 83 = .ok (.iastore, 1) := by decide +kernel
theorem dX8_askNext_84 : decode cX8_askNext 84 = .ok (.iinc 4 1, 3) := by decide +kernel
theorem dX8_askNext_87 : decode cX8_askNext 87 = .ok (.goto (-26), 3) := by decide +kernel
theorem dX8_askNext_90 : decode cX8_askNext 90 = .ok (.iinc 2 1, 3) := by decide +kernel
theorem dX8_askNext_93 : decode cX8_askNext 93 = .ok (.goto (-68), 3) := by decide +kernel
theorem dX8_askNext_96 : decode cX8_askNext 96 = .ok (.iconst (-1), 1) := by decide +kernel
theorem dX8_askNext_97 : decode cX8_askNext 97 = .ok (.istore_n 2, 1) := by decide +kernel
theorem dX8_askNext_98 : decode cX8_askNext 98 = .ok (.iload_n 1, 1) := by decide +kernel
theorem dX8_askNext_99 : decode cX8_askNext 99 = .ok (.istore_n 3, 1) := by decide +kernel
theorem dX8_askNext_100 : decode cX8_askNext 100 = .ok (.iconst 0, 1) := by decide +kernel
theorem dX8_askNext_101 : decode cX8_askNext 101 = .ok (.istore 4, 2) := by decide +kernel
theorem dX8_askNext_103 : decode cX8_askNext 103 = .ok (.iload 4, 2) := by decide +kernel
theorem dX8_askNext_105 : decode cX8_askNext 105 = .ok (.iconst 2, 1) := by decide +kernel
theorem dX8_askNext_106 : decode cX8_askNext 106 = .ok (.aload_n 0, 1) := by decide +kernel
theorem dX8_askNext_107 : decode cX8_askNext 107 = .ok (.getfield 70, 3) := by decide +kernel
theorem dX8_askNext_110 : decode cX8_askNext 110 = .ok (.imul, 1) := by decide +kernel
theorem dX8_askNext_111 : decode cX8_askNext 111 = .ok (.if_icmp .ge 75, 3) := by decide +kernel
theorem dX8_askNext_114 : decode cX8_askNext 114 = .ok (.aload_n 0, 1) := by decide +kernel
theorem dX8_askNext_115 : decode cX8_askNext 115 = .ok (.getfield 55, 3) := by decide +kernel
theorem dX8_askNext_118 : decode cX8_askNext 118 = .ok (.iload 4, 2) := by decide +kernel
theorem dX8_askNext_120 : decode cX8_askNext 120 = .ok (.iaload, 1) := by decide +kernel
theorem dX8_askNext_121 : decode cX8_askNext 121 = .ok (.iload_n 1, 1) := by decide +kernel
theorem dX8_askNext_122 : decode cX8_askNext 122 = .ok (.aload_n 0, 1) := by decide +kernel
theorem dX8_askNext_123 : decode cX8_askNext 123 = .ok (.getfield 55, 3) := by decide +kernel
theorem dX8_askNext_126 : decode cX8_askNext 126 = .ok (.iload 4, 2) := by decide +kernel
theorem dX8_askNext_128 : decode cX8_askNext 128 = .ok (.iaload, 1) := by decide +kernel
theorem dX8_askNext_129 : decode cX8_askNext 129 = .ok (.isub, 1) := by decide +kernel
theorem dX8_askNext_130 : decode cX8_askNext 130 = .ok (.if_icmp .le 13, 3) := by decide +kernel
theorem dX8_askNext_133 : decode cX8_askNext 133 = .ok (.aload_n 0, 1) := by decide +kernel
theorem dX8_askNext_134 : decode cX8_askNext 134 = .ok (.getfield 55, 3) := by decide +kernel
theorem dX8_askNext_137 : decode cX8_askNext 137 = .ok (.iload 4, 2) := by decide +kernel
theorem dX8_askNext_139 : decode cX8_askNext 139 = .ok (.iaload, 1) := by decide +kernel
theorem dX8_askNext_140 : decode cX8_askNext 140 = .ok (.goto 12, 3) := by decide +kernel
theorem dX8_askNext_143 : decode cX8_askNext 143 = .ok (.iload_n 1, 1) := by decide +kernel
theorem dX8_askNext_144 : decode cX8_askNext 144 = .ok (.aload_n 0, 1) := by decide +kernel
theorem dX8_askNext_145 : decode cX8_askNext 145 = .ok (.getfield 55, 3) := by decide +kernel
theorem dX8_askNext_148 : decode cX8_askNext 148 = .ok (.iload 4, 2) := by decide +kernel
theorem dX8_askNext_150 : decode cX8_askNext 150 = .ok (.iaload, 1) := by decide +kernel
theorem dX8_askNext_151 : decode cX8_askNext 151 = .ok (.isub, 1) := by decide +kernel
theorem dX8_askNext_152 : decode cX8_askNext 152 = .ok (.istore 5, 2) := by decide +kernel
theorem dX8_askNext_154 : decode cX8_askNext 154 = .ok (.iload 5, 2) := by decide +kernel
theorem dX8_askNext_156 : decode cX8_askNext 156 = .ok (.iload_n 3, 1) := by decide +kernel
theorem dX8_askNext_157 : decode cX8_askNext 157 = .ok (.if_icmp .ge 8, 3) := by decide +kernel
theorem dX8_askNext_160 : decode cX8_askNext 160 = .ok (.iload 4, 2) := by decide +kernel
theorem dX8_askNext_162 : decode cX8_askNext 162 = .ok (.goto 4, 3) := by decide +kernel
theorem dX8_askNext_165 : decode cX8_askNext 165 = .ok (.iload_n 2, 1) := by decide +kernel
theorem dX8_askNext_166 : decode cX8_askNext 166 = .ok (.istore_n 2, 1) := by decide +kernel
theorem dX8_askNext_167 : decode cX8_askNext 167 = .ok (.iload 5, 2) := by decide +kernel
theorem dX8_askNext_169 : decode cX8_askNext 169 = .ok (.iload_n 3, 1) := by decide +kernel
theorem dX8_askNext_170 : decode cX8_askNext 170 = .ok (.if_icmp .ge 8, 3) := by decide +kernel
theorem dX8_askNext_173 : decode cX8_askNext 173 = .ok (.iload 5, 2) := by decide +kernel
theorem dX8_askNext_175 : decode cX8_askNext 175 = .ok (.goto 4, 3) := by decide +kernel
theorem dX8_askNext_178 : decode cX8_askNext 178 = .ok (.iload_n 3, 1) := by decide +kernel
theorem dX8_askNext_179 : decode cX8_askNext 179 = .ok (.istore_n 3, 1) := by decide +kernel
theorem dX8_askNext_180 : decode cX8_askNext 180 = .ok (.iinc 4 1, 3) := by decide +kernel
theorem dX8_askNext_183 : decode cX8_askNext 183 = .ok (.goto (-80), 3) := by decide +kernel
theorem dX8_askNext_186 : decode cX8_askNext 186 = .ok (.iload_n 2, 1) := by decide +kernel
theorem dX8_askNext_187 : decode cX8_askNext 187 = .ok (.ireturn, 1) := by decide +kernel
theorem dX8_write_0 : decode cX8_write 0 = .ok (.aload_n 0, 1) := by decide +kernel
theorem dX8_write_1 : decode cX8_write 1 = .ok (.iload_n 1, 1) := by decide +kernel
theorem dX8_write_2 : decode cX8_write 2 = .ok (.invokevirtual 166, 3) := by decide +kernel
theorem dX8_write_5 : decode cX8_write 5 = .ok (.ifCond .ne 6, 3) := by decide +kernel
theorem dX8_write_8 : decode cX8_write 8 = .ok (.ldc 165, 2) := by decide +kernel
theorem dX8_write_10 : decode cX8_write 10 = .ok (.ireturn, 1) := by decide +kernel
theorem dX8_write_11 : decode cX8_write 11 = .ok (.iload_n 2, 1) := by decide +kernel
theorem dX8_write_12 : decode cX8_write 12 = .ok (.i2l, 1) := by decide +kernel
theorem dX8_write_13 : decode cX8_write 13 = .ok (.lconst 0, 1) := by decide +kernel
theorem dX8_write_14 : decode cX8_write 14 = .ok (.lconst 1, 1) := by decide +kernel
theorem dX8_write_15 : decode cX8_write 15 = .ok (.invokestatic 73, 3) := by decide +kernel
theorem dX8_write_18 : decode cX8_write 18 = .ok (.ifCond .ne 6, 3) := by decide +kernel
theorem dX8_write_21 : decode cX8_write 21 = .ok (.ldc 82, 2) := by decide +kernel
theorem dX8_write_23 : decode cX8_write 23 = .ok (.ireturn, 1) := by decide +kernel
theorem dX8_write_24 : decode cX8_write 24 = .ok (.aload_n 0, 1) := by decide +kernel
theorem dX8_write_25 : decode cX8_write 25 = .ok (.getfield 143, 3) := by decide +kernel
theorem dX8_write_28 : decode cX8_write 28 = .ok (.bipush 15, 2) := by decide +kernel
theorem dX8_write_30 : decode cX8_write 30 = .ok (.if_icmp .ne 6, 3) := by decide +kernel
theorem dX8_write_33 : decode cX8_write 33 = .ok (.ldc 86, 2) := by decide +kernel
theorem dX8_write_35 : decode cX8_write 35 = .ok (.ireturn, 1) := by decide +kernel
theorem dX8_write_36 : decode cX8_write 36 = .ok (.aload_n 0, 1) := by decide +kernel
theorem dX8_write_37 : decode cX8_write 37 = .ok (.getfield 58, 3) := by decide +kernel
theorem dX8_write_40 : decode cX8_write 40 = .ok (.aload_n 0, 1) := by decide +kernel
theorem dX8_write_41 : decode cX8_write 41 = .ok (.getfield 143, 3) := by decide +kernel
theorem dX8_write_44 : decode cX8_write 44 = .ok (.iload_n 1, 1) := by decide +kernel
theorem dX8_write_45 : decode cX8_write 45 = .ok (.iastore, 1) := by decide +kernel
theorem dX8_write_46 : decode cX8_write 46 = .ok (.aload_n 0, 1) := by decide +kernel
theorem dX8_write_47 : decode cX8_write 47 = .ok (.getfield 61, 3) := by decide +kernel
theorem dX8_write_50 : decode cX8_write 50 = .ok (.aload_n 0, 1) := by decide +kernel
theorem dX8_write_51 : decode cX8_write 51 = .ok (.getfield 143, 3) := by decide +kernel
theorem dX8_write_54 : decode cX8_write 54 = .ok (.iload_n 2, 1) := by decide +kernel
theorem dX8_write_55 : decode cX8_write 55 = .ok (.iastore, 1) := by decide +kernel
theorem dX8_write_56 : decode cX8_write 56 = .ok (.aload_n 0, 1) := by decide +kernel
theorem dX8_write_57 : decode cX8_write 57 = .ok (.dup, 1) := by decide +kernel
theorem dX8_write_58 : decode cX8_write 58 = .ok (.getfield 143, 3) := by decide +kernel
theorem dX8_write_61 : decode cX8_write 61 = .ok (.iconst 1, 1) := by decide +kernel
theorem dX8_write_62 : decode cX8_write 62 = .ok (.iadd, 1) := by decide +kernel
theorem dX8_write_63 : decode cX8_write 63 = .ok (.putfield 143, 3) := by decide +kernel
theorem dX8_write_66 : decode cX8_write 66 = .ok (.aload_n 0, 1) := by decide +kernel
theorem dX8_write_67 : decode cX8_write 67 = .ok (.getfield 143, 3) := by decide +kernel
theorem dX8_write_70 : decode cX8_write 70 = .ok (.ireturn, 1) := by decide +kernel
theorem dX8_tear_0 : decode cX8_tear 0 = .ok (.aload_n 0, 1) := by decide +kernel
theorem dX8_tear_1 : decode cX8_tear 1 = .ok (.getfield 140, 3) := by decide +kernel
theorem dX8_tear_4 : decode cX8_tear 4 = .ok (.aload_n 0, 1) := by decide +kernel
theorem dX8_tear_5 : decode cX8_tear 5 = .ok (.getfield 143, 3) := by decide +kernel
theorem dX8_tear_8 : decode cX8_tear 8 = .ok (.iadd, 1) := by decide +kernel
theorem dX8_tear_9 : decode cX8_tear 9 = .ok (.istore_n 1, 1) := by decide +kernel
theorem dX8_tear_10 : decode cX8_tear 10 = .ok (.aload_n 0, 1) := by decide +kernel
theorem dX8_tear_11 : decode cX8_tear 11 = .ok (.iconst 0, 1) := by decide +kernel
theorem dX8_tear_12 : decode cX8_tear 12 = .ok (.putfield 140, 3) := by decide +kernel
theorem dX8_tear_15 : decode cX8_tear 15 = .ok (.aload_n 0, 1) := by decide +kernel
theorem dX8_tear_16 : decode cX8_tear 16 = .ok (.iconst 0, 1) := by decide +kernel
theorem dX8_tear_17 : decode cX8_tear 17 = .ok (.putfield 143, 3) := by decide +kernel
theorem dX8_tear_20 : decode cX8_tear 20 = .ok (.iload_n 1, 1) := by decide +kernel
theorem dX8_tear_21 : decode cX8_tear 21 = .ok (.ireturn, 1) := by decide +kernel
theorem dX8_judge_0 : decode cX8_judge 0 = .ok (.aload_n 0, 1) := by decide +kernel
theorem dX8_judge_1 : decode cX8_judge 1 = .ok (.invokevirtual 155, 3) := by decide +kernel
theorem dX8_judge_4 : decode cX8_judge 4 = .ok (.istore_n 1, 1) := by decide +kernel
theorem dX8_judge_5 : decode cX8_judge 5 = .ok (.iconst 0, 1) := by decide +kernel
theorem dX8_judge_6 : decode cX8_judge 6 = .ok (.istore_n 2, 1) := by decide +kernel
theorem dX8_judge_7 : decode cX8_judge 7 = .ok (.iload_n 2, 1) := by decide +kernel
theorem dX8_judge_8 : decode cX8_judge 8 = .ok (.aload_n 0, 1) := by decide +kernel
theorem dX8_judge_9 : decode cX8_judge 9 = .ok (.getfield 143, 3) := by decide +kernel
theorem dX8_judge_12 : decode cX8_judge 12 = .ok (.if_icmp .ge 30, 3) := by decide +kernel
theorem dX8_judge_15 : decode cX8_judge 15 = .ok (.iload_n 1, 1) := by decide +kernel
theorem dX8_judge_16 : decode cX8_judge 16 = .ok (.aload_n 0, 1) := by decide +kernel
theorem dX8_judge_17 : decode cX8_judge 17 = .ok (.getfield 58, 3) := by decide +kernel
theorem dX8_judge_20 : decode cX8_judge 20 = .ok (.iload_n 2, 1) := by decide +kernel
theorem dX8_judge_21 : decode cX8_judge 21 = .ok (.iaload, 1) := by decide +kernel
theorem dX8_judge_22 : decode cX8_judge 22 = .ok (.ishr, 1) := by decide +kernel
theorem dX8_judge_23 : decode cX8_judge 23 = .ok (.iconst 1, 1) := by decide +kernel
theorem dX8_judge_24 : decode cX8_judge 24 = .ok (.iand, 1) := by decide +kernel
theorem dX8_judge_25 : decode cX8_judge 25 = .ok (.aload_n 0, 1) := by decide +kernel
theorem dX8_judge_26 : decode cX8_judge 26 = .ok (.getfield 61, 3) := by decide +kernel
theorem dX8_judge_29 : decode cX8_judge 29 = .ok (.iload_n 2, 1) := by decide +kernel
theorem dX8_judge_30 : decode cX8_judge 30 = .ok (.iaload, 1) := by decide +kernel
theorem dX8_judge_31 : decode cX8_judge 31 = .ok (.if_icmp .eq 5, 3) := by decide +kernel
theorem dX8_judge_34 : decode cX8_judge 34 = .ok (.iload_n 2, 1) := by decide +kernel
theorem dX8_judge_35 : decode cX8_judge 35 = .ok (.ireturn, 1) := by decide +kernel
theorem dX8_judge_36 : decode cX8_judge 36 = .ok (.iinc 2 1, 3) := by decide +kernel
theorem dX8_judge_39 : decode cX8_judge 39 = .ok (.goto (-32), 3) := by decide +kernel
theorem dX8_judge_42 : decode cX8_judge 42 = .ok (.iconst (-1), 1) := by decide +kernel
theorem dX8_judge_43 : decode cX8_judge 43 = .ok (.ireturn, 1) := by decide +kernel
theorem dX8_seed_0 : decode cX8_seed 0 = .ok (.iload_n 1, 1) := by decide +kernel
theorem dX8_seed_1 : decode cX8_seed 1 = .ok (.ifCond .ge 6, 3) := by decide +kernel
theorem dX8_seed_4 : decode cX8_seed 4 = .ok (.ldc 82, 2) := by decide +kernel
theorem dX8_seed_6 : decode cX8_seed 6 = .ok (.ireturn, 1) := by decide +kernel
theorem dX8_seed_7 : decode cX8_seed 7 = .ok (.aload_n 0, 1) := by decide +kernel
theorem dX8_seed_8 : decode cX8_seed 8 = .ok (.getfield 180, 3) := by decide +kernel
theorem dX8_seed_11 : decode cX8_seed 11 = .ok (.istore_n 2, 1) := by decide +kernel
theorem dX8_seed_12 : decode cX8_seed 12 = .ok (.aload_n 0, 1) := by decide +kernel
theorem dX8_seed_13 : decode cX8_seed 13 = .ok (.iload_n 1, 1) := by decide +kernel
theorem dX8_seed_14 : decode cX8_seed 14 = .ok (.putfield 180, 3) := by decide +kernel
theorem dX8_seed_17 : decode cX8_seed 17 = .ok (.iload_n 2, 1) := by decide +kernel
theorem dX8_seed_18 : decode cX8_seed 18 = .ok (.ireturn, 1) := by decide +kernel
theorem dX8_keep_0 : decode cX8_keep 0 = .ok (.iload_n 1, 1) := by decide +kernel
theorem dX8_keep_1 : decode cX8_keep 1 = .ok (.i2l, 1) := by decide +kernel
theorem dX8_keep_2 : decode cX8_keep 2 = .ok (.lconst 0, 1) := by decide +kernel
theorem dX8_keep_3 : decode cX8_keep 3 = .ok (.lconst 1, 1) := by decide +kernel
theorem dX8_keep_4 : decode cX8_keep 4 = .ok (.invokestatic 73, 3) := by decide +kernel
theorem dX8_keep_7 : decode cX8_keep 7 = .ok (.ifCond .ne 6, 3) := by decide +kernel
theorem dX8_keep_10 : decode cX8_keep 10 = .ok (.ldc 165, 2) := by decide +kernel
theorem dX8_keep_12 : decode cX8_keep 12 = .ok (.ireturn, 1) := by decide +kernel
theorem dX8_keep_13 : decode cX8_keep 13 = .ok (.iconst 0, 1) := by decide +kernel
theorem dX8_keep_14 : decode cX8_keep 14 = .ok (.istore_n 2, 1) := by decide +kernel
theorem dX8_keep_15 : decode cX8_keep 15 = .ok (.iload_n 2, 1) := by decide +kernel
theorem dX8_keep_16 : decode cX8_keep 16 = .ok (.iconst 4, 1) := by decide +kernel
theorem dX8_keep_17 : decode cX8_keep 17 = .ok (.if_icmp .ge 25, 3) := by decide +kernel
theorem dX8_keep_20 : decode cX8_keep 20 = .ok (.aload_n 0, 1) := by decide +kernel
theorem dX8_keep_21 : decode cX8_keep 21 = .ok (.getfield 64, 3) := by decide +kernel
theorem dX8_keep_24 : decode cX8_keep 24 = .ok (.iconst 5, 1) := by decide +kernel
theorem dX8_keep_25 : decode cX8_keep 25 = .ok (.iload_n 1, 1) := by decide +kernel
theorem dX8_keep_26 : decode cX8_keep 26 = .ok (.imul, 1) := by decide +kernel
theorem dX8_keep_27 : decode cX8_keep 27 = .ok (.iload_n 2, 1) := by decide +kernel
theorem dX8_keep_28 : decode cX8_keep 28 = .ok (.iadd, 1) := by decide +kernel
theorem dX8_keep_29 : decode cX8_keep 29 = .ok (.aload_n 0, 1) := by decide +kernel
theorem dX8_keep_30 : decode cX8_keep 30 = .ok (.getfield 19, 3) := by decide +kernel
theorem dX8_keep_33 : decode cX8_keep 33 = .ok (.iload_n 2, 1) := by decide +kernel
theorem dX8_keep_34 : decode cX8_keep 34 = .ok (.iaload, 1) := by decide +kernel
theorem dX8_keep_35 : decode cX8_keep 35 = .ok (.iastore, 1) := by decide +kernel
theorem dX8_keep_36 : decode cX8_keep 36 = .ok (.iinc 2 1, 3) := by decide +kernel
theorem dX8_keep_39 : decode cX8_keep 39 = .ok (.goto (-24), 3) := by decide +kernel
theorem dX8_keep_42 : decode cX8_keep 42 = .ok (.aload_n 0, 1) := by decide +kernel
theorem dX8_keep_43 : decode cX8_keep 43 = .ok (.getfield 64, 3) := by decide +kernel
theorem dX8_keep_46 : decode cX8_keep 46 = .ok (.iconst 5, 1) := by decide +kernel
theorem dX8_keep_47 : decode cX8_keep 47 = .ok (.iload_n 1, 1) := by decide +kernel
theorem dX8_keep_48 : decode cX8_keep 48 = .ok (.imul, 1) := by decide +kernel
theorem dX8_keep_49 : decode cX8_keep 49 = .ok (.iconst 4, 1) := by decide +kernel
theorem dX8_keep_50 : decode cX8_keep 50 = .ok (.iadd, 1) := by decide +kernel
theorem dX8_keep_51 : decode cX8_keep 51 = .ok (.aload_n 0, 1) := by decide +kernel
theorem dX8_keep_52 : decode cX8_keep 52 = .ok (.getfield 180, 3) := by decide +kernel
theorem dX8_keep_55 : decode cX8_keep 55 = .ok (.iastore, 1) := by decide +kernel
theorem dX8_keep_56 : decode cX8_keep 56 = .ok (.aload_n 0, 1) := by decide +kernel
theorem dX8_keep_57 : decode cX8_keep 57 = .ok (.getfield 67, 3) := by decide +kernel
theorem dX8_keep_60 : decode cX8_keep 60 = .ok (.iload_n 1, 1) := by decide +kernel
theorem dX8_keep_61 : decode cX8_keep 61 = .ok (.iconst 1, 1) := by decide +kernel
theorem dX8_keep_62 : decode cX8_keep 62 = .ok (.bastore, 1) := by decide +kernel
theorem dX8_keep_63 : decode cX8_keep 63 = .ok (.aload_n 0, 1) := by decide +kernel
theorem dX8_keep_64 : decode cX8_keep 64 = .ok (.iconst 0, 1) := by decide +kernel
theorem dX8_keep_65 : decode cX8_keep 65 = .ok (.putfield 146, 3) := by decide +kernel
theorem dX8_keep_68 : decode cX8_keep 68 = .ok (.iconst 1, 1) := by decide +kernel
theorem dX8_keep_69 : decode cX8_keep 69 = .ok (.ireturn, 1) := by decide +kernel
theorem dX8_goBack_0 : decode cX8_goBack 0 = .ok (.iload_n 1, 1) := by decide +kernel
theorem dX8_goBack_1 : decode cX8_goBack 1 = .ok (.i2l, 1) := by decide +kernel
theorem dX8_goBack_2 : decode cX8_goBack 2 = .ok (.lconst 0, 1) := by decide +kernel
theorem dX8_goBack_3 : decode cX8_goBack 3 = .ok (.lconst 1, 1) := by decide +kernel
theorem dX8_goBack_4 : decode cX8_goBack 4 = .ok (.invokestatic 73, 3) := by decide +kernel
theorem dX8_goBack_7 : decode cX8_goBack 7 = .ok (.ifCond .ne 6, 3) := by decide +kernel
theorem dX8_goBack_10 : decode cX8_goBack 10 = .ok (.ldc 165, 2) := by decide +kernel
theorem dX8_goBack_12 : decode cX8_goBack 12 = .ok (.ireturn, 1) := by decide +kernel
theorem dX8_goBack_13 : decode cX8_goBack 13 = .ok (.aload_n 0, 1) := by decide +kernel
theorem dX8_goBack_14 : decode cX8_goBack 14 = .ok (.getfield 67, 3) := by decide +kernel
theorem dX8_goBack_17 : decode cX8_goBack 17 = .ok (.iload_n 1, 1) := by decide +kernel
theorem dX8_goBack_18 : decode cX8_goBack 18 = .ok (.baload, 1) := by decide +kernel
theorem dX8_goBack_19 : decode cX8_goBack 19 = .ok (.ifCond .ne 6, 3) := by decide +kernel
theorem dX8_goBack_22 : decode cX8_goBack 22 = .ok (.ldc 176, 2) := by decide +kernel
theorem dX8_goBack_24 : decode cX8_goBack 24 = .ok (.ireturn, 1) := by decide +kernel
theorem dX8_goBack_25 : decode cX8_goBack 25 = .ok (.iconst 0, 1) := by decide +kernel
theorem dX8_goBack_26 : decode cX8_goBack 26 = .ok (.istore_n 2, 1) := by decide +kernel
theorem dX8_goBack_27 : decode cX8_goBack 27 = .ok (.iload_n 2, 1) := by decide +kernel
theorem dX8_goBack_28 : decode cX8_goBack 28 = .ok (.iconst 4, 1) := by decide +kernel
theorem dX8_goBack_29 : decode cX8_goBack 29 = .ok (.if_icmp .ge 25, 3) := by decide +kernel
theorem dX8_goBack_32 : decode cX8_goBack 32 = .ok (.aload_n 0, 1) := by decide +kernel
theorem dX8_goBack_33 : decode cX8_goBack 33 = .ok (.getfield 19, 3) := by decide +kernel
theorem dX8_goBack_36 : decode cX8_goBack 36 = .ok (.iload_n 2, 1) := by decide +kernel
theorem dX8_goBack_37 : decode cX8_goBack 37 = .ok (.aload_n 0, 1) := by decide +kernel
theorem dX8_goBack_38 : decode cX8_goBack 38 = .ok (.getfield 64, 3) := by decide +kernel
theorem dX8_goBack_41 : decode cX8_goBack 41 = .ok (.iconst 5, 1) := by decide +kernel
theorem dX8_goBack_42 : decode cX8_goBack 42 = .ok (.iload_n 1, 1) := by decide +kernel
theorem dX8_goBack_43 : decode cX8_goBack 43 = .ok (.imul, 1) := by decide +kernel
theorem dX8_goBack_44 : decode cX8_goBack 44 = .ok (.iload_n 2, 1) := by decide +kernel
theorem dX8_goBack_45 : decode cX8_goBack 45 = .ok (.iadd, 1) := by decide +kernel
theorem dX8_goBack_46 : decode cX8_goBack 46 = .ok (.iaload, 1) := by decide +kernel
theorem dX8_goBack_47 : decode cX8_goBack 47 = .ok (.iastore, 1) := by decide +kernel
theorem dX8_goBack_48 : decode cX8_goBack 48 = .ok (.iinc 2 1, 3) := by decide +kernel
theorem dX8_goBack_51 : decode cX8_goBack 51 = .ok (.goto (-24), 3) := by decide +kernel
theorem dX8_goBack_54 : decode cX8_goBack 54 = .ok (.aload_n 0, 1) := by decide +kernel
theorem dX8_goBack_55 : decode cX8_goBack 55 = .ok (.aload_n 0, 1) := by decide +kernel
theorem dX8_goBack_56 : decode cX8_goBack 56 = .ok (.getfield 64, 3) := by decide +kernel
theorem dX8_goBack_59 : decode cX8_goBack 59 = .ok (.iconst 5, 1) := by decide +kernel
theorem dX8_goBack_60 : decode cX8_goBack 60 = .ok (.iload_n 1, 1) := by decide +kernel
theorem dX8_goBack_61 : decode cX8_goBack 61 = .ok (.imul, 1) := by decide +kernel
theorem dX8_goBack_62 : decode cX8_goBack 62 = .ok (.iconst 4, 1) := by decide +kernel
theorem dX8_goBack_63 : decode cX8_goBack 63 = .ok (.iadd, 1) := by decide +kernel
theorem dX8_goBack_64 : decode cX8_goBack 64 = .ok (.iaload, 1) := by decide +kernel
theorem dX8_goBack_65 : decode cX8_goBack 65 = .ok (.putfield 180, 3) := by decide +kernel
theorem dX8_goBack_68 : decode cX8_goBack 68 = .ok (.aload_n 0, 1) := by decide +kernel
theorem dX8_goBack_69 : decode cX8_goBack 69 = .ok (.iconst 0, 1) := by decide +kernel
theorem dX8_goBack_70 : decode cX8_goBack 70 = .ok (.putfield 146, 3) := by decide +kernel
theorem dX8_goBack_73 : decode cX8_goBack 73 = .ok (.iconst 1, 1) := by decide +kernel
theorem dX8_goBack_74 : decode cX8_goBack 74 = .ok (.ireturn, 1) := by decide +kernel
theorem dJ6_bitCount_0f7a4_0 : decode cJ6_bitCount_0f7a4 0 = .ok (.iload_n 0, 1) := by decide +kernel
theorem dJ6_bitCount_0f7a4_1 : decode cJ6_bitCount_0f7a4 1 = .ok (.iload_n 0, 1) := by decide +kernel
theorem dJ6_bitCount_0f7a4_2 : decode cJ6_bitCount_0f7a4 2 = .ok (.iconst 1, 1) := by decide +kernel
theorem dJ6_bitCount_0f7a4_3 : decode cJ6_bitCount_0f7a4 3 = .ok (.iushr, 1) := by decide +kernel
theorem dJ6_bitCount_0f7a4_4 : decode cJ6_bitCount_0f7a4 4 = .ok (.ldc_w 265, 3) := by decide +kernel
theorem dJ6_bitCount_0f7a4_7 : decode cJ6_bitCount_0f7a4 7 = .ok (.iand, 1) := by decide +kernel
theorem dJ6_bitCount_0f7a4_8 : decode cJ6_bitCount_0f7a4 8 = .ok (.isub, 1) := by decide +kernel
theorem dJ6_bitCount_0f7a4_9 : decode cJ6_bitCount_0f7a4 9 = .ok (.istore_n 0, 1) := by decide +kernel
theorem dJ6_bitCount_0f7a4_10 : decode cJ6_bitCount_0f7a4 10 = .ok (.iload_n 0, 1) := by decide +kernel
theorem dJ6_bitCount_0f7a4_11 : decode cJ6_bitCount_0f7a4 11 = .ok (.ldc_w 266, 3) := by decide +kernel
theorem dJ6_bitCount_0f7a4_14 : decode cJ6_bitCount_0f7a4 14 = .ok (.iand, 1) := by decide +kernel
theorem dJ6_bitCount_0f7a4_15 : decode cJ6_bitCount_0f7a4 15 = .ok (.iload_n 0, 1) := by decide +kernel
theorem dJ6_bitCount_0f7a4_16 : decode cJ6_bitCount_0f7a4 16 = .ok (.iconst 2, 1) := by decide +kernel
theorem dJ6_bitCount_0f7a4_17 : decode cJ6_bitCount_0f7a4 17 = .ok (.iushr, 1) := by decide +kernel
theorem dJ6_bitCount_0f7a4_18 : decode cJ6_bitCount_0f7a4 18 = .ok (.ldc_w 266, 3) := by decide +kernel
theorem dJ6_bitCount_0f7a4_21 : decode cJ6_bitCount_0f7a4 21 = .ok (.iand, 1) := by decide +kernel
theorem dJ6_bitCount_0f7a4_22 : decode cJ6_bitCount_0f7a4 22 = .ok (.iadd, 1) := by decide +kernel
theorem dJ6_bitCount_0f7a4_23 : decode cJ6_bitCount_0f7a4 23 = .ok (.istore_n 0, 1) := by decide +kernel
theorem dJ6_bitCount_0f7a4_24 : decode cJ6_bitCount_0f7a4 24 = .ok (.iload_n 0, 1) := by decide +kernel
theorem dJ6_bitCount_0f7a4_25 : decode cJ6_bitCount_0f7a4 25 = .ok (.iload_n 0, 1) := by decide +kernel
theorem dJ6_bitCount_0f7a4_26 : decode cJ6_bitCount_0f7a4 26 = .ok (.iconst 4, 1) := by decide +kernel
theorem dJ6_bitCount_0f7a4_27 : decode cJ6_bitCount_0f7a4 27 = .ok (.iushr, 1) := by decide +kernel
theorem dJ6_bitCount_0f7a4_28 : decode cJ6_bitCount_0f7a4 28 = .ok (.iadd, 1) := by decide +kernel
theorem dJ6_bitCount_0f7a4_29 : decode cJ6_bitCount_0f7a4 29 = .ok (.ldc_w 267, 3) := by decide +kernel
theorem dJ6_bitCount_0f7a4_32 : decode cJ6_bitCount_0f7a4 32 = .ok (.iand, 1) := by decide +kernel
theorem dJ6_bitCount_0f7a4_33 : decode cJ6_bitCount_0f7a4 33 = .ok (.istore_n 0, 1) := by decide +kernel
theorem dJ6_bitCount_0f7a4_34 : decode cJ6_bitCount_0f7a4 34 = .ok (.iload_n 0, 1) := by decide +kernel
theorem dJ6_bitCount_0f7a4_35 : decode cJ6_bitCount_0f7a4 35 = .ok (.iload_n 0, 1) := by decide +kernel
theorem dJ6_bitCount_0f7a4_36 : decode cJ6_bitCount_0f7a4 36 = .ok (.bipush 8, 2) := by decide +kernel
theorem dJ6_bitCount_0f7a4_38 : decode cJ6_bitCount_0f7a4 38 = .ok (.iushr, 1) := by decide +kernel
theorem dJ6_bitCount_0f7a4_39 : decode cJ6_bitCount_0f7a4 39 = .ok (.iadd, 1) := by decide +kernel
theorem dJ6_bitCount_0f7a4_40 : decode cJ6_bitCount_0f7a4 40 = .ok (.istore_n 0, 1) := by decide +kernel
theorem dJ6_bitCount_0f7a4_41 : decode cJ6_bitCount_0f7a4 41 = .ok (.iload_n 0, 1) := by decide +kernel
theorem dJ6_bitCount_0f7a4_42 : decode cJ6_bitCount_0f7a4 42 = .ok (.iload_n 0, 1) := by decide +kernel
theorem dJ6_bitCount_0f7a4_43 : decode cJ6_bitCount_0f7a4 43 = .ok (.bipush 16, 2) := by decide +kernel
theorem dJ6_bitCount_0f7a4_45 : decode cJ6_bitCount_0f7a4 45 = .ok (.iushr, 1) := by decide +kernel
theorem dJ6_bitCount_0f7a4_46 : decode cJ6_bitCount_0f7a4 46 = .ok (.iadd, 1) := by decide +kernel
theorem dJ6_bitCount_0f7a4_47 : decode cJ6_bitCount_0f7a4 47 = .ok (.istore_n 0, 1) := by decide +kernel
theorem dJ6_bitCount_0f7a4_48 : decode cJ6_bitCount_0f7a4 48 = .ok (.iload_n 0, 1) := by decide +kernel
theorem dJ6_bitCount_0f7a4_49 : decode cJ6_bitCount_0f7a4 49 = .ok (.bipush 63, 2) := by decide +kernel
theorem dJ6_bitCount_0f7a4_51 : decode cJ6_bitCount_0f7a4 51 = .ok (.iand, 1) := by decide +kernel
theorem dJ6_bitCount_0f7a4_52 : decode cJ6_bitCount_0f7a4 52 = .ok (.ireturn, 1) := by decide +kernel
theorem dJ9_max_7cf53_0 : decode cJ9_max_7cf53 0 = .ok (.iload_n 0, 1) := by decide +kernel
theorem dJ9_max_7cf53_1 : decode cJ9_max_7cf53 1 = .ok (.iload_n 1, 1) := by decide +kernel
theorem dJ9_max_7cf53_2 : decode cJ9_max_7cf53 2 = .ok (.if_icmp .lt 7, 3) := by decide +kernel
theorem dJ9_max_7cf53_5 : decode cJ9_max_7cf53 5 = .ok (.iload_n 0, 1) := by decide +kernel
theorem dJ9_max_7cf53_6 : decode cJ9_max_7cf53 6 = .ok (.goto 4, 3) := by decide +kernel
theorem dJ9_max_7cf53_9 : decode cJ9_max_7cf53 9 = .ok (.iload_n 1, 1) := by decide +kernel
theorem dJ9_max_7cf53_10 : decode cJ9_max_7cf53 10 = .ok (.ireturn, 1) := by decide +kernel
theorem dJ9_min_7cf53_0 : decode cJ9_min_7cf53 0 = .ok (.iload_n 0, 1) := by decide +kernel
theorem dJ9_min_7cf53_1 : decode cJ9_min_7cf53 1 = .ok (.iload_n 1, 1) := by decide +kernel
theorem dJ9_min_7cf53_2 : decode cJ9_min_7cf53 2 = .ok (.if_icmp .gt 7, 3) := by decide +kernel
theorem dJ9_min_7cf53_5 : decode cJ9_min_7cf53 5 = .ok (.iload_n 0, 1) := by decide +kernel
theorem dJ9_min_7cf53_6 : decode cJ9_min_7cf53 6 = .ok (.goto 4, 3) := by decide +kernel
theorem dJ9_min_7cf53_9 : decode cJ9_min_7cf53 9 = .ok (.iload_n 1, 1) := by decide +kernel
theorem dJ9_min_7cf53_10 : decode cJ9_min_7cf53 10 = .ok (.ireturn, 1) := by decide +kernel
theorem dL_law_0 : decode cL_law 0 = .ok (.new 7, 3) := by decide +kernel
theorem dL_law_3 : decode cL_law 3 = .ok (.dup, 1) := by decide +kernel
theorem dL_law_4 : decode cL_law 4 = .ok (.invokespecial 9, 3) := by decide +kernel
theorem dL_law_7 : decode cL_law 7 = .ok (.astore_n 1, 1) := by decide +kernel
theorem dL_law_8 : decode cL_law 8 = .ok (.new 10, 3) := by decide +kernel
theorem dL_law_11 : decode cL_law 11 = .ok (.dup, 1) := by decide +kernel
theorem dL_law_12 : decode cL_law 12 = .ok (.invokespecial 12, 3) := by decide +kernel
theorem dL_law_15 : decode cL_law 15 = .ok (.astore_n 2, 1) := by decide +kernel
theorem dL_law_16 : decode cL_law 16 = .ok (.iconst 0, 1) := by decide +kernel
theorem dL_law_17 : decode cL_law 17 = .ok (.istore_n 3, 1) := by decide +kernel
theorem dL_law_18 : decode cL_law 18 = .ok (.iload_n 3, 1) := by decide +kernel
theorem dL_law_19 : decode cL_law 19 = .ok (.aload_n 0, 1) := by decide +kernel
theorem dL_law_20 : decode cL_law 20 = .ok (.arraylength, 1) := by decide +kernel
theorem dL_law_21 : decode cL_law 21 = .ok (.iconst 4, 1) := by decide +kernel
theorem dL_law_22 : decode cL_law 22 = .ok (.isub, 1) := by decide +kernel
theorem dL_law_23 : decode cL_law 23 = .ok (.if_icmp .gt 842, 3) := by decide +kernel
theorem dL_law_26 : decode cL_law 26 = .ok (.aload_n 0, 1) := by decide +kernel
theorem dL_law_27 : decode cL_law 27 = .ok (.iload_n 3, 1) := by decide +kernel
theorem dL_law_28 : decode cL_law 28 = .ok (.iaload, 1) := by decide +kernel
theorem dL_law_29 : decode cL_law 29 = .ok (.bipush 31, 2) := by decide +kernel
theorem dL_law_31 : decode cL_law 31 = .ok (.iand, 1) := by decide +kernel
theorem dL_law_32 : decode cL_law 32 = .ok (.tableswitch 827 0 28 #[132, 155, 168, 181, 204, 237, 286, 335, 348, 361, 384, 397, 420, 453, 476, 499, 522, 545, 558, 571, 604, 663, 686, 699, 732, 745, 758, 781, 804], 132) := by decide +kernel
theorem dL_law_164 : decode cL_law 164 = .ok (.aload_n 1, 1) := by decide +kernel
theorem dL_law_165 : decode cL_law 165 = .ok (.aload_n 0, 1) := by decide +kernel
theorem dL_law_166 : decode cL_law 166 = .ok (.iload_n 3, 1) := by decide +kernel
theorem dL_law_167 : decode cL_law 167 = .ok (.iconst 1, 1) := by decide +kernel
theorem dL_law_168 : decode cL_law 168 = .ok (.iadd, 1) := by decide +kernel
theorem dL_law_169 : decode cL_law 169 = .ok (.iaload, 1) := by decide +kernel
theorem dL_law_170 : decode cL_law 170 = .ok (.invokevirtual 13, 3) := by decide +kernel
theorem dL_law_173 : decode cL_law 173 = .ok (.aload_n 2, 1) := by decide +kernel
theorem dL_law_174 : decode cL_law 174 = .ok (.aload_n 0, 1) := by decide +kernel
theorem dL_law_175 : decode cL_law 175 = .ok (.iload_n 3, 1) := by decide +kernel
theorem dL_law_176 : decode cL_law 176 = .ok (.iconst 1, 1) := by decide +kernel
theorem dL_law_177 : decode cL_law 177 = .ok (.iadd, 1) := by decide +kernel
theorem dL_law_178 : decode cL_law 178 = .ok (.iaload, 1) := by decide +kernel
theorem dL_law_179 : decode cL_law 179 = .ok (.invokevirtual 17, 3) := by decide +kernel
theorem dL_law_182 : decode cL_law 182 = .ok (.if_icmp .eq 677, 3) := by decide +kernel
theorem dL_law_185 : decode cL_law 185 = .ok (.iconst 0, 1) := by decide +kernel
theorem dL_law_186 : decode cL_law 186 = .ok (.ireturn, 1) := by decide +kernel
theorem dL_law_187 : decode cL_law 187 = .ok (.aload_n 1, 1) := by decide +kernel
theorem dL_law_188 : decode cL_law 188 = .ok (.invokevirtual 18, 3) := by decide +kernel
theorem dL_law_191 : decode cL_law 191 = .ok (.aload_n 2, 1) := by decide +kernel
theorem dL_law_192 : decode cL_law 192 = .ok (.invokevirtual 22, 3) := by decide +kernel
theorem dL_law_195 : decode cL_law 195 = .ok (.if_icmp .eq 664, 3) := by decide +kernel
theorem dL_law_198 : decode cL_law 198 = .ok (.iconst 0, 1) := by decide +kernel
theorem dL_law_199 : decode cL_law 199 = .ok (.ireturn, 1) := by decide +kernel
theorem dL_law_200 : decode cL_law 200 = .ok (.aload_n 1, 1) := by decide +kernel
theorem dL_law_201 : decode cL_law 201 = .ok (.invokevirtual 23, 3) := by decide +kernel
theorem dL_law_204 : decode cL_law 204 = .ok (.aload_n 2, 1) := by decide +kernel
theorem dL_law_205 : decode cL_law 205 = .ok (.invokevirtual 26, 3) := by decide +kernel
theorem dL_law_208 : decode cL_law 208 = .ok (.if_icmp .eq 651, 3) := by decide +kernel
theorem dL_law_211 : decode cL_law 211 = .ok (.iconst 0, 1) := by decide +kernel
theorem dL_law_212 : decode cL_law 212 = .ok (.ireturn, 1) := by decide +kernel
theorem dL_law_213 : decode cL_law 213 = .ok (.aload_n 1, 1) := by decide +kernel
theorem dL_law_214 : decode cL_law 214 = .ok (.aload_n 0, 1) := by decide +kernel
theorem dL_law_215 : decode cL_law 215 = .ok (.iload_n 3, 1) := by decide +kernel
theorem dL_law_216 : decode cL_law 216 = .ok (.iconst 1, 1) := by decide +kernel
theorem dL_law_217 : decode cL_law 217 = .ok (.iadd, 1) := by decide +kernel
theorem dL_law_218 : decode cL_law 218 = .ok (.iaload, 1) := by decide +kernel
theorem dL_law_219 : decode cL_law 219 = .ok (.invokevirtual 27, 3) := by decide +kernel
theorem dL_law_222 : decode cL_law 222 = .ok (.aload_n 2, 1) := by decide +kernel
theorem dL_law_223 : decode cL_law 223 = .ok (.aload_n 0, 1) := by decide +kernel
theorem dL_law_224 : decode cL_law 224 = .ok (.iload_n 3, 1) := by decide +kernel
theorem dL_law_225 : decode cL_law 225 = .ok (.iconst 1, 1) := by decide +kernel
theorem dL_law_226 : decode cL_law 226 = .ok (.iadd, 1) := by decide +kernel
theorem dL_law_227 : decode cL_law 227 = .ok (.iaload, 1) := by decide +kernel
theorem dL_law_228 : decode cL_law 228 = .ok (.invokevirtual 30, 3) := by decide +kernel
theorem dL_law_231 : decode cL_law 231 = .ok (.if_icmp .eq 628, 3) := by decide +kernel
theorem dL_law_234 : decode cL_law 234 = .ok (.iconst 0, 1) := by decide +kernel
theorem dL_law_235 : decode cL_law 235 = .ok (.ireturn, 1) := by decide +kernel
theorem dL_law_236 : decode cL_law 236 = .ok (.aload_n 1, 1) := by decide +kernel
theorem dL_law_237 : decode cL_law 237 = .ok (.aload_n 0, 1) := by decide +kernel
theorem dL_law_238 : decode cL_law 238 = .ok (.iload_n 3, 1) := by decide +kernel
theorem dL_law_239 : decode cL_law 239 = .ok (.iconst 1, 1) := by decide +kernel
theorem dL_law_240 : decode cL_law 240 = .ok (.iadd, 1) := by decide +kernel
theorem dL_law_241 : decode cL_law 241 = .ok (.iaload, 1) := by decide +kernel
theorem dL_law_242 : decode cL_law 242 = .ok (.aload_n 0, 1) := by decide +kernel
theorem dL_law_243 : decode cL_law 243 = .ok (.iload_n 3, 1) := by decide +kernel
theorem dL_law_244 : decode cL_law 244 = .ok (.iconst 2, 1) := by decide +kernel
theorem dL_law_245 : decode cL_law 245 = .ok (.iadd, 1) := by decide +kernel
theorem dL_law_246 : decode cL_law 246 = .ok (.iaload, 1) := by decide +kernel
theorem dL_law_247 : decode cL_law 247 = .ok (.invokevirtual 31, 3) := by decide +kernel
theorem dL_law_250 : decode cL_law 250 = .ok (.aload_n 2, 1) := by decide +kernel
theorem dL_law_251 : decode cL_law 251 = .ok (.aload_n 0, 1) := by decide +kernel
theorem dL_law_252 : decode cL_law 252 = .ok (.iload_n 3, 1) := by decide +kernel
theorem dL_law_253 : decode cL_law 253 = .ok (.iconst 1, 1) := by decide +kernel
theorem dL_law_254 : decode cL_law 254 = .ok (.iadd, 1) := by decide +kernel
theorem dL_law_255 : decode cL_law 255 = .ok (.iaload, 1) := by decide +kernel
theorem dL_law_256 : decode cL_law 256 = .ok (.aload_n 0, 1) := by decide +kernel
theorem dL_law_257 : decode cL_law 257 = .ok (.iload_n 3, 1) := by decide +kernel
theorem dL_law_258 : decode cL_law 258 = .ok (.iconst 2, 1) := by decide +kernel
theorem dL_law_259 : decode cL_law 259 = .ok (.iadd, 1) := by decide +kernel
theorem dL_law_260 : decode cL_law 260 = .ok (.iaload, 1) := by decide +kernel
theorem dL_law_261 : decode cL_law 261 = .ok (.invokevirtual 35, 3) := by decide +kernel
theorem dL_law_264 : decode cL_law 264 = .ok (.if_icmp .eq 595, 3) := by decide +kernel
theorem dL_law_267 : decode cL_law 267 = .ok (.iconst 0, 1) := by decide +kernel
theorem dL_law_268 : decode cL_law 268 = .ok (.ireturn, 1) := by decide +kernel
theorem dL_law_269 : decode cL_law 269 = .ok (.aload_n 1, 1) := by decide +kernel
theorem dL_law_270 : decode cL_law 270 = .ok (.aload_n 0, 1) := by decide +kernel
theorem dL_law_271 : decode cL_law 271 = .ok (.iload_n 3, 1) := by decide +kernel
theorem dL_law_272 : decode cL_law 272 = .ok (.iconst 1, 1) := by decide +kernel
theorem dL_law_273 : decode cL_law 273 = .ok (.iadd, 1) := by decide +kernel
theorem dL_law_274 : decode cL_law 274 = .ok (.iaload, 1) := by decide +kernel
theorem dL_law_275 : decode cL_law 275 = .ok (.aload_n 0, 1) := by decide +kernel
theorem dL_law_276 : decode cL_law 276 = .ok (.iload_n 3, 1) := by decide +kernel
theorem dL_law_277 : decode cL_law 277 = .ok (.iconst 2, 1) := by decide +kernel
theorem dL_law_278 : decode cL_law 278 = .ok (.iadd, 1) := by decide +kernel
theorem dL_law_279 : decode cL_law 279 = .ok (.iaload, 1) := by decide +kernel
theorem dL_law_280 : decode cL_law 280 = .ok (.ifCond .eq 7, 3) := by decide +kernel
theorem dL_law_283 : decode cL_law 283 = .ok (.iconst 1, 1) := by decide +kernel
theorem dL_law_284 : decode cL_law 284 = .ok (.goto 4, 3) := by decide +kernel
theorem dL_law_287 : decode cL_law 287 = .ok (.iconst 0, 1) := by decide +kernel
theorem dL_law_288 : decode cL_law 288 = .ok (.invokevirtual 36, 3) := by decide +kernel
theorem dL_law_291 : decode cL_law 291 = .ok (.aload_n 2, 1) := by decide +kernel
theorem dL_law_292 : decode cL_law 292 = .ok (.aload_n 0, 1) := by decide +kernel
theorem dL_law_293 : decode cL_law 293 = .ok (.iload_n 3, 1) := by decide +kernel
theorem dL_law_294 : decode cL_law 294 = .ok (.iconst 1, 1) := by decide +kernel
theorem dL_law_295 : decode cL_law 295 = .ok (.iadd, 1) := by decide +kernel
theorem dL_law_296 : decode cL_law 296 = .ok (.iaload, 1) := by decide +kernel
theorem dL_law_297 : decode cL_law 297 = .ok (.aload_n 0, 1) := by decide +kernel
theorem dL_law_298 : decode cL_law 298 = .ok (.iload_n 3, 1) := by decide +kernel
theorem dL_law_299 : decode cL_law 299 = .ok (.iconst 2, 1) := by decide +kernel
theorem dL_law_300 : decode cL_law 300 = .ok (.iadd, 1) := by decide +kernel
theorem dL_law_301 : decode cL_law 301 = .ok (.iaload, 1) := by decide +kernel
theorem dL_law_302 : decode cL_law 302 = .ok (.ifCond .eq 7, 3) := by decide +kernel
theorem dL_law_305 : decode cL_law 305 = .ok (.iconst 1, 1) := by decide +kernel
theorem dL_law_306 : decode cL_law 306 = .ok (.goto 4, 3) := by decide +kernel
theorem dL_law_309 : decode cL_law 309 = .ok (.iconst 0, 1) := by decide +kernel
theorem dL_law_310 : decode cL_law 310 = .ok (.invokevirtual 40, 3) := by decide +kernel
theorem dL_law_313 : decode cL_law 313 = .ok (.if_icmp .eq 546, 3) := by decide +kernel
theorem dL_law_316 : decode cL_law 316 = .ok (.iconst 0, 1) := by decide +kernel
theorem dL_law_317 : decode cL_law 317 = .ok (.ireturn, 1) := by decide +kernel
theorem dL_law_318 : decode cL_law 318 = .ok (.aload_n 1, 1) := by decide +kernel
theorem dL_law_319 : decode cL_law 319 = .ok (.aload_n 0, 1) := by decide +kernel
theorem dL_law_320 : decode cL_law 320 = .ok (.iload_n 3, 1) := by decide +kernel
theorem dL_law_321 : decode cL_law 321 = .ok (.iconst 1, 1) := by decide +kernel
theorem dL_law_322 : decode cL_law 322 = .ok (.iadd, 1) := by decide +kernel
theorem dL_law_323 : decode cL_law 323 = .ok (.iaload, 1) := by decide +kernel
theorem dL_law_324 : decode cL_law 324 = .ok (.aload_n 0, 1) := by decide +kernel
theorem dL_law_325 : decode cL_law 325 = .ok (.iload_n 3, 1) := by decide +kernel
theorem dL_law_326 : decode cL_law 326 = .ok (.iconst 2, 1) := by decide +kernel
theorem dL_law_327 : decode cL_law 327 = .ok (.iadd, 1) := by decide +kernel
theorem dL_law_328 : decode cL_law 328 = .ok (.iaload, 1) := by decide +kernel
theorem dL_law_329 : decode cL_law 329 = .ok (.ifCond .eq 7, 3) := by decide +kernel
theorem dL_law_332 : decode cL_law 332 = .ok (.iconst 1, 1) := by decide +kernel
theorem dL_law_333 : decode cL_law 333 = .ok (.goto 4, 3) := by decide +kernel
theorem dL_law_336 : decode cL_law 336 = .ok (.iconst 0, 1) := by decide +kernel
theorem dL_law_337 : decode cL_law 337 = .ok (.invokevirtual 41, 3) := by decide +kernel
theorem dL_law_340 : decode cL_law 340 = .ok (.aload_n 2, 1) := by decide +kernel
theorem dL_law_341 : decode cL_law 341 = .ok (.aload_n 0, 1) := by decide +kernel
theorem dL_law_342 : decode cL_law 342 = .ok (.iload_n 3, 1) := by decide +kernel
theorem dL_law_343 : decode cL_law 343 = .ok (.iconst 1, 1) := by decide +kernel
theorem dL_law_344 : decode cL_law 344 = .ok (.iadd, 1) := by decide +kernel
theorem dL_law_345 : decode cL_law 345 = .ok (.iaload, 1) := by decide +kernel
theorem dL_law_346 : decode cL_law 346 = .ok (.aload_n 0, 1) := by decide +kernel
theorem dL_law_347 : decode cL_law 347 = .ok (.iload_n 3, 1) := by decide +kernel
theorem dL_law_348 : decode cL_law 348 = .ok (.iconst 2, 1) := by decide +kernel
theorem dL_law_349 : decode cL_law 349 = .ok (.iadd, 1) := by decide +kernel
theorem dL_law_350 : decode cL_law 350 = .ok (.iaload, 1) := by decide +kernel
theorem dL_law_351 : decode cL_law 351 = .ok (.ifCond .eq 7, 3) := by decide +kernel
theorem dL_law_354 : decode cL_law 354 = .ok (.iconst 1, 1) := by decide +kernel
theorem dL_law_355 : decode cL_law 355 = .ok (.goto 4, 3) := by decide +kernel
theorem dL_law_358 : decode cL_law 358 = .ok (.iconst 0, 1) := by decide +kernel
theorem dL_law_359 : decode cL_law 359 = .ok (.invokevirtual 44, 3) := by decide +kernel
theorem dL_law_362 : decode cL_law 362 = .ok (.if_icmp .eq 497, 3) := by decide +kernel
theorem dL_law_365 : decode cL_law 365 = .ok (.iconst 0, 1) := by decide +kernel
theorem dL_law_366 : decode cL_law 366 = .ok (.ireturn, 1) := by decide +kernel
theorem dL_law_367 : decode cL_law 367 = .ok (.aload_n 1, 1) := by decide +kernel
theorem dL_law_368 : decode cL_law 368 = .ok (.invokevirtual 45, 3) := by decide +kernel
theorem dL_law_371 : decode cL_law 371 = .ok (.aload_n 2, 1) := by decide +kernel
theorem dL_law_372 : decode cL_law 372 = .ok (.invokevirtual 48, 3) := by decide +kernel
theorem dL_law_375 : decode cL_law 375 = .ok (.if_icmp .eq 484, 3) := by decide +kernel
theorem dL_law_378 : decode cL_law 378 = .ok (.iconst 0, 1) := by decide +kernel
theorem dL_law_379 : decode cL_law 379 = .ok (.ireturn, 1) := by decide +kernel
theorem dL_law_380 : decode cL_law 380 = .ok (.aload_n 1, 1) := by decide +kernel
theorem dL_law_381 : decode cL_law 381 = .ok (.invokevirtual 49, 3) := by decide +kernel
theorem dL_law_384 : decode cL_law 384 = .ok (.aload_n 2, 1) := by decide +kernel
theorem dL_law_385 : decode cL_law 385 = .ok (.invokevirtual 52, 3) := by decide +kernel
theorem dL_law_388 : decode cL_law 388 = .ok (.if_icmp .eq 471, 3) := by decide +kernel
theorem dL_law_391 : decode cL_law 391 = .ok (.iconst 0, 1) := by decide +kernel
theorem dL_law_392 : decode cL_law 392 = .ok (.ireturn, 1) := by decide +kernel
theorem dL_law_393 : decode cL_law 393 = .ok (.aload_n 1, 1) := by decide +kernel
theorem dL_law_394 : decode cL_law 394 = .ok (.aload_n 0, 1) := by decide +kernel
theorem dL_law_395 : decode cL_law 395 = .ok (.iload_n 3, 1) := by decide +kernel
theorem dL_law_396 : decode cL_law 396 = .ok (.iconst 1, 1) := by decide +kernel
theorem dL_law_397 : decode cL_law 397 = .ok (.iadd, 1) := by decide +kernel
theorem dL_law_398 : decode cL_law 398 = .ok (.iaload, 1) := by decide +kernel
theorem dL_law_399 : decode cL_law 399 = .ok (.invokevirtual 53, 3) := by decide +kernel
theorem dL_law_402 : decode cL_law 402 = .ok (.aload_n 2, 1) := by decide +kernel
theorem dL_law_403 : decode cL_law 403 = .ok (.aload_n 0, 1) := by decide +kernel
theorem dL_law_404 : decode cL_law 404 = .ok (.iload_n 3, 1) := by decide +kernel
theorem dL_law_405 : decode cL_law 405 = .ok (.iconst 1, 1) := by decide +kernel
theorem dL_law_406 : decode cL_law 406 = .ok (.iadd, 1) := by decide +kernel
theorem dL_law_407 : decode cL_law 407 = .ok (.iaload, 1) := by decide +kernel
theorem dL_law_408 : decode cL_law 408 = .ok (.invokevirtual 56, 3) := by decide +kernel
theorem dL_law_411 : decode cL_law 411 = .ok (.if_icmp .eq 448, 3) := by decide +kernel
theorem dL_law_414 : decode cL_law 414 = .ok (.iconst 0, 1) := by decide +kernel
theorem dL_law_415 : decode cL_law 415 = .ok (.ireturn, 1) := by decide +kernel
theorem dL_law_416 : decode cL_law 416 = .ok (.aload_n 1, 1) := by decide +kernel
theorem dL_law_417 : decode cL_law 417 = .ok (.invokevirtual 57, 3) := by decide +kernel
theorem dL_law_420 : decode cL_law 420 = .ok (.aload_n 2, 1) := by decide +kernel
theorem dL_law_421 : decode cL_law 421 = .ok (.invokevirtual 60, 3) := by decide +kernel
theorem dL_law_424 : decode cL_law 424 = .ok (.if_icmp .eq 435, 3) := by decide +kernel
theorem dL_law_427 : decode cL_law 427 = .ok (.iconst 0, 1) := by decide +kernel
theorem dL_law_428 : decode cL_law 428 = .ok (.ireturn, 1) := by decide +kernel
theorem dL_law_429 : decode cL_law 429 = .ok (.aload_n 1, 1) := by decide +kernel
theorem dL_law_430 : decode cL_law 430 = .ok (.aload_n 0, 1) := by decide +kernel
theorem dL_law_431 : decode cL_law 431 = .ok (.iload_n 3, 1) := by decide +kernel
theorem dL_law_432 : decode cL_law 432 = .ok (.iconst 1, 1) := by decide +kernel
theorem dL_law_433 : decode cL_law 433 = .ok (.iadd, 1) := by decide +kernel
theorem dL_law_434 : decode cL_law 434 = .ok (.iaload, 1) := by decide +kernel
theorem dL_law_435 : decode cL_law 435 = .ok (.invokevirtual 61, 3) := by decide +kernel
theorem dL_law_438 : decode cL_law 438 = .ok (.aload_n 2, 1) := by decide +kernel
theorem dL_law_439 : decode cL_law 439 = .ok (.aload_n 0, 1) := by decide +kernel
theorem dL_law_440 : decode cL_law 440 = .ok (.iload_n 3, 1) := by decide +kernel
theorem dL_law_441 : decode cL_law 441 = .ok (.iconst 1, 1) := by decide +kernel
theorem dL_law_442 : decode cL_law 442 = .ok (.iadd, 1) := by decide +kernel
theorem dL_law_443 : decode cL_law 443 = .ok (.iaload, 1) := by decide +kernel
theorem dL_law_444 : decode cL_law 444 = .ok (.invokevirtual 64, 3) := by decide +kernel
theorem dL_law_447 : decode cL_law 447 = .ok (.if_icmp .eq 412, 3) := by decide +kernel
theorem dL_law_450 : decode cL_law 450 = .ok (.iconst 0, 1) := by decide +kernel
theorem dL_law_451 : decode cL_law 451 = .ok (.ireturn, 1) := by decide +kernel
theorem dL_law_452 : decode cL_law 452 = .ok (.aload_n 1, 1) := by decide +kernel
theorem dL_law_453 : decode cL_law 453 = .ok (.aload_n 0, 1) := by decide +kernel
theorem dL_law_454 : decode cL_law 454 = .ok (.iload_n 3, 1) := by decide +kernel
theorem dL_law_455 : decode cL_law 455 = .ok (.iconst 1, 1) := by decide +kernel
theorem dL_law_456 : decode cL_law 456 = .ok (.iadd, 1) := by decide +kernel
theorem dL_law_457 : decode cL_law 457 = .ok (.iaload, 1) := by decide +kernel
theorem dL_law_458 : decode cL_law 458 = .ok (.aload_n 0, 1) := by decide +kernel
theorem dL_law_459 : decode cL_law 459 = .ok (.iload_n 3, 1) := by decide +kernel
theorem dL_law_460 : decode cL_law 460 = .ok (.iconst 2, 1) := by decide +kernel
theorem dL_law_461 : decode cL_law 461 = .ok (.iadd, 1) := by decide +kernel
theorem dL_law_462 : decode cL_law 462 = .ok (.iaload, 1) := by decide +kernel
theorem dL_law_463 : decode cL_law 463 = .ok (.invokevirtual 65, 3) := by decide +kernel
theorem dL_law_466 : decode cL_law 466 = .ok (.aload_n 2, 1) := by decide +kernel
theorem dL_law_467 : decode cL_law 467 = .ok (.aload_n 0, 1) := by decide +kernel
theorem dL_law_468 : decode cL_law 468 = .ok (.iload_n 3, 1) := by decide +kernel
theorem dL_law_469 : decode cL_law 469 = .ok (.iconst 1, 1) := by decide +kernel
theorem dL_law_470 : decode cL_law 470 = .ok (.iadd, 1) := by decide +kernel
theorem dL_law_471 : decode cL_law 471 = .ok (.iaload, 1) := by decide +kernel
theorem dL_law_472 : decode cL_law 472 = .ok (.aload_n 0, 1) := by decide +kernel
theorem dL_law_473 : decode cL_law 473 = .ok (.iload_n 3, 1) := by decide +kernel
theorem dL_law_474 : decode cL_law 474 = .ok (.iconst 2, 1) := by decide +kernel
theorem dL_law_475 : decode cL_law 475 = .ok (.iadd, 1) := by decide +kernel
theorem dL_law_476 : decode cL_law 476 = .ok (.iaload, 1) := by decide +kernel
theorem dL_law_477 : decode cL_law 477 = .ok (.invokevirtual 68, 3) := by decide +kernel
theorem dL_law_480 : decode cL_law 480 = .ok (.if_icmp .eq 379, 3) := by decide +kernel
theorem dL_law_483 : decode cL_law 483 = .ok (.iconst 0, 1) := by decide +kernel
theorem dL_law_484 : decode cL_law 484 = .ok (.ireturn, 1) := by decide +kernel
theorem dL_law_485 : decode cL_law 485 = .ok (.aload_n 1, 1) := by decide +kernel
theorem dL_law_486 : decode cL_law 486 = .ok (.aload_n 0, 1) := by decide +kernel
theorem dL_law_487 : decode cL_law 487 = .ok (.iload_n 3, 1) := by decide +kernel
theorem dL_law_488 : decode cL_law 488 = .ok (.iconst 1, 1) := by decide +kernel
theorem dL_law_489 : decode cL_law 489 = .ok (.iadd, 1) := by decide +kernel
theorem dL_law_490 : decode cL_law 490 = .ok (.iaload, 1) := by decide +kernel
theorem dL_law_491 : decode cL_law 491 = .ok (.invokevirtual 69, 3) := by decide +kernel
theorem dL_law_494 : decode cL_law 494 = .ok (.aload_n 2, 1) := by decide +kernel
theorem dL_law_495 : decode cL_law 495 = .ok (.aload_n 0, 1) := by decide +kernel
theorem dL_law_496 : decode cL_law 496 = .ok (.iload_n 3, 1) := by decide +kernel
theorem dL_law_497 : decode cL_law 497 = .ok (.iconst 1, 1) := by decide +kernel
theorem dL_law_498 : decode cL_law 498 = .ok (.iadd, 1) := by decide +kernel
theorem dL_law_499 : decode cL_law 499 = .ok (.iaload, 1) := by decide +kernel
theorem dL_law_500 : decode cL_law 500 = .ok (.invokevirtual 72, 3) := by decide +kernel
theorem dL_law_503 : decode cL_law 503 = .ok (.if_icmp .eq 356, 3) := by decide +kernel
theorem dL_law_506 : decode cL_law 506 = .ok (.iconst 0, 1) := by decide +kernel
theorem dL_law_507 : decode cL_law 507 = .ok (.ireturn, 1) := by decide +kernel
theorem dL_law_508 : decode cL_law 508 = .ok (.aload_n 1, 1) := by decide +kernel
theorem dL_law_509 : decode cL_law 509 = .ok (.aload_n 0, 1) := by decide +kernel
theorem dL_law_510 : decode cL_law 510 = .ok (.iload_n 3, 1) := by decide +kernel
theorem dL_law_511 : decode cL_law 511 = .ok (.iconst 1, 1) := by decide +kernel
theorem dL_law_512 : decode cL_law 512 = .ok (.iadd, 1) := by decide +kernel
theorem dL_law_513 : decode cL_law 513 = .ok (.iaload, 1) := by decide +kernel
theorem dL_law_514 : decode cL_law 514 = .ok (.invokevirtual 73, 3) := by decide +kernel
theorem dL_law_517 : decode cL_law 517 = .ok (.aload_n 2, 1) := by decide +kernel
theorem dL_law_518 : decode cL_law 518 = .ok (.aload_n 0, 1) := by decide +kernel
theorem dL_law_519 : decode cL_law 519 = .ok (.iload_n 3, 1) := by decide +kernel
theorem dL_law_520 : decode cL_law 520 = .ok (.iconst 1, 1) := by decide +kernel
theorem dL_law_521 : decode cL_law 521 = .ok (.iadd, 1) := by decide +kernel
theorem dL_law_522 : decode cL_law 522 = .ok (.iaload, 1) := by decide +kernel
theorem dL_law_523 : decode cL_law 523 = .ok (.invokevirtual 76, 3) := by decide +kernel
theorem dL_law_526 : decode cL_law 526 = .ok (.if_icmp .eq 333, 3) := by decide +kernel
theorem dL_law_529 : decode cL_law 529 = .ok (.iconst 0, 1) := by decide +kernel
theorem dL_law_530 : decode cL_law 530 = .ok (.ireturn, 1) := by decide +kernel
theorem dL_law_531 : decode cL_law 531 = .ok (.aload_n 1, 1) := by decide +kernel
theorem dL_law_532 : decode cL_law 532 = .ok (.aload_n 0, 1) := by decide +kernel
theorem dL_law_533 : decode cL_law 533 = .ok (.iload_n 3, 1) := by decide +kernel
theorem dL_law_534 : decode cL_law 534 = .ok (.iconst 1, 1) := by decide +kernel
theorem dL_law_535 : decode cL_law 535 = .ok (.iadd, 1) := by decide +kernel
theorem dL_law_536 : decode cL_law 536 = .ok (.iaload, 1) := by decide +kernel
theorem dL_law_537 : decode cL_law 537 = .ok (.invokevirtual 77, 3) := by decide +kernel
theorem dL_law_540 : decode cL_law 540 = .ok (.aload_n 2, 1) := by decide +kernel
theorem dL_law_541 : decode cL_law 541 = .ok (.aload_n 0, 1) := by decide +kernel
theorem dL_law_542 : decode cL_law 542 = .ok (.iload_n 3, 1) := by decide +kernel
theorem dL_law_543 : decode cL_law 543 = .ok (.iconst 1, 1) := by decide +kernel
theorem dL_law_544 : decode cL_law 544 = .ok (.iadd, 1) := by decide +kernel
theorem dL_law_545 : decode cL_law 545 = .ok (.iaload, 1) := by decide +kernel
theorem dL_law_546 : decode cL_law 546 = .ok (.invokevirtual 80, 3) := by decide +kernel
theorem dL_law_549 : decode cL_law 549 = .ok (.if_icmp .eq 310, 3) := by decide +kernel
theorem dL_law_552 : decode cL_law 552 = .ok (.iconst 0, 1) := by decide +kernel
theorem dL_law_553 : decode cL_law 553 = .ok (.ireturn, 1) := by decide +kernel
theorem dL_law_554 : decode cL_law 554 = .ok (.aload_n 1, 1) := by decide +kernel
theorem dL_law_555 : decode cL_law 555 = .ok (.aload_n 0, 1) := by decide +kernel
theorem dL_law_556 : decode cL_law 556 = .ok (.iload_n 3, 1) := by decide +kernel
theorem dL_law_557 : decode cL_law 557 = .ok (.iconst 1, 1) := by decide +kernel
theorem dL_law_558 : decode cL_law 558 = .ok (.iadd, 1) := by decide +kernel
theorem dL_law_559 : decode cL_law 559 = .ok (.iaload, 1) := by decide +kernel
theorem dL_law_560 : decode cL_law 560 = .ok (.invokevirtual 81, 3) := by decide +kernel
theorem dL_law_563 : decode cL_law 563 = .ok (.aload_n 2, 1) := by decide +kernel
theorem dL_law_564 : decode cL_law 564 = .ok (.aload_n 0, 1) := by decide +kernel
theorem dL_law_565 : decode cL_law 565 = .ok (.iload_n 3, 1) := by decide +kernel
theorem dL_law_566 : decode cL_law 566 = .ok (.iconst 1, 1) := by decide +kernel
theorem dL_law_567 : decode cL_law 567 = .ok (.iadd, 1) := by decide +kernel
theorem dL_law_568 : decode cL_law 568 = .ok (.iaload, 1) := by decide +kernel
theorem dL_law_569 : decode cL_law 569 = .ok (.invokevirtual 84, 3) := by decide +kernel
theorem dL_law_572 : decode cL_law 572 = .ok (.if_icmp .eq 287, 3) := by decide +kernel
theorem dL_law_575 : decode cL_law 575 = .ok (.iconst 0, 1) := by decide +kernel
theorem dL_law_576 : decode cL_law 576 = .ok (.ireturn, 1) := by decide +kernel
theorem dL_law_577 : decode cL_law 577 = .ok (.aload_n 1, 1) := by decide +kernel
theorem dL_law_578 : decode cL_law 578 = .ok (.invokevirtual 85, 3) := by decide +kernel
theorem dL_law_581 : decode cL_law 581 = .ok (.aload_n 2, 1) := by decide +kernel
theorem dL_law_582 : decode cL_law 582 = .ok (.invokevirtual 88, 3) := by decide +kernel
theorem dL_law_585 : decode cL_law 585 = .ok (.if_icmp .eq 274, 3) := by decide +kernel
theorem dL_law_588 : decode cL_law 588 = .ok (.iconst 0, 1) := by decide +kernel
theorem dL_law_589 : decode cL_law 589 = .ok (.ireturn, 1) := by decide +kernel
theorem dL_law_590 : decode cL_law 590 = .ok (.aload_n 1, 1) := by decide +kernel
theorem dL_law_591 : decode cL_law 591 = .ok (.invokevirtual 89, 3) := by decide +kernel
theorem dL_law_594 : decode cL_law 594 = .ok (.aload_n 2, 1) := by decide +kernel
theorem dL_law_595 : decode cL_law 595 = .ok (.invokevirtual 92, 3) := by decide +kernel
theorem dL_law_598 : decode cL_law 598 = .ok (.if_icmp .eq 261, 3) := by decide +kernel
theorem dL_law_601 : decode cL_law 601 = .ok (.iconst 0, 1) := by decide +kernel
theorem dL_law_602 : decode cL_law 602 = .ok (.ireturn, 1) := by decide +kernel
theorem dL_law_603 : decode cL_law 603 = .ok (.aload_n 1, 1) := by decide +kernel
theorem dL_law_604 : decode cL_law 604 = .ok (.aload_n 0, 1) := by decide +kernel
theorem dL_law_605 : decode cL_law 605 = .ok (.iload_n 3, 1) := by decide +kernel
theorem dL_law_606 : decode cL_law 606 = .ok (.iconst 1, 1) := by decide +kernel
theorem dL_law_607 : decode cL_law 607 = .ok (.iadd, 1) := by decide +kernel
theorem dL_law_608 : decode cL_law 608 = .ok (.iaload, 1) := by decide +kernel
theorem dL_law_609 : decode cL_law 609 = .ok (.aload_n 0, 1) := by decide +kernel
theorem dL_law_610 : decode cL_law 610 = .ok (.iload_n 3, 1) := by decide +kernel
theorem dL_law_611 : decode cL_law 611 = .ok (.iconst 2, 1) := by decide +kernel
theorem dL_law_612 : decode cL_law 612 = .ok (.iadd, 1) := by decide +kernel
theorem dL_law_613 : decode cL_law 613 = .ok (.iaload, 1) := by decide +kernel
theorem dL_law_614 : decode cL_law 614 = .ok (.invokevirtual 93, 3) := by decide +kernel
theorem dL_law_617 : decode cL_law 617 = .ok (.aload_n 2, 1) := by decide +kernel
theorem dL_law_618 : decode cL_law 618 = .ok (.aload_n 0, 1) := by decide +kernel
theorem dL_law_619 : decode cL_law 619 = .ok (.iload_n 3, 1) := by decide +kernel
theorem dL_law_620 : decode cL_law 620 = .ok (.iconst 1, 1) := by decide +kernel
theorem dL_law_621 : decode cL_law 621 = .ok (.iadd, 1) := by decide +kernel
theorem dL_law_622 : decode cL_law 622 = .ok (.iaload, 1) := by decide +kernel
theorem dL_law_623 : decode cL_law 623 = .ok (.aload_n 0, 1) := by decide +kernel
theorem dL_law_624 : decode cL_law 624 = .ok (.iload_n 3, 1) := by decide +kernel
theorem dL_law_625 : decode cL_law 625 = .ok (.iconst 2, 1) := by decide +kernel
theorem dL_law_626 : decode cL_law 626 = .ok (.iadd, 1) := by decide +kernel
theorem dL_law_627 : decode cL_law 627 = .ok (.iaload, 1) := by decide +kernel
theorem dL_law_628 : decode cL_law 628 = .ok (.invokevirtual 96, 3) := by decide +kernel
theorem dL_law_631 : decode cL_law 631 = .ok (.if_icmp .eq 228, 3) := by decide +kernel
theorem dL_law_634 : decode cL_law 634 = .ok (.iconst 0, 1) := by decide +kernel
theorem dL_law_635 : decode cL_law 635 = .ok (.ireturn, 1) := by decide +kernel
theorem dL_law_636 : decode cL_law 636 = .ok (.aload_n 1, 1) := by decide +kernel
theorem dL_law_637 : decode cL_law 637 = .ok (.aload_n 0, 1) := by decide +kernel
theorem dL_law_638 : decode cL_law 638 = .ok (.iload_n 3, 1) := by decide +kernel
theorem dL_law_639 : decode cL_law 639 = .ok (.iconst 1, 1) := by decide +kernel
theorem dL_law_640 : decode cL_law 640 = .ok (.iadd, 1) := by decide +kernel
theorem dL_law_641 : decode cL_law 641 = .ok (.iaload, 1) := by decide +kernel
theorem dL_law_642 : decode cL_law 642 = .ok (.aload_n 0, 1) := by decide +kernel
theorem dL_law_643 : decode cL_law 643 = .ok (.iload_n 3, 1) := by decide +kernel
theorem dL_law_644 : decode cL_law 644 = .ok (.iconst 2, 1) := by decide +kernel
theorem dL_law_645 : decode cL_law 645 = .ok (.iadd, 1) := by decide +kernel
theorem dL_law_646 : decode cL_law 646 = .ok (.iaload, 1) := by decide +kernel
theorem dL_law_647 : decode cL_law 647 = .ok (.aload_n 0, 1) := by decide +kernel
theorem dL_law_648 : decode cL_law 648 = .ok (.iload_n 3, 1) := by decide +kernel
theorem dL_law_649 : decode cL_law 649 = .ok (.iconst 3, 1) := by decide +kernel
theorem dL_law_650 : decode cL_law 650 = .ok (.iadd, 1) := by decide +kernel
theorem dL_law_651 : decode cL_law 651 = .ok (.iaload, 1) := by decide +kernel
theorem dL_law_652 : decode cL_law 652 = .ok (.ifCond .eq 7, 3) := by decide +kernel
theorem dL_law_655 : decode cL_law 655 = .ok (.iconst 1, 1) := by decide +kernel
theorem dL_law_656 : decode cL_law 656 = .ok (.goto 4, 3) := by decide +kernel
theorem dL_law_659 : decode cL_law 659 = .ok (.iconst 0, 1) := by decide +kernel
theorem dL_law_660 : decode cL_law 660 = .ok (.invokevirtual 97, 3) := by decide +kernel
theorem dL_law_663 : decode cL_law 663 = .ok (.aload_n 2, 1) := by decide +kernel
theorem dL_law_664 : decode cL_law 664 = .ok (.aload_n 0, 1) := by decide +kernel
theorem dL_law_665 : decode cL_law 665 = .ok (.iload_n 3, 1) := by decide +kernel
theorem dL_law_666 : decode cL_law 666 = .ok (.iconst 1, 1) := by decide +kernel
theorem dL_law_667 : decode cL_law 667 = .ok (.iadd, 1) := by decide +kernel
theorem dL_law_668 : decode cL_law 668 = .ok (.iaload, 1) := by decide +kernel
theorem dL_law_669 : decode cL_law 669 = .ok (.aload_n 0, 1) := by decide +kernel
theorem dL_law_670 : decode cL_law 670 = .ok (.iload_n 3, 1) := by decide +kernel
theorem dL_law_671 : decode cL_law 671 = .ok (.iconst 2, 1) := by decide +kernel
theorem dL_law_672 : decode cL_law 672 = .ok (.iadd, 1) := by decide +kernel
theorem dL_law_673 : decode cL_law 673 = .ok (.iaload, 1) := by decide +kernel
theorem dL_law_674 : decode cL_law 674 = .ok (.aload_n 0, 1) := by decide +kernel
theorem dL_law_675 : decode cL_law 675 = .ok (.iload_n 3, 1) := by decide +kernel
theorem dL_law_676 : decode cL_law 676 = .ok (.iconst 3, 1) := by decide +kernel
theorem dL_law_677 : decode cL_law 677 = .ok (.iadd, 1) := by decide +kernel
theorem dL_law_678 : decode cL_law 678 = .ok (.iaload, 1) := by decide +kernel
theorem dL_law_679 : decode cL_law 679 = .ok (.ifCond .eq 7, 3) := by decide +kernel
theorem dL_law_682 : decode cL_law 682 = .ok (.iconst 1, 1) := by decide +kernel
theorem dL_law_683 : decode cL_law 683 = .ok (.goto 4, 3) := by decide +kernel
theorem dL_law_686 : decode cL_law 686 = .ok (.iconst 0, 1) := by decide +kernel
theorem dL_law_687 : decode cL_law 687 = .ok (.invokevirtual 101, 3) := by decide +kernel
theorem dL_law_690 : decode cL_law 690 = .ok (.if_icmp .eq 169, 3) := by decide +kernel
theorem dL_law_693 : decode cL_law 693 = .ok (.iconst 0, 1) := by decide +kernel
theorem dL_law_694 : decode cL_law 694 = .ok (.ireturn, 1) := by decide +kernel
theorem dL_law_695 : decode cL_law 695 = .ok (.aload_n 1, 1) := by decide +kernel
theorem dL_law_696 : decode cL_law 696 = .ok (.aload_n 0, 1) := by decide +kernel
theorem dL_law_697 : decode cL_law 697 = .ok (.iload_n 3, 1) := by decide +kernel
theorem dL_law_698 : decode cL_law 698 = .ok (.iconst 1, 1) := by decide +kernel
theorem dL_law_699 : decode cL_law 699 = .ok (.iadd, 1) := by decide +kernel
theorem dL_law_700 : decode cL_law 700 = .ok (.iaload, 1) := by decide +kernel
theorem dL_law_701 : decode cL_law 701 = .ok (.invokevirtual 102, 3) := by decide +kernel
theorem dL_law_704 : decode cL_law 704 = .ok (.aload_n 2, 1) := by decide +kernel
theorem dL_law_705 : decode cL_law 705 = .ok (.aload_n 0, 1) := by decide +kernel
theorem dL_law_706 : decode cL_law 706 = .ok (.iload_n 3, 1) := by decide +kernel
theorem dL_law_707 : decode cL_law 707 = .ok (.iconst 1, 1) := by decide +kernel
theorem dL_law_708 : decode cL_law 708 = .ok (.iadd, 1) := by decide +kernel
theorem dL_law_709 : decode cL_law 709 = .ok (.iaload, 1) := by decide +kernel
theorem dL_law_710 : decode cL_law 710 = .ok (.invokevirtual 105, 3) := by decide +kernel
theorem dL_law_713 : decode cL_law 713 = .ok (.if_icmp .eq 146, 3) := by decide +kernel
theorem dL_law_716 : decode cL_law 716 = .ok (.iconst 0, 1) := by decide +kernel
theorem dL_law_717 : decode cL_law 717 = .ok (.ireturn, 1) := by decide +kernel
theorem dL_law_718 : decode cL_law 718 = .ok (.aload_n 1, 1) := by decide +kernel
theorem dL_law_719 : decode cL_law 719 = .ok (.invokevirtual 106, 3) := by decide +kernel
theorem dL_law_722 : decode cL_law 722 = .ok (.aload_n 2, 1) := by decide +kernel
theorem dL_law_723 : decode cL_law 723 = .ok (.invokevirtual 109, 3) := by decide +kernel
theorem dL_law_726 : decode cL_law 726 = .ok (.if_icmp .eq 133, 3) := by decide +kernel
theorem dL_law_729 : decode cL_law 729 = .ok (.iconst 0, 1) := by decide +kernel
theorem dL_law_730 : decode cL_law 730 = .ok (.ireturn, 1) := by decide +kernel
theorem dL_law_731 : decode cL_law 731 = .ok (.aload_n 1, 1) := by decide +kernel
theorem dL_law_732 : decode cL_law 732 = .ok (.aload_n 0, 1) := by decide +kernel
theorem dL_law_733 : decode cL_law 733 = .ok (.iload_n 3, 1) := by decide +kernel
theorem dL_law_734 : decode cL_law 734 = .ok (.iconst 1, 1) := by decide +kernel
theorem dL_law_735 : decode cL_law 735 = .ok (.iadd, 1) := by decide +kernel
theorem dL_law_736 : decode cL_law 736 = .ok (.iaload, 1) := by decide +kernel
theorem dL_law_737 : decode cL_law 737 = .ok (.aload_n 0, 1) := by decide +kernel
theorem dL_law_738 : decode cL_law 738 = .ok (.iload_n 3, 1) := by decide +kernel
theorem dL_law_739 : decode cL_law 739 = .ok (.iconst 2, 1) := by decide +kernel
theorem dL_law_740 : decode cL_law 740 = .ok (.iadd, 1) := by decide +kernel
theorem dL_law_741 : decode cL_law 741 = .ok (.iaload, 1) := by decide +kernel
theorem dL_law_742 : decode cL_law 742 = .ok (.invokevirtual 110, 3) := by decide +kernel
theorem dL_law_745 : decode cL_law 745 = .ok (.aload_n 2, 1) := by decide +kernel
theorem dL_law_746 : decode cL_law 746 = .ok (.aload_n 0, 1) := by decide +kernel
theorem dL_law_747 : decode cL_law 747 = .ok (.iload_n 3, 1) := by decide +kernel
theorem dL_law_748 : decode cL_law 748 = .ok (.iconst 1, 1) := by decide +kernel
theorem dL_law_749 : decode cL_law 749 = .ok (.iadd, 1) := by decide +kernel
theorem dL_law_750 : decode cL_law 750 = .ok (.iaload, 1) := by decide +kernel
theorem dL_law_751 : decode cL_law 751 = .ok (.aload_n 0, 1) := by decide +kernel
theorem dL_law_752 : decode cL_law 752 = .ok (.iload_n 3, 1) := by decide +kernel
theorem dL_law_753 : decode cL_law 753 = .ok (.iconst 2, 1) := by decide +kernel
theorem dL_law_754 : decode cL_law 754 = .ok (.iadd, 1) := by decide +kernel
theorem dL_law_755 : decode cL_law 755 = .ok (.iaload, 1) := by decide +kernel
theorem dL_law_756 : decode cL_law 756 = .ok (.invokevirtual 113, 3) := by decide +kernel
theorem dL_law_759 : decode cL_law 759 = .ok (.if_icmp .eq 100, 3) := by decide +kernel
theorem dL_law_762 : decode cL_law 762 = .ok (.iconst 0, 1) := by decide +kernel
theorem dL_law_763 : decode cL_law 763 = .ok (.ireturn, 1) := by decide +kernel
theorem dL_law_764 : decode cL_law 764 = .ok (.aload_n 1, 1) := by decide +kernel
theorem dL_law_765 : decode cL_law 765 = .ok (.invokevirtual 114, 3) := by decide +kernel
theorem dL_law_768 : decode cL_law 768 = .ok (.aload_n 2, 1) := by decide +kernel
theorem dL_law_769 : decode cL_law 769 = .ok (.invokevirtual 117, 3) := by decide +kernel
theorem dL_law_772 : decode cL_law 772 = .ok (.if_icmp .eq 87, 3) := by decide +kernel
theorem dL_law_775 : decode cL_law 775 = .ok (.iconst 0, 1) := by decide +kernel
theorem dL_law_776 : decode cL_law 776 = .ok (.ireturn, 1) := by decide +kernel
theorem dL_law_777 : decode cL_law 777 = .ok (.aload_n 1, 1) := by decide +kernel
theorem dL_law_778 : decode cL_law 778 = .ok (.invokevirtual 118, 3) := by decide +kernel
theorem dL_law_781 : decode cL_law 781 = .ok (.aload_n 2, 1) := by decide +kernel
theorem dL_law_782 : decode cL_law 782 = .ok (.invokevirtual 121, 3) := by decide +kernel
theorem dL_law_785 : decode cL_law 785 = .ok (.if_icmp .eq 74, 3) := by decide +kernel
theorem dL_law_788 : decode cL_law 788 = .ok (.iconst 0, 1) := by decide +kernel
theorem dL_law_789 : decode cL_law 789 = .ok (.ireturn, 1) := by decide +kernel
theorem dL_law_790 : decode cL_law 790 = .ok (.aload_n 1, 1) := by decide +kernel
theorem dL_law_791 : decode cL_law 791 = .ok (.aload_n 0, 1) := by decide +kernel
theorem dL_law_792 : decode cL_law 792 = .ok (.iload_n 3, 1) := by decide +kernel
theorem dL_law_793 : decode cL_law 793 = .ok (.iconst 1, 1) := by decide +kernel
theorem dL_law_794 : decode cL_law 794 = .ok (.iadd, 1) := by decide +kernel
theorem dL_law_795 : decode cL_law 795 = .ok (.iaload, 1) := by decide +kernel
theorem dL_law_796 : decode cL_law 796 = .ok (.invokevirtual 122, 3) := by decide +kernel
theorem dL_law_799 : decode cL_law 799 = .ok (.aload_n 2, 1) := by decide +kernel
theorem dL_law_800 : decode cL_law 800 = .ok (.aload_n 0, 1) := by decide +kernel
theorem dL_law_801 : decode cL_law 801 = .ok (.iload_n 3, 1) := by decide +kernel
theorem dL_law_802 : decode cL_law 802 = .ok (.iconst 1, 1) := by decide +kernel
theorem dL_law_803 : decode cL_law 803 = .ok (.iadd, 1) := by decide +kernel
theorem dL_law_804 : decode cL_law 804 = .ok (.iaload, 1) := by decide +kernel
theorem dL_law_805 : decode cL_law 805 = .ok (.invokevirtual 125, 3) := by decide +kernel
theorem dL_law_808 : decode cL_law 808 = .ok (.if_icmp .eq 51, 3) := by decide +kernel
theorem dL_law_811 : decode cL_law 811 = .ok (.iconst 0, 1) := by decide +kernel
theorem dL_law_812 : decode cL_law 812 = .ok (.ireturn, 1) := by decide +kernel
theorem dL_law_813 : decode cL_law 813 = .ok (.aload_n 1, 1) := by decide +kernel
theorem dL_law_814 : decode cL_law 814 = .ok (.aload_n 0, 1) := by decide +kernel
theorem dL_law_815 : decode cL_law 815 = .ok (.iload_n 3, 1) := by decide +kernel
theorem dL_law_816 : decode cL_law 816 = .ok (.iconst 1, 1) := by decide +kernel
theorem dL_law_817 : decode cL_law 817 = .ok (.iadd, 1) := by decide +kernel
theorem dL_law_818 : decode cL_law 818 = .ok (.iaload, 1) := by decide +kernel
theorem dL_law_819 : decode cL_law 819 = .ok (.invokevirtual 126, 3) := by decide +kernel
theorem dL_law_822 : decode cL_law 822 = .ok (.aload_n 2, 1) := by decide +kernel
theorem dL_law_823 : decode cL_law 823 = .ok (.aload_n 0, 1) := by decide +kernel
theorem dL_law_824 : decode cL_law 824 = .ok (.iload_n 3, 1) := by decide +kernel
theorem dL_law_825 : decode cL_law 825 = .ok (.iconst 1, 1) := by decide +kernel
theorem dL_law_826 : decode cL_law 826 = .ok (.iadd, 1) := by decide +kernel
theorem dL_law_827 : decode cL_law 827 = .ok (.iaload, 1) := by decide +kernel
theorem dL_law_828 : decode cL_law 828 = .ok (.invokevirtual 129, 3) := by decide +kernel
theorem dL_law_831 : decode cL_law 831 = .ok (.if_icmp .eq 28, 3) := by decide +kernel
theorem dL_law_834 : decode cL_law 834 = .ok (.iconst 0, 1) := by decide +kernel
theorem dL_law_835 : decode cL_law 835 = .ok (.ireturn, 1) := by decide +kernel
theorem dL_law_836 : decode cL_law 836 = .ok (.aload_n 1, 1) := by decide +kernel
theorem dL_law_837 : decode cL_law 837 = .ok (.aload_n 0, 1) := by decide +kernel
theorem dL_law_838 : decode cL_law 838 = .ok (.iload_n 3, 1) := by decide +kernel
theorem dL_law_839 : decode cL_law 839 = .ok (.iconst 1, 1) := by decide +kernel
theorem dL_law_840 : decode cL_law 840 = .ok (.iadd, 1) := by decide +kernel
theorem dL_law_841 : decode cL_law 841 = .ok (.iaload, 1) := by decide +kernel
theorem dL_law_842 : decode cL_law 842 = .ok (.invokevirtual 130, 3) := by decide +kernel
theorem dL_law_845 : decode cL_law 845 = .ok (.aload_n 2, 1) := by decide +kernel
theorem dL_law_846 : decode cL_law 846 = .ok (.aload_n 0, 1) := by decide +kernel
theorem dL_law_847 : decode cL_law 847 = .ok (.iload_n 3, 1) := by decide +kernel
theorem dL_law_848 : decode cL_law 848 = .ok (.iconst 1, 1) := by decide +kernel
theorem dL_law_849 : decode cL_law 849 = .ok (.iadd, 1) := by decide +kernel
theorem dL_law_850 : decode cL_law 850 = .ok (.iaload, 1) := by decide +kernel
theorem dL_law_851 : decode cL_law 851 = .ok (.invokevirtual 133, 3) := by decide +kernel
theorem dL_law_854 : decode cL_law 854 = .ok (.if_icmp .eq 5, 3) := by decide +kernel
theorem dL_law_857 : decode cL_law 857 = .ok (.iconst 0, 1) := by decide +kernel
theorem dL_law_858 : decode cL_law 858 = .ok (.ireturn, 1) := by decide +kernel
theorem dL_law_859 : decode cL_law 859 = .ok (.iinc 3 4, 3) := by decide +kernel
theorem dL_law_862 : decode cL_law 862 = .ok (.goto (-844), 3) := by decide +kernel
theorem dL_law_865 : decode cL_law 865 = .ok (.iconst 1, 1) := by decide +kernel
theorem dL_law_866 : decode cL_law 866 = .ok (.ireturn, 1) := by decide +kernel
