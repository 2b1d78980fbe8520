theorem dF_init_0 : decode b_F_init 0 = .ok (.aload_n 0, 1) := by decide +kernel
theorem dF_init_1 : decode b_F_init 1 = .ok (.invokespecial 1, 3) := by decide +kernel
theorem dF_init_4 : decode b_F_init 4 = .ok (.aload_n 0, 1) := by decide +kernel
theorem dF_init_5 : decode b_F_init 5 = .ok (.bipush 16, 2) := by decide +kernel
theorem dF_init_7 : decode b_F_init 7 = .ok (.newarray .int, 2) := by decide +kernel
theorem dF_init_9 : decode b_F_init 9 = .ok (.putfield 9, 3) := by decide +kernel
theorem dF_init_12 : decode b_F_init 12 = .ok (.aload_n 0, 1) := by decide +kernel
theorem dF_init_13 : decode b_F_init 13 = .ok (.bipush 16, 2) := by decide +kernel
theorem dF_init_15 : decode b_F_init 15 = .ok (.newarray .int, 2) := by decide +kernel
theorem dF_init_17 : decode b_F_init 17 = .ok (.putfield 13, 3) := by decide +kernel
theorem dF_init_20 : decode b_F_init 20 = .ok (.aload_n 0, 1) := by decide +kernel
theorem dF_init_21 : decode b_F_init 21 = .ok (.bipush 16, 2) := by decide +kernel
theorem dF_init_23 : decode b_F_init 23 = .ok (.newarray .int, 2) := by decide +kernel
theorem dF_init_25 : decode b_F_init 25 = .ok (.putfield 16, 3) := by decide +kernel
theorem dF_init_28 : decode b_F_init 28 = .ok (.return_, 1) := by decide +kernel
theorem dF_isFull_0 : decode b_F_isFull 0 = .ok (.aload_n 0, 1) := by decide +kernel
theorem dF_isFull_1 : decode b_F_isFull 1 = .ok (.getfield 19, 3) := by decide +kernel
theorem dF_isFull_4 : decode b_F_isFull 4 = .ok (.bipush 16, 2) := by decide +kernel
theorem dF_isFull_6 : decode b_F_isFull 6 = .ok (.if_icmp .lt 7, 3) := by decide +kernel
theorem dF_isFull_9 : decode b_F_isFull 9 = .ok (.iconst 1, 1) := by decide +kernel
theorem dF_isFull_10 : decode b_F_isFull 10 = .ok (.goto 4, 3) := by decide +kernel
theorem dF_isFull_13 : decode b_F_isFull 13 = .ok (.iconst 0, 1) := by decide +kernel
theorem dF_isFull_14 : decode b_F_isFull 14 = .ok (.ireturn, 1) := by decide +kernel
theorem dF_has_0 : decode b_F_has 0 = .ok (.iload_n 1, 1) := by decide +kernel
theorem dF_has_1 : decode b_F_has 1 = .ok (.iconst 0, 1) := by decide +kernel
theorem dF_has_2 : decode b_F_has 2 = .ok (.aload_n 0, 1) := by decide +kernel
theorem dF_has_3 : decode b_F_has 3 = .ok (.getfield 19, 3) := by decide +kernel
theorem dF_has_6 : decode b_F_has 6 = .ok (.iconst 1, 1) := by decide +kernel
theorem dF_has_7 : decode b_F_has 7 = .ok (.isub, 1) := by decide +kernel
theorem dF_has_8 : decode b_F_has 8 = .ok (.invokestatic 23, 3) := by decide +kernel
theorem dF_has_11 : decode b_F_has 11 = .ok (.ireturn, 1) := by decide +kernel
theorem dF_count_0 : decode b_F_count 0 = .ok (.aload_n 0, 1) := by decide +kernel
theorem dF_count_1 : decode b_F_count 1 = .ok (.getfield 19, 3) := by decide +kernel
theorem dF_count_4 : decode b_F_count 4 = .ok (.ireturn, 1) := by decide +kernel
theorem dF_add_0 : decode b_F_add 0 = .ok (.aload_n 0, 1) := by decide +kernel
theorem dF_add_1 : decode b_F_add 1 = .ok (.getfield 9, 3) := by decide +kernel
theorem dF_add_4 : decode b_F_add 4 = .ok (.aload_n 0, 1) := by decide +kernel
theorem dF_add_5 : decode b_F_add 5 = .ok (.getfield 19, 3) := by decide +kernel
theorem dF_add_8 : decode b_F_add 8 = .ok (.iload_n 1, 1) := by decide +kernel
theorem dF_add_9 : decode b_F_add 9 = .ok (.iastore, 1) := by decide +kernel
theorem dF_add_10 : decode b_F_add 10 = .ok (.aload_n 0, 1) := by decide +kernel
theorem dF_add_11 : decode b_F_add 11 = .ok (.getfield 13, 3) := by decide +kernel
theorem dF_add_14 : decode b_F_add 14 = .ok (.aload_n 0, 1) := by decide +kernel
theorem dF_add_15 : decode b_F_add 15 = .ok (.getfield 19, 3) := by decide +kernel
theorem dF_add_18 : decode b_F_add 18 = .ok (.iload_n 2, 1) := by decide +kernel
theorem dF_add_19 : decode b_F_add 19 = .ok (.iastore, 1) := by decide +kernel
theorem dF_add_20 : decode b_F_add 20 = .ok (.aload_n 0, 1) := by decide +kernel
theorem dF_add_21 : decode b_F_add 21 = .ok (.getfield 16, 3) := by decide +kernel
theorem dF_add_24 : decode b_F_add 24 = .ok (.aload_n 0, 1) := by decide +kernel
theorem dF_add_25 : decode b_F_add 25 = .ok (.getfield 19, 3) := by decide +kernel
theorem dF_add_28 : decode b_F_add 28 = .ok (.iload_n 3, 1) := by decide +kernel
theorem dF_add_29 : decode b_F_add 29 = .ok (.iastore, 1) := by decide +kernel
theorem dF_add_30 : decode b_F_add 30 = .ok (.aload_n 0, 1) := by decide +kernel
theorem dF_add_31 : decode b_F_add 31 = .ok (.dup, 1) := by decide +kernel
theorem dF_add_32 : decode b_F_add 32 = .ok (.getfield 19, 3) := by decide +kernel
theorem dF_add_35 : decode b_F_add 35 = .ok (.iconst 1, 1) := by decide +kernel
theorem dF_add_36 : decode b_F_add 36 = .ok (.iadd, 1) := by decide +kernel
theorem dF_add_37 : decode b_F_add 37 = .ok (.putfield 19, 3) := by decide +kernel
theorem dF_add_40 : decode b_F_add 40 = .ok (.aload_n 0, 1) := by decide +kernel
theorem dF_add_41 : decode b_F_add 41 = .ok (.getfield 19, 3) := by decide +kernel
theorem dF_add_44 : decode b_F_add 44 = .ok (.iconst 1, 1) := by decide +kernel
theorem dF_add_45 : decode b_F_add 45 = .ok (.isub, 1) := by decide +kernel
theorem dF_add_46 : decode b_F_add 46 = .ok (.ireturn, 1) := by decide +kernel
theorem dF_kindBit_0 : decode b_F_kindBit 0 = .ok (.iconst 1, 1) := by decide +kernel
theorem dF_kindBit_1 : decode b_F_kindBit 1 = .ok (.aload_n 0, 1) := by decide +kernel
theorem dF_kindBit_2 : decode b_F_kindBit 2 = .ok (.getfield 16, 3) := by decide +kernel
theorem dF_kindBit_5 : decode b_F_kindBit 5 = .ok (.iload_n 1, 1) := by decide +kernel
theorem dF_kindBit_6 : decode b_F_kindBit 6 = .ok (.iaload, 1) := by decide +kernel
theorem dF_kindBit_7 : decode b_F_kindBit 7 = .ok (.ishl, 1) := by decide +kernel
theorem dF_kindBit_8 : decode b_F_kindBit 8 = .ok (.ireturn, 1) := by decide +kernel
theorem dF_placeIn_0 : decode b_F_placeIn 0 = .ok (.aload_n 1, 1) := by decide +kernel
theorem dF_placeIn_1 : decode b_F_placeIn 1 = .ok (.aload_n 0, 1) := by decide +kernel
theorem dF_placeIn_2 : decode b_F_placeIn 2 = .ok (.getfield 9, 3) := by decide +kernel
theorem dF_placeIn_5 : decode b_F_placeIn 5 = .ok (.iload_n 2, 1) := by decide +kernel
theorem dF_placeIn_6 : decode b_F_placeIn 6 = .ok (.iaload, 1) := by decide +kernel
theorem dF_placeIn_7 : decode b_F_placeIn 7 = .ok (.aload_n 0, 1) := by decide +kernel
theorem dF_placeIn_8 : decode b_F_placeIn 8 = .ok (.getfield 13, 3) := by decide +kernel
theorem dF_placeIn_11 : decode b_F_placeIn 11 = .ok (.iload_n 2, 1) := by decide +kernel
theorem dF_placeIn_12 : decode b_F_placeIn 12 = .ok (.iaload, 1) := by decide +kernel
theorem dF_placeIn_13 : decode b_F_placeIn 13 = .ok (.invokevirtual 29, 3) := by decide +kernel
theorem dF_placeIn_16 : decode b_F_placeIn 16 = .ok (.ireturn, 1) := by decide +kernel
