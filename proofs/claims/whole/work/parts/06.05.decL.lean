theorem dL_init_0 : decode b_L_init 0 = .ok (.aload_n 0, 1) := by decide +kernel
theorem dL_init_1 : decode b_L_init 1 = .ok (.invokespecial 1, 3) := by decide +kernel
theorem dL_init_4 : decode b_L_init 4 = .ok (.aload_n 0, 1) := by decide +kernel
theorem dL_init_5 : decode b_L_init 5 = .ok (.bipush 6, 2) := by decide +kernel
theorem dL_init_7 : decode b_L_init 7 = .ok (.newarray .int, 2) := by decide +kernel
theorem dL_init_9 : decode b_L_init 9 = .ok (.putfield 9, 3) := by decide +kernel
theorem dL_init_12 : decode b_L_init 12 = .ok (.aload_n 0, 1) := by decide +kernel
theorem dL_init_13 : decode b_L_init 13 = .ok (.bipush 6, 2) := by decide +kernel
theorem dL_init_15 : decode b_L_init 15 = .ok (.newarray .int, 2) := by decide +kernel
theorem dL_init_17 : decode b_L_init 17 = .ok (.putfield 13, 3) := by decide +kernel
theorem dL_init_20 : decode b_L_init 20 = .ok (.aload_n 0, 1) := by decide +kernel
theorem dL_init_21 : decode b_L_init 21 = .ok (.bipush 6, 2) := by decide +kernel
theorem dL_init_23 : decode b_L_init 23 = .ok (.newarray .int, 2) := by decide +kernel
theorem dL_init_25 : decode b_L_init 25 = .ok (.putfield 16, 3) := by decide +kernel
theorem dL_init_28 : decode b_L_init 28 = .ok (.return_, 1) := by decide +kernel
theorem dL_isFull_0 : decode b_L_isFull 0 = .ok (.aload_n 0, 1) := by decide +kernel
theorem dL_isFull_1 : decode b_L_isFull 1 = .ok (.getfield 19, 3) := by decide +kernel
theorem dL_isFull_4 : decode b_L_isFull 4 = .ok (.bipush 6, 2) := by decide +kernel
theorem dL_isFull_6 : decode b_L_isFull 6 = .ok (.if_icmp .lt 7, 3) := by decide +kernel
theorem dL_isFull_9 : decode b_L_isFull 9 = .ok (.iconst 1, 1) := by decide +kernel
theorem dL_isFull_10 : decode b_L_isFull 10 = .ok (.goto 4, 3) := by decide +kernel
theorem dL_isFull_13 : decode b_L_isFull 13 = .ok (.iconst 0, 1) := by decide +kernel
theorem dL_isFull_14 : decode b_L_isFull 14 = .ok (.ireturn, 1) := by decide +kernel
theorem dL_has_0 : decode b_L_has 0 = .ok (.iload_n 1, 1) := by decide +kernel
theorem dL_has_1 : decode b_L_has 1 = .ok (.iconst 0, 1) := by decide +kernel
theorem dL_has_2 : decode b_L_has 2 = .ok (.aload_n 0, 1) := by decide +kernel
theorem dL_has_3 : decode b_L_has 3 = .ok (.getfield 19, 3) := by decide +kernel
theorem dL_has_6 : decode b_L_has 6 = .ok (.iconst 1, 1) := by decide +kernel
theorem dL_has_7 : decode b_L_has 7 = .ok (.isub, 1) := by decide +kernel
theorem dL_has_8 : decode b_L_has 8 = .ok (.invokestatic 23, 3) := by decide +kernel
theorem dL_has_11 : decode b_L_has 11 = .ok (.ireturn, 1) := by decide +kernel
theorem dL_count_0 : decode b_L_count 0 = .ok (.aload_n 0, 1) := by decide +kernel
theorem dL_count_1 : decode b_L_count 1 = .ok (.getfield 19, 3) := by decide +kernel
theorem dL_count_4 : decode b_L_count 4 = .ok (.ireturn, 1) := by decide +kernel
theorem dL_add_0 : decode b_L_add 0 = .ok (.aload_n 0, 1) := by decide +kernel
theorem dL_add_1 : decode b_L_add 1 = .ok (.getfield 9, 3) := by decide +kernel
theorem dL_add_4 : decode b_L_add 4 = .ok (.aload_n 0, 1) := by decide +kernel
theorem dL_add_5 : decode b_L_add 5 = .ok (.getfield 19, 3) := by decide +kernel
theorem dL_add_8 : decode b_L_add 8 = .ok (.iload_n 1, 1) := by decide +kernel
theorem dL_add_9 : decode b_L_add 9 = .ok (.iastore, 1) := by decide +kernel
theorem dL_add_10 : decode b_L_add 10 = .ok (.aload_n 0, 1) := by decide +kernel
theorem dL_add_11 : decode b_L_add 11 = .ok (.getfield 13, 3) := by decide +kernel
theorem dL_add_14 : decode b_L_add 14 = .ok (.aload_n 0, 1) := by decide +kernel
theorem dL_add_15 : decode b_L_add 15 = .ok (.getfield 19, 3) := by decide +kernel
theorem dL_add_18 : decode b_L_add 18 = .ok (.iload_n 2, 1) := by decide +kernel
theorem dL_add_19 : decode b_L_add 19 = .ok (.iastore, 1) := by decide +kernel
theorem dL_add_20 : decode b_L_add 20 = .ok (.aload_n 0, 1) := by decide +kernel
theorem dL_add_21 : decode b_L_add 21 = .ok (.dup, 1) := by decide +kernel
theorem dL_add_22 : decode b_L_add 22 = .ok (.getfield 19, 3) := by decide +kernel
theorem dL_add_25 : decode b_L_add 25 = .ok (.iconst 1, 1) := by decide +kernel
theorem dL_add_26 : decode b_L_add 26 = .ok (.iadd, 1) := by decide +kernel
theorem dL_add_27 : decode b_L_add 27 = .ok (.putfield 19, 3) := by decide +kernel
theorem dL_add_30 : decode b_L_add 30 = .ok (.aload_n 0, 1) := by decide +kernel
theorem dL_add_31 : decode b_L_add 31 = .ok (.getfield 19, 3) := by decide +kernel
theorem dL_add_34 : decode b_L_add 34 = .ok (.iconst 1, 1) := by decide +kernel
theorem dL_add_35 : decode b_L_add 35 = .ok (.isub, 1) := by decide +kernel
theorem dL_add_36 : decode b_L_add 36 = .ok (.ireturn, 1) := by decide +kernel
theorem dL_tellBar_0 : decode b_L_tellBar 0 = .ok (.aload_n 0, 1) := by decide +kernel
theorem dL_tellBar_1 : decode b_L_tellBar 1 = .ok (.iload_n 1, 1) := by decide +kernel
theorem dL_tellBar_2 : decode b_L_tellBar 2 = .ok (.iconst 1, 1) := by decide +kernel
theorem dL_tellBar_3 : decode b_L_tellBar 3 = .ok (.iload_n 2, 1) := by decide +kernel
theorem dL_tellBar_4 : decode b_L_tellBar 4 = .ok (.ishl, 1) := by decide +kernel
theorem dL_tellBar_5 : decode b_L_tellBar 5 = .ok (.invokevirtual 29, 3) := by decide +kernel
theorem dL_tellBar_8 : decode b_L_tellBar 8 = .ok (.iload_n 3, 1) := by decide +kernel
theorem dL_tellBar_9 : decode b_L_tellBar 9 = .ok (.if_icmp .eq 7, 3) := by decide +kernel
theorem dL_tellBar_12 : decode b_L_tellBar 12 = .ok (.iconst 1, 1) := by decide +kernel
theorem dL_tellBar_13 : decode b_L_tellBar 13 = .ok (.goto 4, 3) := by decide +kernel
theorem dL_tellBar_16 : decode b_L_tellBar 16 = .ok (.iconst 0, 1) := by decide +kernel
theorem dL_tellBar_17 : decode b_L_tellBar 17 = .ok (.istore 4, 2) := by decide +kernel
theorem dL_tellBar_19 : decode b_L_tellBar 19 = .ok (.iload 4, 2) := by decide +kernel
theorem dL_tellBar_21 : decode b_L_tellBar 21 = .ok (.ifCond .eq 15, 3) := by decide +kernel
theorem dL_tellBar_24 : decode b_L_tellBar 24 = .ok (.aload_n 0, 1) := by decide +kernel
theorem dL_tellBar_25 : decode b_L_tellBar 25 = .ok (.getfield 16, 3) := by decide +kernel
theorem dL_tellBar_28 : decode b_L_tellBar 28 = .ok (.iload_n 1, 1) := by decide +kernel
theorem dL_tellBar_29 : decode b_L_tellBar 29 = .ok (.dup2, 1) := by decide +kernel
theorem dL_tellBar_30 : decode b_L_tellBar 30 = .ok (.iaload, 1) := by decide +kernel
theorem dL_tellBar_31 : decode b_L_tellBar 31 = .ok (.iconst 1, 1) := by decide +kernel
theorem dL_tellBar_32 : decode b_L_tellBar 32 = .ok (.iload_n 2, 1) := by decide +kernel
theorem dL_tellBar_33 : decode b_L_tellBar 33 = .ok (.ishl, 1) := by decide +kernel
theorem dL_tellBar_34 : decode b_L_tellBar 34 = .ok (.ixor, 1) := by decide +kernel
theorem dL_tellBar_35 : decode b_L_tellBar 35 = .ok (.iastore, 1) := by decide +kernel
theorem dL_tellBar_36 : decode b_L_tellBar 36 = .ok (.iload 4, 2) := by decide +kernel
theorem dL_tellBar_38 : decode b_L_tellBar 38 = .ok (.ireturn, 1) := by decide +kernel
theorem dL_barsAny_0 : decode b_L_barsAny 0 = .ok (.aload_n 0, 1) := by decide +kernel
theorem dL_barsAny_1 : decode b_L_barsAny 1 = .ok (.getfield 16, 3) := by decide +kernel
theorem dL_barsAny_4 : decode b_L_barsAny 4 = .ok (.iload_n 1, 1) := by decide +kernel
theorem dL_barsAny_5 : decode b_L_barsAny 5 = .ok (.iaload, 1) := by decide +kernel
theorem dL_barsAny_6 : decode b_L_barsAny 6 = .ok (.iload_n 2, 1) := by decide +kernel
theorem dL_barsAny_7 : decode b_L_barsAny 7 = .ok (.iand, 1) := by decide +kernel
theorem dL_barsAny_8 : decode b_L_barsAny 8 = .ok (.ifCond .eq 7, 3) := by decide +kernel
theorem dL_barsAny_11 : decode b_L_barsAny 11 = .ok (.iconst 1, 1) := by decide +kernel
theorem dL_barsAny_12 : decode b_L_barsAny 12 = .ok (.goto 4, 3) := by decide +kernel
theorem dL_barsAny_15 : decode b_L_barsAny 15 = .ok (.iconst 0, 1) := by decide +kernel
theorem dL_barsAny_16 : decode b_L_barsAny 16 = .ok (.ireturn, 1) := by decide +kernel
theorem dL_width_0 : decode b_L_width 0 = .ok (.aload_n 0, 1) := by decide +kernel
theorem dL_width_1 : decode b_L_width 1 = .ok (.getfield 9, 3) := by decide +kernel
theorem dL_width_4 : decode b_L_width 4 = .ok (.iload_n 1, 1) := by decide +kernel
theorem dL_width_5 : decode b_L_width 5 = .ok (.iaload, 1) := by decide +kernel
theorem dL_width_6 : decode b_L_width 6 = .ok (.ireturn, 1) := by decide +kernel
theorem dL_worth_0 : decode b_L_worth 0 = .ok (.aload_n 0, 1) := by decide +kernel
theorem dL_worth_1 : decode b_L_worth 1 = .ok (.getfield 13, 3) := by decide +kernel
theorem dL_worth_4 : decode b_L_worth 4 = .ok (.iload_n 1, 1) := by decide +kernel
theorem dL_worth_5 : decode b_L_worth 5 = .ok (.iaload, 1) := by decide +kernel
theorem dL_worth_6 : decode b_L_worth 6 = .ok (.ireturn, 1) := by decide +kernel
