theorem dK_init_0 : decode b_K_init 0 = .ok (.aload_n 0, 1) := by decide +kernel
theorem dK_init_1 : decode b_K_init 1 = .ok (.invokespecial 3, 3) := by decide +kernel
theorem dK_init_4 : decode b_K_init 4 = .ok (.aload_n 0, 1) := by decide +kernel
theorem dK_init_5 : decode b_K_init 5 = .ok (.bipush 8, 2) := by decide +kernel
theorem dK_init_7 : decode b_K_init 7 = .ok (.newarray .int, 2) := by decide +kernel
theorem dK_init_9 : decode b_K_init 9 = .ok (.putfield 11, 3) := by decide +kernel
theorem dK_init_12 : decode b_K_init 12 = .ok (.aload_n 0, 1) := by decide +kernel
theorem dK_init_13 : decode b_K_init 13 = .ok (.bipush 8, 2) := by decide +kernel
theorem dK_init_15 : decode b_K_init 15 = .ok (.newarray .int, 2) := by decide +kernel
theorem dK_init_17 : decode b_K_init 17 = .ok (.putfield 15, 3) := by decide +kernel
theorem dK_init_20 : decode b_K_init 20 = .ok (.return_, 1) := by decide +kernel
theorem dK_isBelowLast_0 : decode b_K_isBelowLast 0 = .ok (.aload_n 0, 1) := by decide +kernel
theorem dK_isBelowLast_1 : decode b_K_isBelowLast 1 = .ok (.getfield 18, 3) := by decide +kernel
theorem dK_isBelowLast_4 : decode b_K_isBelowLast 4 = .ok (.ifCond .eq 18, 3) := by decide +kernel
theorem dK_isBelowLast_7 : decode b_K_isBelowLast 7 = .ok (.iload_n 1, 1) := by decide +kernel
theorem dK_isBelowLast_8 : decode b_K_isBelowLast 8 = .ok (.aload_n 0, 1) := by decide +kernel
theorem dK_isBelowLast_9 : decode b_K_isBelowLast 9 = .ok (.getfield 11, 3) := by decide +kernel
theorem dK_isBelowLast_12 : decode b_K_isBelowLast 12 = .ok (.aload_n 0, 1) := by decide +kernel
theorem dK_isBelowLast_13 : decode b_K_isBelowLast 13 = .ok (.getfield 18, 3) := by decide +kernel
theorem dK_isBelowLast_16 : decode b_K_isBelowLast 16 = .ok (.iconst 1, 1) := by decide +kernel
theorem dK_isBelowLast_17 : decode b_K_isBelowLast 17 = .ok (.isub, 1) := by decide +kernel
theorem dK_isBelowLast_18 : decode b_K_isBelowLast 18 = .ok (.iaload, 1) := by decide +kernel
theorem dK_isBelowLast_19 : decode b_K_isBelowLast 19 = .ok (.if_icmp .ge 7, 3) := by decide +kernel
theorem dK_isBelowLast_22 : decode b_K_isBelowLast 22 = .ok (.iconst 1, 1) := by decide +kernel
theorem dK_isBelowLast_23 : decode b_K_isBelowLast 23 = .ok (.goto 4, 3) := by decide +kernel
theorem dK_isBelowLast_26 : decode b_K_isBelowLast 26 = .ok (.iconst 0, 1) := by decide +kernel
theorem dK_isBelowLast_27 : decode b_K_isBelowLast 27 = .ok (.ireturn, 1) := by decide +kernel
theorem dK_add_0 : decode b_K_add 0 = .ok (.aload_n 0, 1) := by decide +kernel
theorem dK_add_1 : decode b_K_add 1 = .ok (.getfield 18, 3) := by decide +kernel
theorem dK_add_4 : decode b_K_add 4 = .ok (.bipush 8, 2) := by decide +kernel
theorem dK_add_6 : decode b_K_add 6 = .ok (.if_icmp .lt 5, 3) := by decide +kernel
theorem dK_add_9 : decode b_K_add 9 = .ok (.iconst 0, 1) := by decide +kernel
theorem dK_add_10 : decode b_K_add 10 = .ok (.ireturn, 1) := by decide +kernel
theorem dK_add_11 : decode b_K_add 11 = .ok (.aload_n 0, 1) := by decide +kernel
theorem dK_add_12 : decode b_K_add 12 = .ok (.getfield 11, 3) := by decide +kernel
theorem dK_add_15 : decode b_K_add 15 = .ok (.aload_n 0, 1) := by decide +kernel
theorem dK_add_16 : decode b_K_add 16 = .ok (.getfield 18, 3) := by decide +kernel
theorem dK_add_19 : decode b_K_add 19 = .ok (.iload_n 1, 1) := by decide +kernel
theorem dK_add_20 : decode b_K_add 20 = .ok (.iastore, 1) := by decide +kernel
theorem dK_add_21 : decode b_K_add 21 = .ok (.aload_n 0, 1) := by decide +kernel
theorem dK_add_22 : decode b_K_add 22 = .ok (.getfield 15, 3) := by decide +kernel
theorem dK_add_25 : decode b_K_add 25 = .ok (.aload_n 0, 1) := by decide +kernel
theorem dK_add_26 : decode b_K_add 26 = .ok (.getfield 18, 3) := by decide +kernel
theorem dK_add_29 : decode b_K_add 29 = .ok (.iload_n 2, 1) := by decide +kernel
theorem dK_add_30 : decode b_K_add 30 = .ok (.iastore, 1) := by decide +kernel
theorem dK_add_31 : decode b_K_add 31 = .ok (.aload_n 0, 1) := by decide +kernel
theorem dK_add_32 : decode b_K_add 32 = .ok (.dup, 1) := by decide +kernel
theorem dK_add_33 : decode b_K_add 33 = .ok (.getfield 18, 3) := by decide +kernel
theorem dK_add_36 : decode b_K_add 36 = .ok (.iconst 1, 1) := by decide +kernel
theorem dK_add_37 : decode b_K_add 37 = .ok (.iadd, 1) := by decide +kernel
theorem dK_add_38 : decode b_K_add 38 = .ok (.putfield 18, 3) := by decide +kernel
theorem dK_add_41 : decode b_K_add 41 = .ok (.iconst 1, 1) := by decide +kernel
theorem dK_add_42 : decode b_K_add 42 = .ok (.ireturn, 1) := by decide +kernel
theorem dK_answerAt_0 : decode b_K_answerAt 0 = .ok (.aload_n 0, 1) := by decide +kernel
theorem dK_answerAt_1 : decode b_K_answerAt 1 = .ok (.getfield 18, 3) := by decide +kernel
theorem dK_answerAt_4 : decode b_K_answerAt 4 = .ok (.iconst 1, 1) := by decide +kernel
theorem dK_answerAt_5 : decode b_K_answerAt 5 = .ok (.isub, 1) := by decide +kernel
theorem dK_answerAt_6 : decode b_K_answerAt 6 = .ok (.istore_n 2, 1) := by decide +kernel
theorem dK_answerAt_7 : decode b_K_answerAt 7 = .ok (.iload_n 2, 1) := by decide +kernel
theorem dK_answerAt_8 : decode b_K_answerAt 8 = .ok (.ifCond .lt 30, 3) := by decide +kernel
theorem dK_answerAt_11 : decode b_K_answerAt 11 = .ok (.aload_n 0, 1) := by decide +kernel
theorem dK_answerAt_12 : decode b_K_answerAt 12 = .ok (.getfield 11, 3) := by decide +kernel
theorem dK_answerAt_15 : decode b_K_answerAt 15 = .ok (.iload_n 2, 1) := by decide +kernel
theorem dK_answerAt_16 : decode b_K_answerAt 16 = .ok (.iaload, 1) := by decide +kernel
theorem dK_answerAt_17 : decode b_K_answerAt 17 = .ok (.iload_n 1, 1) := by decide +kernel
theorem dK_answerAt_18 : decode b_K_answerAt 18 = .ok (.if_icmp .lt 14, 3) := by decide +kernel
theorem dK_answerAt_21 : decode b_K_answerAt 21 = .ok (.aload_n 0, 1) := by decide +kernel
theorem dK_answerAt_22 : decode b_K_answerAt 22 = .ok (.getfield 15, 3) := by decide +kernel
theorem dK_answerAt_25 : decode b_K_answerAt 25 = .ok (.iload_n 2, 1) := by decide +kernel
theorem dK_answerAt_26 : decode b_K_answerAt 26 = .ok (.iaload, 1) := by decide +kernel
theorem dK_answerAt_27 : decode b_K_answerAt 27 = .ok (.sipush 1000, 3) := by decide +kernel
theorem dK_answerAt_30 : decode b_K_answerAt 30 = .ok (.iadd, 1) := by decide +kernel
theorem dK_answerAt_31 : decode b_K_answerAt 31 = .ok (.ireturn, 1) := by decide +kernel
theorem dK_answerAt_32 : decode b_K_answerAt 32 = .ok (.iinc 2 (-1), 3) := by decide +kernel
theorem dK_answerAt_35 : decode b_K_answerAt 35 = .ok (.goto (-28), 3) := by decide +kernel
theorem dK_answerAt_38 : decode b_K_answerAt 38 = .ok (.iconst (-1), 1) := by decide +kernel
theorem dK_answerAt_39 : decode b_K_answerAt 39 = .ok (.ireturn, 1) := by decide +kernel
