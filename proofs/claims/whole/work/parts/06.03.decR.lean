theorem dR_init_0 : decode b_R_init 0 = .ok (.aload_n 0, 1) := by decide +kernel
theorem dR_init_1 : decode b_R_init 1 = .ok (.invokespecial 3, 3) := by decide +kernel
theorem dR_init_4 : decode b_R_init 4 = .ok (.aload_n 0, 1) := by decide +kernel
theorem dR_init_5 : decode b_R_init 5 = .ok (.iconst 1, 1) := by decide +kernel
theorem dR_init_6 : decode b_R_init 6 = .ok (.putfield 9, 3) := by decide +kernel
theorem dR_init_9 : decode b_R_init 9 = .ok (.return_, 1) := by decide +kernel
theorem dR_peelOff_0 : decode b_R_peelOff 0 = .ok (.aload_n 0, 1) := by decide +kernel
theorem dR_peelOff_1 : decode b_R_peelOff 1 = .ok (.iload_n 1, 1) := by decide +kernel
theorem dR_peelOff_2 : decode b_R_peelOff 2 = .ok (.putfield 15, 3) := by decide +kernel
theorem dR_peelOff_5 : decode b_R_peelOff 5 = .ok (.aload_n 0, 1) := by decide +kernel
theorem dR_peelOff_6 : decode b_R_peelOff 6 = .ok (.iconst 1, 1) := by decide +kernel
theorem dR_peelOff_7 : decode b_R_peelOff 7 = .ok (.iload_n 2, 1) := by decide +kernel
theorem dR_peelOff_8 : decode b_R_peelOff 8 = .ok (.invokestatic 18, 3) := by decide +kernel
theorem dR_peelOff_11 : decode b_R_peelOff 11 = .ok (.putfield 9, 3) := by decide +kernel
theorem dR_peelOff_14 : decode b_R_peelOff 14 = .ok (.aload_n 0, 1) := by decide +kernel
theorem dR_peelOff_15 : decode b_R_peelOff 15 = .ok (.aload_n 0, 1) := by decide +kernel
theorem dR_peelOff_16 : decode b_R_peelOff 16 = .ok (.getfield 15, 3) := by decide +kernel
theorem dR_peelOff_19 : decode b_R_peelOff 19 = .ok (.iload_n 3, 1) := by decide +kernel
theorem dR_peelOff_20 : decode b_R_peelOff 20 = .ok (.if_icmp .ge 7, 3) := by decide +kernel
theorem dR_peelOff_23 : decode b_R_peelOff 23 = .ok (.iconst 0, 1) := by decide +kernel
theorem dR_peelOff_24 : decode b_R_peelOff 24 = .ok (.goto 14, 3) := by decide +kernel
theorem dR_peelOff_27 : decode b_R_peelOff 27 = .ok (.aload_n 0, 1) := by decide +kernel
theorem dR_peelOff_28 : decode b_R_peelOff 28 = .ok (.getfield 15, 3) := by decide +kernel
theorem dR_peelOff_31 : decode b_R_peelOff 31 = .ok (.iload_n 3, 1) := by decide +kernel
theorem dR_peelOff_32 : decode b_R_peelOff 32 = .ok (.isub, 1) := by decide +kernel
theorem dR_peelOff_33 : decode b_R_peelOff 33 = .ok (.aload_n 0, 1) := by decide +kernel
theorem dR_peelOff_34 : decode b_R_peelOff 34 = .ok (.getfield 9, 3) := by decide +kernel
theorem dR_peelOff_37 : decode b_R_peelOff 37 = .ok (.idiv, 1) := by decide +kernel
theorem dR_peelOff_38 : decode b_R_peelOff 38 = .ok (.putfield 24, 3) := by decide +kernel
theorem dR_peelOff_41 : decode b_R_peelOff 41 = .ok (.aload_n 0, 1) := by decide +kernel
theorem dR_peelOff_42 : decode b_R_peelOff 42 = .ok (.iconst 1, 1) := by decide +kernel
theorem dR_peelOff_43 : decode b_R_peelOff 43 = .ok (.putfield 27, 3) := by decide +kernel
theorem dR_peelOff_46 : decode b_R_peelOff 46 = .ok (.return_, 1) := by decide +kernel
theorem dR_forget_0 : decode b_R_forget 0 = .ok (.aload_n 0, 1) := by decide +kernel
theorem dR_forget_1 : decode b_R_forget 1 = .ok (.iconst 0, 1) := by decide +kernel
theorem dR_forget_2 : decode b_R_forget 2 = .ok (.putfield 27, 3) := by decide +kernel
theorem dR_forget_5 : decode b_R_forget 5 = .ok (.return_, 1) := by decide +kernel
theorem dR_isPeeled_0 : decode b_R_isPeeled 0 = .ok (.aload_n 0, 1) := by decide +kernel
theorem dR_isPeeled_1 : decode b_R_isPeeled 1 = .ok (.getfield 27, 3) := by decide +kernel
theorem dR_isPeeled_4 : decode b_R_isPeeled 4 = .ok (.ireturn, 1) := by decide +kernel
theorem dR_turns_0 : decode b_R_turns 0 = .ok (.aload_n 0, 1) := by decide +kernel
theorem dR_turns_1 : decode b_R_turns 1 = .ok (.getfield 24, 3) := by decide +kernel
theorem dR_turns_4 : decode b_R_turns 4 = .ok (.ireturn, 1) := by decide +kernel
theorem dR_length_0 : decode b_R_length 0 = .ok (.aload_n 0, 1) := by decide +kernel
theorem dR_length_1 : decode b_R_length 1 = .ok (.aload_n 0, 1) := by decide +kernel
theorem dR_length_2 : decode b_R_length 2 = .ok (.getfield 24, 3) := by decide +kernel
theorem dR_length_5 : decode b_R_length 5 = .ok (.invokevirtual 31, 3) := by decide +kernel
theorem dR_length_8 : decode b_R_length 8 = .ok (.ireturn, 1) := by decide +kernel
theorem dR_lengthBefore_0 : decode b_R_lengthBefore 0 = .ok (.iload_n 1, 1) := by decide +kernel
theorem dR_lengthBefore_1 : decode b_R_lengthBefore 1 = .ok (.aload_n 0, 1) := by decide +kernel
theorem dR_lengthBefore_2 : decode b_R_lengthBefore 2 = .ok (.getfield 15, 3) := by decide +kernel
theorem dR_lengthBefore_5 : decode b_R_lengthBefore 5 = .ok (.imul, 1) := by decide +kernel
theorem dR_lengthBefore_6 : decode b_R_lengthBefore 6 = .ok (.aload_n 0, 1) := by decide +kernel
theorem dR_lengthBefore_7 : decode b_R_lengthBefore 7 = .ok (.getfield 9, 3) := by decide +kernel
theorem dR_lengthBefore_10 : decode b_R_lengthBefore 10 = .ok (.iload_n 1, 1) := by decide +kernel
theorem dR_lengthBefore_11 : decode b_R_lengthBefore 11 = .ok (.iload_n 1, 1) := by decide +kernel
theorem dR_lengthBefore_12 : decode b_R_lengthBefore 12 = .ok (.iconst 1, 1) := by decide +kernel
theorem dR_lengthBefore_13 : decode b_R_lengthBefore 13 = .ok (.isub, 1) := by decide +kernel
theorem dR_lengthBefore_14 : decode b_R_lengthBefore 14 = .ok (.imul, 1) := by decide +kernel
theorem dR_lengthBefore_15 : decode b_R_lengthBefore 15 = .ok (.iconst 2, 1) := by decide +kernel
theorem dR_lengthBefore_16 : decode b_R_lengthBefore 16 = .ok (.idiv, 1) := by decide +kernel
theorem dR_lengthBefore_17 : decode b_R_lengthBefore 17 = .ok (.imul, 1) := by decide +kernel
theorem dR_lengthBefore_18 : decode b_R_lengthBefore 18 = .ok (.isub, 1) := by decide +kernel
theorem dR_lengthBefore_19 : decode b_R_lengthBefore 19 = .ok (.istore_n 2, 1) := by decide +kernel
theorem dR_lengthBefore_20 : decode b_R_lengthBefore 20 = .ok (.iload_n 2, 1) := by decide +kernel
theorem dR_lengthBefore_21 : decode b_R_lengthBefore 21 = .ok (.invokestatic 35, 3) := by decide +kernel
theorem dR_lengthBefore_24 : decode b_R_lengthBefore 24 = .ok (.ireturn, 1) := by decide +kernel
theorem dR_placeOf_0 : decode b_R_placeOf 0 = .ok (.iload_n 2, 1) := by decide +kernel
theorem dR_placeOf_1 : decode b_R_placeOf 1 = .ok (.aload_n 0, 1) := by decide +kernel
theorem dR_placeOf_2 : decode b_R_placeOf 2 = .ok (.getfield 15, 3) := by decide +kernel
theorem dR_placeOf_5 : decode b_R_placeOf 5 = .ok (.if_icmp .gt 21, 3) := by decide +kernel
theorem dR_placeOf_8 : decode b_R_placeOf 8 = .ok (.iload_n 2, 1) := by decide +kernel
theorem dR_placeOf_9 : decode b_R_placeOf 9 = .ok (.aload_n 0, 1) := by decide +kernel
theorem dR_placeOf_10 : decode b_R_placeOf 10 = .ok (.getfield 15, 3) := by decide +kernel
theorem dR_placeOf_13 : decode b_R_placeOf 13 = .ok (.aload_n 0, 1) := by decide +kernel
theorem dR_placeOf_14 : decode b_R_placeOf 14 = .ok (.getfield 24, 3) := by decide +kernel
theorem dR_placeOf_17 : decode b_R_placeOf 17 = .ok (.aload_n 0, 1) := by decide +kernel
theorem dR_placeOf_18 : decode b_R_placeOf 18 = .ok (.getfield 9, 3) := by decide +kernel
theorem dR_placeOf_21 : decode b_R_placeOf 21 = .ok (.imul, 1) := by decide +kernel
theorem dR_placeOf_22 : decode b_R_placeOf 22 = .ok (.isub, 1) := by decide +kernel
theorem dR_placeOf_23 : decode b_R_placeOf 23 = .ok (.if_icmp .gt 5, 3) := by decide +kernel
theorem dR_placeOf_26 : decode b_R_placeOf 26 = .ok (.iconst (-1), 1) := by decide +kernel
theorem dR_placeOf_27 : decode b_R_placeOf 27 = .ok (.ireturn, 1) := by decide +kernel
theorem dR_placeOf_28 : decode b_R_placeOf 28 = .ok (.aload_n 0, 1) := by decide +kernel
theorem dR_placeOf_29 : decode b_R_placeOf 29 = .ok (.getfield 15, 3) := by decide +kernel
theorem dR_placeOf_32 : decode b_R_placeOf 32 = .ok (.iload_n 2, 1) := by decide +kernel
theorem dR_placeOf_33 : decode b_R_placeOf 33 = .ok (.isub, 1) := by decide +kernel
theorem dR_placeOf_34 : decode b_R_placeOf 34 = .ok (.aload_n 0, 1) := by decide +kernel
theorem dR_placeOf_35 : decode b_R_placeOf 35 = .ok (.getfield 9, 3) := by decide +kernel
theorem dR_placeOf_38 : decode b_R_placeOf 38 = .ok (.idiv, 1) := by decide +kernel
theorem dR_placeOf_39 : decode b_R_placeOf 39 = .ok (.istore_n 3, 1) := by decide +kernel
theorem dR_placeOf_40 : decode b_R_placeOf 40 = .ok (.aload_n 0, 1) := by decide +kernel
theorem dR_placeOf_41 : decode b_R_placeOf 41 = .ok (.iload_n 3, 1) := by decide +kernel
theorem dR_placeOf_42 : decode b_R_placeOf 42 = .ok (.invokevirtual 31, 3) := by decide +kernel
theorem dR_placeOf_45 : decode b_R_placeOf 45 = .ok (.aload_n 0, 1) := by decide +kernel
theorem dR_placeOf_46 : decode b_R_placeOf 46 = .ok (.getfield 15, 3) := by decide +kernel
theorem dR_placeOf_49 : decode b_R_placeOf 49 = .ok (.iload_n 3, 1) := by decide +kernel
theorem dR_placeOf_50 : decode b_R_placeOf 50 = .ok (.aload_n 0, 1) := by decide +kernel
theorem dR_placeOf_51 : decode b_R_placeOf 51 = .ok (.getfield 9, 3) := by decide +kernel
theorem dR_placeOf_54 : decode b_R_placeOf 54 = .ok (.imul, 1) := by decide +kernel
theorem dR_placeOf_55 : decode b_R_placeOf 55 = .ok (.isub, 1) := by decide +kernel
theorem dR_placeOf_56 : decode b_R_placeOf 56 = .ok (.invokestatic 35, 3) := by decide +kernel
theorem dR_placeOf_59 : decode b_R_placeOf 59 = .ok (.iload_n 1, 1) := by decide +kernel
theorem dR_placeOf_60 : decode b_R_placeOf 60 = .ok (.imul, 1) := by decide +kernel
theorem dR_placeOf_61 : decode b_R_placeOf 61 = .ok (.sipush 360, 3) := by decide +kernel
theorem dR_placeOf_64 : decode b_R_placeOf 64 = .ok (.idiv, 1) := by decide +kernel
theorem dR_placeOf_65 : decode b_R_placeOf 65 = .ok (.iadd, 1) := by decide +kernel
theorem dR_placeOf_66 : decode b_R_placeOf 66 = .ok (.ireturn, 1) := by decide +kernel
theorem dR_roundOf_0 : decode b_R_roundOf 0 = .ok (.iload_n 0, 1) := by decide +kernel
theorem dR_roundOf_1 : decode b_R_roundOf 1 = .ok (.sipush 710, 3) := by decide +kernel
theorem dR_roundOf_4 : decode b_R_roundOf 4 = .ok (.imul, 1) := by decide +kernel
theorem dR_roundOf_5 : decode b_R_roundOf 5 = .ok (.bipush 113, 2) := by decide +kernel
theorem dR_roundOf_7 : decode b_R_roundOf 7 = .ok (.idiv, 1) := by decide +kernel
theorem dR_roundOf_8 : decode b_R_roundOf 8 = .ok (.ireturn, 1) := by decide +kernel
