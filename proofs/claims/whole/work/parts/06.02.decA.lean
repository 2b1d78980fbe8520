theorem dA_init_0 : decode b_A_init 0 = .ok (.aload_n 0, 1) := by decide +kernel
theorem dA_init_1 : decode b_A_init 1 = .ok (.invokespecial 1, 3) := by decide +kernel
theorem dA_init_4 : decode b_A_init 4 = .ok (.aload_n 0, 1) := by decide +kernel
theorem dA_init_5 : decode b_A_init 5 = .ok (.iconst 4, 1) := by decide +kernel
theorem dA_init_6 : decode b_A_init 6 = .ok (.newarray .int, 2) := by decide +kernel
theorem dA_init_8 : decode b_A_init 8 = .ok (.putfield 7, 3) := by decide +kernel
theorem dA_init_11 : decode b_A_init 11 = .ok (.aload_n 0, 1) := by decide +kernel
theorem dA_init_12 : decode b_A_init 12 = .ok (.iconst 1, 1) := by decide +kernel
theorem dA_init_13 : decode b_A_init 13 = .ok (.putfield 13, 3) := by decide +kernel
theorem dA_init_16 : decode b_A_init 16 = .ok (.aload_n 0, 1) := by decide +kernel
theorem dA_init_17 : decode b_A_init 17 = .ok (.aload_n 1, 1) := by decide +kernel
theorem dA_init_18 : decode b_A_init 18 = .ok (.putfield 17, 3) := by decide +kernel
theorem dA_init_21 : decode b_A_init 21 = .ok (.aload_n 0, 1) := by decide +kernel
theorem dA_init_22 : decode b_A_init 22 = .ok (.aload_n 1, 1) := by decide +kernel
theorem dA_init_23 : decode b_A_init 23 = .ok (.invokevirtual 21, 3) := by decide +kernel
theorem dA_init_26 : decode b_A_init 26 = .ok (.putfield 27, 3) := by decide +kernel
theorem dA_init_29 : decode b_A_init 29 = .ok (.aload_n 0, 1) := by decide +kernel
theorem dA_init_30 : decode b_A_init 30 = .ok (.aload_n 1, 1) := by decide +kernel
theorem dA_init_31 : decode b_A_init 31 = .ok (.invokevirtual 30, 3) := by decide +kernel
theorem dA_init_34 : decode b_A_init 34 = .ok (.putfield 33, 3) := by decide +kernel
theorem dA_init_37 : decode b_A_init 37 = .ok (.return_, 1) := by decide +kernel
theorem dA_forget_0 : decode b_A_forget 0 = .ok (.aload_n 0, 1) := by decide +kernel
theorem dA_forget_1 : decode b_A_forget 1 = .ok (.iconst 1, 1) := by decide +kernel
theorem dA_forget_2 : decode b_A_forget 2 = .ok (.putfield 13, 3) := by decide +kernel
theorem dA_forget_5 : decode b_A_forget 5 = .ok (.return_, 1) := by decide +kernel
theorem dA_number_0 : decode b_A_number 0 = .ok (.aload_n 0, 1) := by decide +kernel
theorem dA_number_1 : decode b_A_number 1 = .ok (.invokevirtual 35, 3) := by decide +kernel
theorem dA_number_4 : decode b_A_number 4 = .ok (.aload_n 0, 1) := by decide +kernel
theorem dA_number_5 : decode b_A_number 5 = .ok (.getfield 7, 3) := by decide +kernel
theorem dA_number_8 : decode b_A_number 8 = .ok (.iload_n 1, 1) := by decide +kernel
theorem dA_number_9 : decode b_A_number 9 = .ok (.iaload, 1) := by decide +kernel
theorem dA_number_10 : decode b_A_number 10 = .ok (.ireturn, 1) := by decide +kernel
theorem dA_greatestRoom_0 : decode b_A_greatestRoom 0 = .ok (.aload_n 0, 1) := by decide +kernel
theorem dA_greatestRoom_1 : decode b_A_greatestRoom 1 = .ok (.invokevirtual 35, 3) := by decide +kernel
theorem dA_greatestRoom_4 : decode b_A_greatestRoom 4 = .ok (.aload_n 0, 1) := by decide +kernel
theorem dA_greatestRoom_5 : decode b_A_greatestRoom 5 = .ok (.getfield 38, 3) := by decide +kernel
theorem dA_greatestRoom_8 : decode b_A_greatestRoom 8 = .ok (.ireturn, 1) := by decide +kernel
theorem dA_greatestRadius_0 : decode b_A_greatestRadius 0 = .ok (.aload_n 0, 1) := by decide +kernel
theorem dA_greatestRadius_1 : decode b_A_greatestRadius 1 = .ok (.invokevirtual 35, 3) := by decide +kernel
theorem dA_greatestRadius_4 : decode b_A_greatestRadius 4 = .ok (.aload_n 0, 1) := by decide +kernel
theorem dA_greatestRadius_5 : decode b_A_greatestRadius 5 = .ok (.getfield 38, 3) := by decide +kernel
theorem dA_greatestRadius_8 : decode b_A_greatestRadius 8 = .ok (.sipush 10000, 3) := by decide +kernel
theorem dA_greatestRadius_11 : decode b_A_greatestRadius 11 = .ok (.imul, 1) := by decide +kernel
theorem dA_greatestRadius_12 : decode b_A_greatestRadius 12 = .ok (.invokestatic 41, 3) := by decide +kernel
theorem dA_greatestRadius_15 : decode b_A_greatestRadius 15 = .ok (.aload_n 0, 1) := by decide +kernel
theorem dA_greatestRadius_16 : decode b_A_greatestRadius 16 = .ok (.getfield 33, 3) := by decide +kernel
theorem dA_greatestRadius_19 : decode b_A_greatestRadius 19 = .ok (.idiv, 1) := by decide +kernel
theorem dA_greatestRadius_20 : decode b_A_greatestRadius 20 = .ok (.ireturn, 1) := by decide +kernel
theorem dA_exactRoom_0 : decode b_A_exactRoom 0 = .ok (.aload_n 0, 1) := by decide +kernel
theorem dA_exactRoom_1 : decode b_A_exactRoom 1 = .ok (.getfield 17, 3) := by decide +kernel
theorem dA_exactRoom_4 : decode b_A_exactRoom 4 = .ok (.invokevirtual 45, 3) := by decide +kernel
theorem dA_exactRoom_7 : decode b_A_exactRoom 7 = .ok (.aload_n 0, 1) := by decide +kernel
theorem dA_exactRoom_8 : decode b_A_exactRoom 8 = .ok (.iconst 0, 1) := by decide +kernel
theorem dA_exactRoom_9 : decode b_A_exactRoom 9 = .ok (.iload_n 1, 1) := by decide +kernel
theorem dA_exactRoom_10 : decode b_A_exactRoom 10 = .ok (.iload_n 2, 1) := by decide +kernel
theorem dA_exactRoom_11 : decode b_A_exactRoom 11 = .ok (.iload_n 3, 1) := by decide +kernel
theorem dA_exactRoom_12 : decode b_A_exactRoom 12 = .ok (.iload 4, 2) := by decide +kernel
theorem dA_exactRoom_14 : decode b_A_exactRoom 14 = .ok (.invokevirtual 48, 3) := by decide +kernel
theorem dA_exactRoom_17 : decode b_A_exactRoom 17 = .ok (.ireturn, 1) := by decide +kernel
theorem dA_roomAbove_0 : decode b_A_roomAbove 0 = .ok (.ldc 54, 2) := by decide +kernel
theorem dA_roomAbove_2 : decode b_A_roomAbove 2 = .ok (.istore 6, 2) := by decide +kernel
theorem dA_roomAbove_4 : decode b_A_roomAbove 4 = .ok (.aload_n 0, 1) := by decide +kernel
theorem dA_roomAbove_5 : decode b_A_roomAbove 5 = .ok (.getfield 17, 3) := by decide +kernel
theorem dA_roomAbove_8 : decode b_A_roomAbove 8 = .ok (.invokevirtual 55, 3) := by decide +kernel
theorem dA_roomAbove_11 : decode b_A_roomAbove 11 = .ok (.iconst 1, 1) := by decide +kernel
theorem dA_roomAbove_12 : decode b_A_roomAbove 12 = .ok (.isub, 1) := by decide +kernel
theorem dA_roomAbove_13 : decode b_A_roomAbove 13 = .ok (.istore 7, 2) := by decide +kernel
theorem dA_roomAbove_15 : decode b_A_roomAbove 15 = .ok (.iload 7, 2) := by decide +kernel
theorem dA_roomAbove_17 : decode b_A_roomAbove 17 = .ok (.ifCond .lt 57, 3) := by decide +kernel
theorem dA_roomAbove_20 : decode b_A_roomAbove 20 = .ok (.iload 6, 2) := by decide +kernel
theorem dA_roomAbove_22 : decode b_A_roomAbove 22 = .ok (.iload_n 1, 1) := by decide +kernel
theorem dA_roomAbove_23 : decode b_A_roomAbove 23 = .ok (.if_icmp .le 51, 3) := by decide +kernel
theorem dA_roomAbove_26 : decode b_A_roomAbove 26 = .ok (.aload_n 0, 1) := by decide +kernel
theorem dA_roomAbove_27 : decode b_A_roomAbove 27 = .ok (.iload 7, 2) := by decide +kernel
theorem dA_roomAbove_29 : decode b_A_roomAbove 29 = .ok (.iload_n 2, 1) := by decide +kernel
theorem dA_roomAbove_30 : decode b_A_roomAbove 30 = .ok (.iload 4, 2) := by decide +kernel
theorem dA_roomAbove_32 : decode b_A_roomAbove 32 = .ok (.invokevirtual 58, 3) := by decide +kernel
theorem dA_roomAbove_35 : decode b_A_roomAbove 35 = .ok (.istore 8, 2) := by decide +kernel
theorem dA_roomAbove_37 : decode b_A_roomAbove 37 = .ok (.aload_n 0, 1) := by decide +kernel
theorem dA_roomAbove_38 : decode b_A_roomAbove 38 = .ok (.iload 7, 2) := by decide +kernel
theorem dA_roomAbove_40 : decode b_A_roomAbove 40 = .ok (.iload_n 3, 1) := by decide +kernel
theorem dA_roomAbove_41 : decode b_A_roomAbove 41 = .ok (.iload 5, 2) := by decide +kernel
theorem dA_roomAbove_43 : decode b_A_roomAbove 43 = .ok (.invokevirtual 58, 3) := by decide +kernel
theorem dA_roomAbove_46 : decode b_A_roomAbove 46 = .ok (.istore 9, 2) := by decide +kernel
theorem dA_roomAbove_48 : decode b_A_roomAbove 48 = .ok (.iload 6, 2) := by decide +kernel
theorem dA_roomAbove_50 : decode b_A_roomAbove 50 = .ok (.aload_n 0, 1) := by decide +kernel
theorem dA_roomAbove_51 : decode b_A_roomAbove 51 = .ok (.getfield 17, 3) := by decide +kernel
theorem dA_roomAbove_54 : decode b_A_roomAbove 54 = .ok (.iload 7, 2) := by decide +kernel
theorem dA_roomAbove_56 : decode b_A_roomAbove 56 = .ok (.iload 8, 2) := by decide +kernel
theorem dA_roomAbove_58 : decode b_A_roomAbove 58 = .ok (.iload 9, 2) := by decide +kernel
theorem dA_roomAbove_60 : decode b_A_roomAbove 60 = .ok (.invokevirtual 62, 3) := by decide +kernel
theorem dA_roomAbove_63 : decode b_A_roomAbove 63 = .ok (.invokestatic 65, 3) := by decide +kernel
theorem dA_roomAbove_66 : decode b_A_roomAbove 66 = .ok (.istore 6, 2) := by decide +kernel
theorem dA_roomAbove_68 : decode b_A_roomAbove 68 = .ok (.iinc 7 (-1), 3) := by decide +kernel
theorem dA_roomAbove_71 : decode b_A_roomAbove 71 = .ok (.goto (-56), 3) := by decide +kernel
theorem dA_roomAbove_74 : decode b_A_roomAbove 74 = .ok (.iload 6, 2) := by decide +kernel
theorem dA_roomAbove_76 : decode b_A_roomAbove 76 = .ok (.ireturn, 1) := by decide +kernel
theorem dA_placeAt_0 : decode b_A_placeAt 0 = .ok (.iload_n 2, 1) := by decide +kernel
theorem dA_placeAt_1 : decode b_A_placeAt 1 = .ok (.aload_n 0, 1) := by decide +kernel
theorem dA_placeAt_2 : decode b_A_placeAt 2 = .ok (.getfield 33, 3) := by decide +kernel
theorem dA_placeAt_5 : decode b_A_placeAt 5 = .ok (.imul, 1) := by decide +kernel
theorem dA_placeAt_6 : decode b_A_placeAt 6 = .ok (.iload_n 3, 1) := by decide +kernel
theorem dA_placeAt_7 : decode b_A_placeAt 7 = .ok (.iload_n 2, 1) := by decide +kernel
theorem dA_placeAt_8 : decode b_A_placeAt 8 = .ok (.isub, 1) := by decide +kernel
theorem dA_placeAt_9 : decode b_A_placeAt 9 = .ok (.iload_n 1, 1) := by decide +kernel
theorem dA_placeAt_10 : decode b_A_placeAt 10 = .ok (.imul, 1) := by decide +kernel
theorem dA_placeAt_11 : decode b_A_placeAt 11 = .ok (.iadd, 1) := by decide +kernel
theorem dA_placeAt_12 : decode b_A_placeAt 12 = .ok (.ireturn, 1) := by decide +kernel
theorem dA_seekIfStale_0 : decode b_A_seekIfStale 0 = .ok (.aload_n 0, 1) := by decide +kernel
theorem dA_seekIfStale_1 : decode b_A_seekIfStale 1 = .ok (.getfield 13, 3) := by decide +kernel
theorem dA_seekIfStale_4 : decode b_A_seekIfStale 4 = .ok (.ifCond .eq 19, 3) := by decide +kernel
theorem dA_seekIfStale_7 : decode b_A_seekIfStale 7 = .ok (.aload_n 0, 1) := by decide +kernel
theorem dA_seekIfStale_8 : decode b_A_seekIfStale 8 = .ok (.getfield 17, 3) := by decide +kernel
theorem dA_seekIfStale_11 : decode b_A_seekIfStale 11 = .ok (.invokevirtual 45, 3) := by decide +kernel
theorem dA_seekIfStale_14 : decode b_A_seekIfStale 14 = .ok (.aload_n 0, 1) := by decide +kernel
theorem dA_seekIfStale_15 : decode b_A_seekIfStale 15 = .ok (.invokevirtual 71, 3) := by decide +kernel
theorem dA_seekIfStale_18 : decode b_A_seekIfStale 18 = .ok (.aload_n 0, 1) := by decide +kernel
theorem dA_seekIfStale_19 : decode b_A_seekIfStale 19 = .ok (.iconst 0, 1) := by decide +kernel
theorem dA_seekIfStale_20 : decode b_A_seekIfStale 20 = .ok (.putfield 13, 3) := by decide +kernel
theorem dA_seekIfStale_23 : decode b_A_seekIfStale 23 = .ok (.return_, 1) := by decide +kernel
theorem dA_seek_0 : decode b_A_seek 0 = .ok (.aload_n 0, 1) := by decide +kernel
theorem dA_seek_1 : decode b_A_seek 1 = .ok (.iconst 0, 1) := by decide +kernel
theorem dA_seek_2 : decode b_A_seek 2 = .ok (.iconst 0, 1) := by decide +kernel
theorem dA_seek_3 : decode b_A_seek 3 = .ok (.iconst 0, 1) := by decide +kernel
theorem dA_seek_4 : decode b_A_seek 4 = .ok (.iconst 0, 1) := by decide +kernel
theorem dA_seek_5 : decode b_A_seek 5 = .ok (.iconst 0, 1) := by decide +kernel
theorem dA_seek_6 : decode b_A_seek 6 = .ok (.invokevirtual 74, 3) := by decide +kernel
theorem dA_seek_9 : decode b_A_seek 9 = .ok (.iconst 0, 1) := by decide +kernel
theorem dA_seek_10 : decode b_A_seek 10 = .ok (.istore_n 1, 1) := by decide +kernel
theorem dA_seek_11 : decode b_A_seek 11 = .ok (.iload_n 1, 1) := by decide +kernel
theorem dA_seek_12 : decode b_A_seek 12 = .ok (.aload_n 0, 1) := by decide +kernel
theorem dA_seek_13 : decode b_A_seek 13 = .ok (.getfield 27, 3) := by decide +kernel
theorem dA_seek_16 : decode b_A_seek 16 = .ok (.if_icmp .gt 58, 3) := by decide +kernel
theorem dA_seek_19 : decode b_A_seek 19 = .ok (.iconst 0, 1) := by decide +kernel
theorem dA_seek_20 : decode b_A_seek 20 = .ok (.istore_n 2, 1) := by decide +kernel
theorem dA_seek_21 : decode b_A_seek 21 = .ok (.iload_n 2, 1) := by decide +kernel
theorem dA_seek_22 : decode b_A_seek 22 = .ok (.aload_n 0, 1) := by decide +kernel
theorem dA_seek_23 : decode b_A_seek 23 = .ok (.getfield 27, 3) := by decide +kernel
theorem dA_seek_26 : decode b_A_seek 26 = .ok (.if_icmp .gt 42, 3) := by decide +kernel
theorem dA_seek_29 : decode b_A_seek 29 = .ok (.aload_n 0, 1) := by decide +kernel
theorem dA_seek_30 : decode b_A_seek 30 = .ok (.getfield 17, 3) := by decide +kernel
theorem dA_seek_33 : decode b_A_seek 33 = .ok (.iconst 0, 1) := by decide +kernel
theorem dA_seek_34 : decode b_A_seek 34 = .ok (.iload_n 1, 1) := by decide +kernel
theorem dA_seek_35 : decode b_A_seek 35 = .ok (.aload_n 0, 1) := by decide +kernel
theorem dA_seek_36 : decode b_A_seek 36 = .ok (.getfield 33, 3) := by decide +kernel
theorem dA_seek_39 : decode b_A_seek 39 = .ok (.imul, 1) := by decide +kernel
theorem dA_seek_40 : decode b_A_seek 40 = .ok (.iload_n 2, 1) := by decide +kernel
theorem dA_seek_41 : decode b_A_seek 41 = .ok (.aload_n 0, 1) := by decide +kernel
theorem dA_seek_42 : decode b_A_seek 42 = .ok (.getfield 33, 3) := by decide +kernel
theorem dA_seek_45 : decode b_A_seek 45 = .ok (.imul, 1) := by decide +kernel
theorem dA_seek_46 : decode b_A_seek 46 = .ok (.invokevirtual 62, 3) := by decide +kernel
theorem dA_seek_49 : decode b_A_seek 49 = .ok (.aload_n 0, 1) := by decide +kernel
theorem dA_seek_50 : decode b_A_seek 50 = .ok (.getfield 38, 3) := by decide +kernel
theorem dA_seek_53 : decode b_A_seek 53 = .ok (.if_icmp .le 9, 3) := by decide +kernel
theorem dA_seek_56 : decode b_A_seek 56 = .ok (.aload_n 0, 1) := by decide +kernel
theorem dA_seek_57 : decode b_A_seek 57 = .ok (.iload_n 1, 1) := by decide +kernel
theorem dA_seek_58 : decode b_A_seek 58 = .ok (.iload_n 2, 1) := by decide +kernel
theorem dA_seek_59 : decode b_A_seek 59 = .ok (.invokevirtual 78, 3) := by decide +kernel
theorem dA_seek_62 : decode b_A_seek 62 = .ok (.iinc 2 1, 3) := by decide +kernel
theorem dA_seek_65 : decode b_A_seek 65 = .ok (.goto (-44), 3) := by decide +kernel
theorem dA_seek_68 : decode b_A_seek 68 = .ok (.iinc 1 1, 3) := by decide +kernel
theorem dA_seek_71 : decode b_A_seek 71 = .ok (.goto (-60), 3) := by decide +kernel
theorem dA_seek_74 : decode b_A_seek 74 = .ok (.return_, 1) := by decide +kernel
theorem dA_seekFrom_0 : decode b_A_seekFrom 0 = .ok (.iconst 0, 1) := by decide +kernel
theorem dA_seekFrom_1 : decode b_A_seekFrom 1 = .ok (.istore_n 3, 1) := by decide +kernel
theorem dA_seekFrom_2 : decode b_A_seekFrom 2 = .ok (.iload_n 3, 1) := by decide +kernel
theorem dA_seekFrom_3 : decode b_A_seekFrom 3 = .ok (.aload_n 0, 1) := by decide +kernel
theorem dA_seekFrom_4 : decode b_A_seekFrom 4 = .ok (.getfield 27, 3) := by decide +kernel
theorem dA_seekFrom_7 : decode b_A_seekFrom 7 = .ok (.if_icmp .gt 62, 3) := by decide +kernel
theorem dA_seekFrom_10 : decode b_A_seekFrom 10 = .ok (.iconst 0, 1) := by decide +kernel
theorem dA_seekFrom_11 : decode b_A_seekFrom 11 = .ok (.istore 4, 2) := by decide +kernel
theorem dA_seekFrom_13 : decode b_A_seekFrom 13 = .ok (.iload 4, 2) := by decide +kernel
theorem dA_seekFrom_15 : decode b_A_seekFrom 15 = .ok (.aload_n 0, 1) := by decide +kernel
theorem dA_seekFrom_16 : decode b_A_seekFrom 16 = .ok (.getfield 27, 3) := by decide +kernel
theorem dA_seekFrom_19 : decode b_A_seekFrom 19 = .ok (.if_icmp .gt 44, 3) := by decide +kernel
theorem dA_seekFrom_22 : decode b_A_seekFrom 22 = .ok (.aload_n 0, 1) := by decide +kernel
theorem dA_seekFrom_23 : decode b_A_seekFrom 23 = .ok (.aload_n 0, 1) := by decide +kernel
theorem dA_seekFrom_24 : decode b_A_seekFrom 24 = .ok (.getfield 38, 3) := by decide +kernel
theorem dA_seekFrom_27 : decode b_A_seekFrom 27 = .ok (.iload_n 1, 1) := by decide +kernel
theorem dA_seekFrom_28 : decode b_A_seekFrom 28 = .ok (.iload_n 2, 1) := by decide +kernel
theorem dA_seekFrom_29 : decode b_A_seekFrom 29 = .ok (.iload_n 3, 1) := by decide +kernel
theorem dA_seekFrom_30 : decode b_A_seekFrom 30 = .ok (.iload 4, 2) := by decide +kernel
theorem dA_seekFrom_32 : decode b_A_seekFrom 32 = .ok (.invokevirtual 48, 3) := by decide +kernel
theorem dA_seekFrom_35 : decode b_A_seekFrom 35 = .ok (.istore 5, 2) := by decide +kernel
theorem dA_seekFrom_37 : decode b_A_seekFrom 37 = .ok (.iload 5, 2) := by decide +kernel
theorem dA_seekFrom_39 : decode b_A_seekFrom 39 = .ok (.aload_n 0, 1) := by decide +kernel
theorem dA_seekFrom_40 : decode b_A_seekFrom 40 = .ok (.getfield 38, 3) := by decide +kernel
theorem dA_seekFrom_43 : decode b_A_seekFrom 43 = .ok (.if_icmp .le 14, 3) := by decide +kernel
theorem dA_seekFrom_46 : decode b_A_seekFrom 46 = .ok (.aload_n 0, 1) := by decide +kernel
theorem dA_seekFrom_47 : decode b_A_seekFrom 47 = .ok (.iload 5, 2) := by decide +kernel
theorem dA_seekFrom_49 : decode b_A_seekFrom 49 = .ok (.iload_n 1, 1) := by decide +kernel
theorem dA_seekFrom_50 : decode b_A_seekFrom 50 = .ok (.iload_n 2, 1) := by decide +kernel
theorem dA_seekFrom_51 : decode b_A_seekFrom 51 = .ok (.iload_n 3, 1) := by decide +kernel
theorem dA_seekFrom_52 : decode b_A_seekFrom 52 = .ok (.iload 4, 2) := by decide +kernel
theorem dA_seekFrom_54 : decode b_A_seekFrom 54 = .ok (.invokevirtual 74, 3) := by decide +kernel
theorem dA_seekFrom_57 : decode b_A_seekFrom 57 = .ok (.iinc 4 1, 3) := by decide +kernel
theorem dA_seekFrom_60 : decode b_A_seekFrom 60 = .ok (.goto (-47), 3) := by decide +kernel
theorem dA_seekFrom_63 : decode b_A_seekFrom 63 = .ok (.iinc 3 1, 3) := by decide +kernel
theorem dA_seekFrom_66 : decode b_A_seekFrom 66 = .ok (.goto (-64), 3) := by decide +kernel
theorem dA_seekFrom_69 : decode b_A_seekFrom 69 = .ok (.return_, 1) := by decide +kernel
theorem dA_keep_0 : decode b_A_keep 0 = .ok (.aload_n 0, 1) := by decide +kernel
theorem dA_keep_1 : decode b_A_keep 1 = .ok (.iload_n 1, 1) := by decide +kernel
theorem dA_keep_2 : decode b_A_keep 2 = .ok (.putfield 38, 3) := by decide +kernel
theorem dA_keep_5 : decode b_A_keep 5 = .ok (.aload_n 0, 1) := by decide +kernel
theorem dA_keep_6 : decode b_A_keep 6 = .ok (.getfield 7, 3) := by decide +kernel
theorem dA_keep_9 : decode b_A_keep 9 = .ok (.iconst 0, 1) := by decide +kernel
theorem dA_keep_10 : decode b_A_keep 10 = .ok (.iload_n 2, 1) := by decide +kernel
theorem dA_keep_11 : decode b_A_keep 11 = .ok (.iastore, 1) := by decide +kernel
theorem dA_keep_12 : decode b_A_keep 12 = .ok (.aload_n 0, 1) := by decide +kernel
theorem dA_keep_13 : decode b_A_keep 13 = .ok (.getfield 7, 3) := by decide +kernel
theorem dA_keep_16 : decode b_A_keep 16 = .ok (.iconst 1, 1) := by decide +kernel
theorem dA_keep_17 : decode b_A_keep 17 = .ok (.iload_n 3, 1) := by decide +kernel
theorem dA_keep_18 : decode b_A_keep 18 = .ok (.iastore, 1) := by decide +kernel
theorem dA_keep_19 : decode b_A_keep 19 = .ok (.aload_n 0, 1) := by decide +kernel
theorem dA_keep_20 : decode b_A_keep 20 = .ok (.getfield 7, 3) := by decide +kernel
theorem dA_keep_23 : decode b_A_keep 23 = .ok (.iconst 2, 1) := by decide +kernel
theorem dA_keep_24 : decode b_A_keep 24 = .ok (.iload 4, 2) := by decide +kernel
theorem dA_keep_26 : decode b_A_keep 26 = .ok (.iastore, 1) := by decide +kernel
theorem dA_keep_27 : decode b_A_keep 27 = .ok (.aload_n 0, 1) := by decide +kernel
theorem dA_keep_28 : decode b_A_keep 28 = .ok (.getfield 7, 3) := by decide +kernel
theorem dA_keep_31 : decode b_A_keep 31 = .ok (.iconst 3, 1) := by decide +kernel
theorem dA_keep_32 : decode b_A_keep 32 = .ok (.iload 5, 2) := by decide +kernel
theorem dA_keep_34 : decode b_A_keep 34 = .ok (.iastore, 1) := by decide +kernel
theorem dA_keep_35 : decode b_A_keep 35 = .ok (.return_, 1) := by decide +kernel
theorem dA_rootOf_0 : decode b_A_rootOf 0 = .ok (.iconst 0, 1) := by decide +kernel
theorem dA_rootOf_1 : decode b_A_rootOf 1 = .ok (.istore_n 1, 1) := by decide +kernel
theorem dA_rootOf_2 : decode b_A_rootOf 2 = .ok (.sipush 1024, 3) := by decide +kernel
theorem dA_rootOf_5 : decode b_A_rootOf 5 = .ok (.istore_n 2, 1) := by decide +kernel
theorem dA_rootOf_6 : decode b_A_rootOf 6 = .ok (.iload_n 2, 1) := by decide +kernel
theorem dA_rootOf_7 : decode b_A_rootOf 7 = .ok (.ifCond .le 23, 3) := by decide +kernel
theorem dA_rootOf_10 : decode b_A_rootOf 10 = .ok (.iload_n 1, 1) := by decide +kernel
theorem dA_rootOf_11 : decode b_A_rootOf 11 = .ok (.iload_n 2, 1) := by decide +kernel
theorem dA_rootOf_12 : decode b_A_rootOf 12 = .ok (.iadd, 1) := by decide +kernel
theorem dA_rootOf_13 : decode b_A_rootOf 13 = .ok (.istore_n 3, 1) := by decide +kernel
theorem dA_rootOf_14 : decode b_A_rootOf 14 = .ok (.iload_n 3, 1) := by decide +kernel
theorem dA_rootOf_15 : decode b_A_rootOf 15 = .ok (.iload_n 3, 1) := by decide +kernel
theorem dA_rootOf_16 : decode b_A_rootOf 16 = .ok (.imul, 1) := by decide +kernel
theorem dA_rootOf_17 : decode b_A_rootOf 17 = .ok (.iload_n 0, 1) := by decide +kernel
theorem dA_rootOf_18 : decode b_A_rootOf 18 = .ok (.if_icmp .gt 5, 3) := by decide +kernel
theorem dA_rootOf_21 : decode b_A_rootOf 21 = .ok (.iload_n 3, 1) := by decide +kernel
theorem dA_rootOf_22 : decode b_A_rootOf 22 = .ok (.istore_n 1, 1) := by decide +kernel
theorem dA_rootOf_23 : decode b_A_rootOf 23 = .ok (.iload_n 2, 1) := by decide +kernel
theorem dA_rootOf_24 : decode b_A_rootOf 24 = .ok (.iconst 1, 1) := by decide +kernel
theorem dA_rootOf_25 : decode b_A_rootOf 25 = .ok (.ishr, 1) := by decide +kernel
theorem dA_rootOf_26 : decode b_A_rootOf 26 = .ok (.istore_n 2, 1) := by decide +kernel
theorem dA_rootOf_27 : decode b_A_rootOf 27 = .ok (.goto (-21), 3) := by decide +kernel
theorem dA_rootOf_30 : decode b_A_rootOf 30 = .ok (.iload_n 1, 1) := by decide +kernel
theorem dA_rootOf_31 : decode b_A_rootOf 31 = .ok (.ireturn, 1) := by decide +kernel
