theorem dS_init_0 : decode b_S_init 0 = .ok (.aload_n 0, 1) := by decide +kernel
theorem dS_init_1 : decode b_S_init 1 = .ok (.invokespecial 1, 3) := by decide +kernel
theorem dS_init_4 : decode b_S_init 4 = .ok (.aload_n 0, 1) := by decide +kernel
theorem dS_init_5 : decode b_S_init 5 = .ok (.iload_n 1, 1) := by decide +kernel
theorem dS_init_6 : decode b_S_init 6 = .ok (.putfield 7, 3) := by decide +kernel
theorem dS_init_9 : decode b_S_init 9 = .ok (.aload_n 0, 1) := by decide +kernel
theorem dS_init_10 : decode b_S_init 10 = .ok (.iload_n 2, 1) := by decide +kernel
theorem dS_init_11 : decode b_S_init 11 = .ok (.putfield 13, 3) := by decide +kernel
theorem dS_init_14 : decode b_S_init 14 = .ok (.aload_n 0, 1) := by decide +kernel
theorem dS_init_15 : decode b_S_init 15 = .ok (.iconst 1, 1) := by decide +kernel
theorem dS_init_16 : decode b_S_init 16 = .ok (.iload_n 1, 1) := by decide +kernel
theorem dS_init_17 : decode b_S_init 17 = .ok (.iconst 1, 1) := by decide +kernel
theorem dS_init_18 : decode b_S_init 18 = .ok (.isub, 1) := by decide +kernel
theorem dS_init_19 : decode b_S_init 19 = .ok (.invokestatic 16, 3) := by decide +kernel
theorem dS_init_22 : decode b_S_init 22 = .ok (.putfield 22, 3) := by decide +kernel
theorem dS_init_25 : decode b_S_init 25 = .ok (.aload_n 0, 1) := by decide +kernel
theorem dS_init_26 : decode b_S_init 26 = .ok (.iload_n 2, 1) := by decide +kernel
theorem dS_init_27 : decode b_S_init 27 = .ok (.aload_n 0, 1) := by decide +kernel
theorem dS_init_28 : decode b_S_init 28 = .ok (.getfield 22, 3) := by decide +kernel
theorem dS_init_31 : decode b_S_init 31 = .ok (.imul, 1) := by decide +kernel
theorem dS_init_32 : decode b_S_init 32 = .ok (.iconst 1, 1) := by decide +kernel
theorem dS_init_33 : decode b_S_init 33 = .ok (.iadd, 1) := by decide +kernel
theorem dS_init_34 : decode b_S_init 34 = .ok (.putfield 25, 3) := by decide +kernel
theorem dS_init_37 : decode b_S_init 37 = .ok (.aload_n 0, 1) := by decide +kernel
theorem dS_init_38 : decode b_S_init 38 = .ok (.iload_n 2, 1) := by decide +kernel
theorem dS_init_39 : decode b_S_init 39 = .ok (.iconst 2, 1) := by decide +kernel
theorem dS_init_40 : decode b_S_init 40 = .ok (.iadd, 1) := by decide +kernel
theorem dS_init_41 : decode b_S_init 41 = .ok (.putfield 28, 3) := by decide +kernel
theorem dS_init_44 : decode b_S_init 44 = .ok (.aload_n 0, 1) := by decide +kernel
theorem dS_init_45 : decode b_S_init 45 = .ok (.iload_n 1, 1) := by decide +kernel
theorem dS_init_46 : decode b_S_init 46 = .ok (.aload_n 0, 1) := by decide +kernel
theorem dS_init_47 : decode b_S_init 47 = .ok (.getfield 28, 3) := by decide +kernel
theorem dS_init_50 : decode b_S_init 50 = .ok (.imul, 1) := by decide +kernel
theorem dS_init_51 : decode b_S_init 51 = .ok (.aload_n 0, 1) := by decide +kernel
theorem dS_init_52 : decode b_S_init 52 = .ok (.getfield 28, 3) := by decide +kernel
theorem dS_init_55 : decode b_S_init 55 = .ok (.imul, 1) := by decide +kernel
theorem dS_init_56 : decode b_S_init 56 = .ok (.newarray .boolean, 2) := by decide +kernel
theorem dS_init_58 : decode b_S_init 58 = .ok (.putfield 31, 3) := by decide +kernel
theorem dS_init_61 : decode b_S_init 61 = .ok (.aload_n 0, 1) := by decide +kernel
theorem dS_init_62 : decode b_S_init 62 = .ok (.iload_n 1, 1) := by decide +kernel
theorem dS_init_63 : decode b_S_init 63 = .ok (.aload_n 0, 1) := by decide +kernel
theorem dS_init_64 : decode b_S_init 64 = .ok (.getfield 25, 3) := by decide +kernel
theorem dS_init_67 : decode b_S_init 67 = .ok (.imul, 1) := by decide +kernel
theorem dS_init_68 : decode b_S_init 68 = .ok (.aload_n 0, 1) := by decide +kernel
theorem dS_init_69 : decode b_S_init 69 = .ok (.getfield 25, 3) := by decide +kernel
theorem dS_init_72 : decode b_S_init 72 = .ok (.imul, 1) := by decide +kernel
theorem dS_init_73 : decode b_S_init 73 = .ok (.newarray .int, 2) := by decide +kernel
theorem dS_init_75 : decode b_S_init 75 = .ok (.putfield 35, 3) := by decide +kernel
theorem dS_init_78 : decode b_S_init 78 = .ok (.aload_n 0, 1) := by decide +kernel
theorem dS_init_79 : decode b_S_init 79 = .ok (.iload_n 1, 1) := by decide +kernel
theorem dS_init_80 : decode b_S_init 80 = .ok (.newarray .boolean, 2) := by decide +kernel
theorem dS_init_82 : decode b_S_init 82 = .ok (.putfield 39, 3) := by decide +kernel
theorem dS_init_85 : decode b_S_init 85 = .ok (.iconst 0, 1) := by decide +kernel
theorem dS_init_86 : decode b_S_init 86 = .ok (.istore_n 3, 1) := by decide +kernel
theorem dS_init_87 : decode b_S_init 87 = .ok (.iload_n 3, 1) := by decide +kernel
theorem dS_init_88 : decode b_S_init 88 = .ok (.iload_n 1, 1) := by decide +kernel
theorem dS_init_89 : decode b_S_init 89 = .ok (.if_icmp .ge 16, 3) := by decide +kernel
theorem dS_init_92 : decode b_S_init 92 = .ok (.aload_n 0, 1) := by decide +kernel
theorem dS_init_93 : decode b_S_init 93 = .ok (.getfield 39, 3) := by decide +kernel
theorem dS_init_96 : decode b_S_init 96 = .ok (.iload_n 3, 1) := by decide +kernel
theorem dS_init_97 : decode b_S_init 97 = .ok (.iconst 1, 1) := by decide +kernel
theorem dS_init_98 : decode b_S_init 98 = .ok (.bastore, 1) := by decide +kernel
theorem dS_init_99 : decode b_S_init 99 = .ok (.iinc 3 1, 3) := by decide +kernel
theorem dS_init_102 : decode b_S_init 102 = .ok (.goto (-15), 3) := by decide +kernel
theorem dS_init_105 : decode b_S_init 105 = .ok (.aload_n 0, 1) := by decide +kernel
theorem dS_init_106 : decode b_S_init 106 = .ok (.aload_n 0, 1) := by decide +kernel
theorem dS_init_107 : decode b_S_init 107 = .ok (.getfield 28, 3) := by decide +kernel
theorem dS_init_110 : decode b_S_init 110 = .ok (.newarray .int, 2) := by decide +kernel
theorem dS_init_112 : decode b_S_init 112 = .ok (.putfield 42, 3) := by decide +kernel
theorem dS_init_115 : decode b_S_init 115 = .ok (.return_, 1) := by decide +kernel
theorem dS_count_0 : decode b_S_count 0 = .ok (.aload_n 0, 1) := by decide +kernel
theorem dS_count_1 : decode b_S_count 1 = .ok (.getfield 7, 3) := by decide +kernel
theorem dS_count_4 : decode b_S_count 4 = .ok (.ireturn, 1) := by decide +kernel
theorem dS_side_0 : decode b_S_side 0 = .ok (.aload_n 0, 1) := by decide +kernel
theorem dS_side_1 : decode b_S_side 1 = .ok (.getfield 13, 3) := by decide +kernel
theorem dS_side_4 : decode b_S_side 4 = .ok (.ireturn, 1) := by decide +kernel
theorem dS_parts_0 : decode b_S_parts 0 = .ok (.aload_n 0, 1) := by decide +kernel
theorem dS_parts_1 : decode b_S_parts 1 = .ok (.getfield 22, 3) := by decide +kernel
theorem dS_parts_4 : decode b_S_parts 4 = .ok (.ireturn, 1) := by decide +kernel
theorem dS_hasCell_0 : decode b_S_hasCell 0 = .ok (.iload_n 1, 1) := by decide +kernel
theorem dS_hasCell_1 : decode b_S_hasCell 1 = .ok (.iconst 0, 1) := by decide +kernel
theorem dS_hasCell_2 : decode b_S_hasCell 2 = .ok (.aload_n 0, 1) := by decide +kernel
theorem dS_hasCell_3 : decode b_S_hasCell 3 = .ok (.getfield 7, 3) := by decide +kernel
theorem dS_hasCell_6 : decode b_S_hasCell 6 = .ok (.iconst 1, 1) := by decide +kernel
theorem dS_hasCell_7 : decode b_S_hasCell 7 = .ok (.isub, 1) := by decide +kernel
theorem dS_hasCell_8 : decode b_S_hasCell 8 = .ok (.invokestatic 45, 3) := by decide +kernel
theorem dS_hasCell_11 : decode b_S_hasCell 11 = .ok (.ifCond .eq 35, 3) := by decide +kernel
theorem dS_hasCell_14 : decode b_S_hasCell 14 = .ok (.iload_n 2, 1) := by decide +kernel
theorem dS_hasCell_15 : decode b_S_hasCell 15 = .ok (.iconst 0, 1) := by decide +kernel
theorem dS_hasCell_16 : decode b_S_hasCell 16 = .ok (.aload_n 0, 1) := by decide +kernel
theorem dS_hasCell_17 : decode b_S_hasCell 17 = .ok (.getfield 13, 3) := by decide +kernel
theorem dS_hasCell_20 : decode b_S_hasCell 20 = .ok (.iconst 1, 1) := by decide +kernel
theorem dS_hasCell_21 : decode b_S_hasCell 21 = .ok (.isub, 1) := by decide +kernel
theorem dS_hasCell_22 : decode b_S_hasCell 22 = .ok (.invokestatic 45, 3) := by decide +kernel
theorem dS_hasCell_25 : decode b_S_hasCell 25 = .ok (.ifCond .eq 21, 3) := by decide +kernel
theorem dS_hasCell_28 : decode b_S_hasCell 28 = .ok (.iload_n 3, 1) := by decide +kernel
theorem dS_hasCell_29 : decode b_S_hasCell 29 = .ok (.iconst 0, 1) := by decide +kernel
theorem dS_hasCell_30 : decode b_S_hasCell 30 = .ok (.aload_n 0, 1) := by decide +kernel
theorem dS_hasCell_31 : decode b_S_hasCell 31 = .ok (.getfield 13, 3) := by decide +kernel
theorem dS_hasCell_34 : decode b_S_hasCell 34 = .ok (.iconst 1, 1) := by decide +kernel
theorem dS_hasCell_35 : decode b_S_hasCell 35 = .ok (.isub, 1) := by decide +kernel
theorem dS_hasCell_36 : decode b_S_hasCell 36 = .ok (.invokestatic 45, 3) := by decide +kernel
theorem dS_hasCell_39 : decode b_S_hasCell 39 = .ok (.ifCond .eq 7, 3) := by decide +kernel
theorem dS_hasCell_42 : decode b_S_hasCell 42 = .ok (.iconst 1, 1) := by decide +kernel
theorem dS_hasCell_43 : decode b_S_hasCell 43 = .ok (.goto 4, 3) := by decide +kernel
theorem dS_hasCell_46 : decode b_S_hasCell 46 = .ok (.iconst 0, 1) := by decide +kernel
theorem dS_hasCell_47 : decode b_S_hasCell 47 = .ok (.ireturn, 1) := by decide +kernel
theorem dS_hasCorner_0 : decode b_S_hasCorner 0 = .ok (.iload_n 1, 1) := by decide +kernel
theorem dS_hasCorner_1 : decode b_S_hasCorner 1 = .ok (.iconst 0, 1) := by decide +kernel
theorem dS_hasCorner_2 : decode b_S_hasCorner 2 = .ok (.aload_n 0, 1) := by decide +kernel
theorem dS_hasCorner_3 : decode b_S_hasCorner 3 = .ok (.getfield 13, 3) := by decide +kernel
theorem dS_hasCorner_6 : decode b_S_hasCorner 6 = .ok (.invokestatic 45, 3) := by decide +kernel
theorem dS_hasCorner_9 : decode b_S_hasCorner 9 = .ok (.ifCond .eq 19, 3) := by decide +kernel
theorem dS_hasCorner_12 : decode b_S_hasCorner 12 = .ok (.iload_n 2, 1) := by decide +kernel
theorem dS_hasCorner_13 : decode b_S_hasCorner 13 = .ok (.iconst 0, 1) := by decide +kernel
theorem dS_hasCorner_14 : decode b_S_hasCorner 14 = .ok (.aload_n 0, 1) := by decide +kernel
theorem dS_hasCorner_15 : decode b_S_hasCorner 15 = .ok (.getfield 13, 3) := by decide +kernel
theorem dS_hasCorner_18 : decode b_S_hasCorner 18 = .ok (.invokestatic 45, 3) := by decide +kernel
theorem dS_hasCorner_21 : decode b_S_hasCorner 21 = .ok (.ifCond .eq 7, 3) := by decide +kernel
theorem dS_hasCorner_24 : decode b_S_hasCorner 24 = .ok (.iconst 1, 1) := by decide +kernel
theorem dS_hasCorner_25 : decode b_S_hasCorner 25 = .ok (.goto 4, 3) := by decide +kernel
theorem dS_hasCorner_28 : decode b_S_hasCorner 28 = .ok (.iconst 0, 1) := by decide +kernel
theorem dS_hasCorner_29 : decode b_S_hasCorner 29 = .ok (.ireturn, 1) := by decide +kernel
theorem dS_tell_0 : decode b_S_tell 0 = .ok (.aload_n 0, 1) := by decide +kernel
theorem dS_tell_1 : decode b_S_tell 1 = .ok (.iload_n 1, 1) := by decide +kernel
theorem dS_tell_2 : decode b_S_tell 2 = .ok (.iload_n 2, 1) := by decide +kernel
theorem dS_tell_3 : decode b_S_tell 3 = .ok (.iload_n 3, 1) := by decide +kernel
theorem dS_tell_4 : decode b_S_tell 4 = .ok (.invokevirtual 51, 3) := by decide +kernel
theorem dS_tell_7 : decode b_S_tell 7 = .ok (.istore 5, 2) := by decide +kernel
theorem dS_tell_9 : decode b_S_tell 9 = .ok (.aload_n 0, 1) := by decide +kernel
theorem dS_tell_10 : decode b_S_tell 10 = .ok (.getfield 31, 3) := by decide +kernel
theorem dS_tell_13 : decode b_S_tell 13 = .ok (.iload 5, 2) := by decide +kernel
theorem dS_tell_15 : decode b_S_tell 15 = .ok (.baload, 1) := by decide +kernel
theorem dS_tell_16 : decode b_S_tell 16 = .ok (.iload 4, 2) := by decide +kernel
theorem dS_tell_18 : decode b_S_tell 18 = .ok (.if_icmp .eq 7, 3) := by decide +kernel
theorem dS_tell_21 : decode b_S_tell 21 = .ok (.iconst 1, 1) := by decide +kernel
theorem dS_tell_22 : decode b_S_tell 22 = .ok (.goto 4, 3) := by decide +kernel
theorem dS_tell_25 : decode b_S_tell 25 = .ok (.iconst 0, 1) := by decide +kernel
theorem dS_tell_26 : decode b_S_tell 26 = .ok (.istore 6, 2) := by decide +kernel
theorem dS_tell_28 : decode b_S_tell 28 = .ok (.iload 6, 2) := by decide +kernel
theorem dS_tell_30 : decode b_S_tell 30 = .ok (.ifCond .eq 19, 3) := by decide +kernel
theorem dS_tell_33 : decode b_S_tell 33 = .ok (.aload_n 0, 1) := by decide +kernel
theorem dS_tell_34 : decode b_S_tell 34 = .ok (.getfield 31, 3) := by decide +kernel
theorem dS_tell_37 : decode b_S_tell 37 = .ok (.iload 5, 2) := by decide +kernel
theorem dS_tell_39 : decode b_S_tell 39 = .ok (.iload 4, 2) := by decide +kernel
theorem dS_tell_41 : decode b_S_tell 41 = .ok (.bastore, 1) := by decide +kernel
theorem dS_tell_42 : decode b_S_tell 42 = .ok (.aload_n 0, 1) := by decide +kernel
theorem dS_tell_43 : decode b_S_tell 43 = .ok (.getfield 39, 3) := by decide +kernel
theorem dS_tell_46 : decode b_S_tell 46 = .ok (.iload_n 1, 1) := by decide +kernel
theorem dS_tell_47 : decode b_S_tell 47 = .ok (.iconst 1, 1) := by decide +kernel
theorem dS_tell_48 : decode b_S_tell 48 = .ok (.bastore, 1) := by decide +kernel
theorem dS_tell_49 : decode b_S_tell 49 = .ok (.iload 6, 2) := by decide +kernel
theorem dS_tell_51 : decode b_S_tell 51 = .ok (.ireturn, 1) := by decide +kernel
theorem dS_nearestAt_0 : decode b_S_nearestAt 0 = .ok (.aload_n 0, 1) := by decide +kernel
theorem dS_nearestAt_1 : decode b_S_nearestAt 1 = .ok (.getfield 35, 3) := by decide +kernel
theorem dS_nearestAt_4 : decode b_S_nearestAt 4 = .ok (.iload_n 1, 1) := by decide +kernel
theorem dS_nearestAt_5 : decode b_S_nearestAt 5 = .ok (.aload_n 0, 1) := by decide +kernel
theorem dS_nearestAt_6 : decode b_S_nearestAt 6 = .ok (.getfield 25, 3) := by decide +kernel
theorem dS_nearestAt_9 : decode b_S_nearestAt 9 = .ok (.imul, 1) := by decide +kernel
theorem dS_nearestAt_10 : decode b_S_nearestAt 10 = .ok (.iload_n 3, 1) := by decide +kernel
theorem dS_nearestAt_11 : decode b_S_nearestAt 11 = .ok (.iadd, 1) := by decide +kernel
theorem dS_nearestAt_12 : decode b_S_nearestAt 12 = .ok (.aload_n 0, 1) := by decide +kernel
theorem dS_nearestAt_13 : decode b_S_nearestAt 13 = .ok (.getfield 25, 3) := by decide +kernel
theorem dS_nearestAt_16 : decode b_S_nearestAt 16 = .ok (.imul, 1) := by decide +kernel
theorem dS_nearestAt_17 : decode b_S_nearestAt 17 = .ok (.iload_n 2, 1) := by decide +kernel
theorem dS_nearestAt_18 : decode b_S_nearestAt 18 = .ok (.iadd, 1) := by decide +kernel
theorem dS_nearestAt_19 : decode b_S_nearestAt 19 = .ok (.iaload, 1) := by decide +kernel
theorem dS_nearestAt_20 : decode b_S_nearestAt 20 = .ok (.ireturn, 1) := by decide +kernel
theorem dS_measureWhatChanged_0 : decode b_S_measureWhatChanged 0 = .ok (.iconst 0, 1) := by decide +kernel
theorem dS_measureWhatChanged_1 : decode b_S_measureWhatChanged 1 = .ok (.istore_n 1, 1) := by decide +kernel
theorem dS_measureWhatChanged_2 : decode b_S_measureWhatChanged 2 = .ok (.iload_n 1, 1) := by decide +kernel
theorem dS_measureWhatChanged_3 : decode b_S_measureWhatChanged 3 = .ok (.aload_n 0, 1) := by decide +kernel
theorem dS_measureWhatChanged_4 : decode b_S_measureWhatChanged 4 = .ok (.getfield 7, 3) := by decide +kernel
theorem dS_measureWhatChanged_7 : decode b_S_measureWhatChanged 7 = .ok (.if_icmp .ge 30, 3) := by decide +kernel
theorem dS_measureWhatChanged_10 : decode b_S_measureWhatChanged 10 = .ok (.aload_n 0, 1) := by decide +kernel
theorem dS_measureWhatChanged_11 : decode b_S_measureWhatChanged 11 = .ok (.getfield 39, 3) := by decide +kernel
theorem dS_measureWhatChanged_14 : decode b_S_measureWhatChanged 14 = .ok (.iload_n 1, 1) := by decide +kernel
theorem dS_measureWhatChanged_15 : decode b_S_measureWhatChanged 15 = .ok (.baload, 1) := by decide +kernel
theorem dS_measureWhatChanged_16 : decode b_S_measureWhatChanged 16 = .ok (.ifCond .eq 15, 3) := by decide +kernel
theorem dS_measureWhatChanged_19 : decode b_S_measureWhatChanged 19 = .ok (.aload_n 0, 1) := by decide +kernel
theorem dS_measureWhatChanged_20 : decode b_S_measureWhatChanged 20 = .ok (.iload_n 1, 1) := by decide +kernel
theorem dS_measureWhatChanged_21 : decode b_S_measureWhatChanged 21 = .ok (.invokevirtual 55, 3) := by decide +kernel
theorem dS_measureWhatChanged_24 : decode b_S_measureWhatChanged 24 = .ok (.aload_n 0, 1) := by decide +kernel
theorem dS_measureWhatChanged_25 : decode b_S_measureWhatChanged 25 = .ok (.getfield 39, 3) := by decide +kernel
theorem dS_measureWhatChanged_28 : decode b_S_measureWhatChanged 28 = .ok (.iload_n 1, 1) := by decide +kernel
theorem dS_measureWhatChanged_29 : decode b_S_measureWhatChanged 29 = .ok (.iconst 0, 1) := by decide +kernel
theorem dS_measureWhatChanged_30 : decode b_S_measureWhatChanged 30 = .ok (.bastore, 1) := by decide +kernel
theorem dS_measureWhatChanged_31 : decode b_S_measureWhatChanged 31 = .ok (.iinc 1 1, 3) := by decide +kernel
theorem dS_measureWhatChanged_34 : decode b_S_measureWhatChanged 34 = .ok (.goto (-32), 3) := by decide +kernel
theorem dS_measureWhatChanged_37 : decode b_S_measureWhatChanged 37 = .ok (.return_, 1) := by decide +kernel
theorem dS_measure_0 : decode b_S_measure 0 = .ok (.iconst 0, 1) := by decide +kernel
theorem dS_measure_1 : decode b_S_measure 1 = .ok (.istore_n 2, 1) := by decide +kernel
theorem dS_measure_2 : decode b_S_measure 2 = .ok (.iload_n 2, 1) := by decide +kernel
theorem dS_measure_3 : decode b_S_measure 3 = .ok (.aload_n 0, 1) := by decide +kernel
theorem dS_measure_4 : decode b_S_measure 4 = .ok (.getfield 25, 3) := by decide +kernel
theorem dS_measure_7 : decode b_S_measure 7 = .ok (.if_icmp .ge 81, 3) := by decide +kernel
theorem dS_measure_10 : decode b_S_measure 10 = .ok (.iconst (-1), 1) := by decide +kernel
theorem dS_measure_11 : decode b_S_measure 11 = .ok (.istore_n 3, 1) := by decide +kernel
theorem dS_measure_12 : decode b_S_measure 12 = .ok (.iload_n 3, 1) := by decide +kernel
theorem dS_measure_13 : decode b_S_measure 13 = .ok (.aload_n 0, 1) := by decide +kernel
theorem dS_measure_14 : decode b_S_measure 14 = .ok (.getfield 13, 3) := by decide +kernel
theorem dS_measure_17 : decode b_S_measure 17 = .ok (.if_icmp .gt 24, 3) := by decide +kernel
theorem dS_measure_20 : decode b_S_measure 20 = .ok (.aload_n 0, 1) := by decide +kernel
theorem dS_measure_21 : decode b_S_measure 21 = .ok (.getfield 42, 3) := by decide +kernel
theorem dS_measure_24 : decode b_S_measure 24 = .ok (.iload_n 3, 1) := by decide +kernel
theorem dS_measure_25 : decode b_S_measure 25 = .ok (.iconst 1, 1) := by decide +kernel
theorem dS_measure_26 : decode b_S_measure 26 = .ok (.iadd, 1) := by decide +kernel
theorem dS_measure_27 : decode b_S_measure 27 = .ok (.aload_n 0, 1) := by decide +kernel
theorem dS_measure_28 : decode b_S_measure 28 = .ok (.iload_n 1, 1) := by decide +kernel
theorem dS_measure_29 : decode b_S_measure 29 = .ok (.iload_n 3, 1) := by decide +kernel
theorem dS_measure_30 : decode b_S_measure 30 = .ok (.iload_n 2, 1) := by decide +kernel
theorem dS_measure_31 : decode b_S_measure 31 = .ok (.invokevirtual 59, 3) := by decide +kernel
theorem dS_measure_34 : decode b_S_measure 34 = .ok (.iastore, 1) := by decide +kernel
theorem dS_measure_35 : decode b_S_measure 35 = .ok (.iinc 3 1, 3) := by decide +kernel
theorem dS_measure_38 : decode b_S_measure 38 = .ok (.goto (-26), 3) := by decide +kernel
theorem dS_measure_41 : decode b_S_measure 41 = .ok (.iconst 0, 1) := by decide +kernel
theorem dS_measure_42 : decode b_S_measure 42 = .ok (.istore_n 3, 1) := by decide +kernel
theorem dS_measure_43 : decode b_S_measure 43 = .ok (.iload_n 3, 1) := by decide +kernel
theorem dS_measure_44 : decode b_S_measure 44 = .ok (.aload_n 0, 1) := by decide +kernel
theorem dS_measure_45 : decode b_S_measure 45 = .ok (.getfield 25, 3) := by decide +kernel
theorem dS_measure_48 : decode b_S_measure 48 = .ok (.if_icmp .ge 34, 3) := by decide +kernel
theorem dS_measure_51 : decode b_S_measure 51 = .ok (.aload_n 0, 1) := by decide +kernel
theorem dS_measure_52 : decode b_S_measure 52 = .ok (.getfield 35, 3) := by decide +kernel
theorem dS_measure_55 : decode b_S_measure 55 = .ok (.iload_n 1, 1) := by decide +kernel
theorem dS_measure_56 : decode b_S_measure 56 = .ok (.aload_n 0, 1) := by decide +kernel
theorem dS_measure_57 : decode b_S_measure 57 = .ok (.getfield 25, 3) := by decide +kernel
theorem dS_measure_60 : decode b_S_measure 60 = .ok (.imul, 1) := by decide +kernel
theorem dS_measure_61 : decode b_S_measure 61 = .ok (.iload_n 2, 1) := by decide +kernel
theorem dS_measure_62 : decode b_S_measure 62 = .ok (.iadd, 1) := by decide +kernel
theorem dS_measure_63 : decode b_S_measure 63 = .ok (.aload_n 0, 1) := by decide +kernel
theorem dS_measure_64 : decode b_S_measure 64 = .ok (.getfield 25, 3) := by decide +kernel
theorem dS_measure_67 : decode b_S_measure 67 = .ok (.imul, 1) := by decide +kernel
theorem dS_measure_68 : decode b_S_measure 68 = .ok (.iload_n 3, 1) := by decide +kernel
theorem dS_measure_69 : decode b_S_measure 69 = .ok (.iadd, 1) := by decide +kernel
theorem dS_measure_70 : decode b_S_measure 70 = .ok (.aload_n 0, 1) := by decide +kernel
theorem dS_measure_71 : decode b_S_measure 71 = .ok (.iload_n 3, 1) := by decide +kernel
theorem dS_measure_72 : decode b_S_measure 72 = .ok (.invokevirtual 62, 3) := by decide +kernel
theorem dS_measure_75 : decode b_S_measure 75 = .ok (.iastore, 1) := by decide +kernel
theorem dS_measure_76 : decode b_S_measure 76 = .ok (.iinc 3 1, 3) := by decide +kernel
theorem dS_measure_79 : decode b_S_measure 79 = .ok (.goto (-36), 3) := by decide +kernel
theorem dS_measure_82 : decode b_S_measure 82 = .ok (.iinc 2 1, 3) := by decide +kernel
theorem dS_measure_85 : decode b_S_measure 85 = .ok (.goto (-83), 3) := by decide +kernel
theorem dS_measure_88 : decode b_S_measure 88 = .ok (.return_, 1) := by decide +kernel
theorem dS_nearestInColumnOf_0 : decode b_S_nearestInColumnOf 0 = .ok (.ldc 68, 2) := by decide +kernel
theorem dS_nearestInColumnOf_2 : decode b_S_nearestInColumnOf 2 = .ok (.istore 4, 2) := by decide +kernel
theorem dS_nearestInColumnOf_4 : decode b_S_nearestInColumnOf 4 = .ok (.iconst (-1), 1) := by decide +kernel
theorem dS_nearestInColumnOf_5 : decode b_S_nearestInColumnOf 5 = .ok (.istore 5, 2) := by decide +kernel
theorem dS_nearestInColumnOf_7 : decode b_S_nearestInColumnOf 7 = .ok (.iload 5, 2) := by decide +kernel
theorem dS_nearestInColumnOf_9 : decode b_S_nearestInColumnOf 9 = .ok (.aload_n 0, 1) := by decide +kernel
theorem dS_nearestInColumnOf_10 : decode b_S_nearestInColumnOf 10 = .ok (.getfield 13, 3) := by decide +kernel
theorem dS_nearestInColumnOf_13 : decode b_S_nearestInColumnOf 13 = .ok (.if_icmp .gt 46, 3) := by decide +kernel
theorem dS_nearestInColumnOf_16 : decode b_S_nearestInColumnOf 16 = .ok (.aload_n 0, 1) := by decide +kernel
theorem dS_nearestInColumnOf_17 : decode b_S_nearestInColumnOf 17 = .ok (.getfield 31, 3) := by decide +kernel
theorem dS_nearestInColumnOf_20 : decode b_S_nearestInColumnOf 20 = .ok (.aload_n 0, 1) := by decide +kernel
theorem dS_nearestInColumnOf_21 : decode b_S_nearestInColumnOf 21 = .ok (.iload_n 1, 1) := by decide +kernel
theorem dS_nearestInColumnOf_22 : decode b_S_nearestInColumnOf 22 = .ok (.iload_n 2, 1) := by decide +kernel
theorem dS_nearestInColumnOf_23 : decode b_S_nearestInColumnOf 23 = .ok (.iload 5, 2) := by decide +kernel
theorem dS_nearestInColumnOf_25 : decode b_S_nearestInColumnOf 25 = .ok (.invokevirtual 51, 3) := by decide +kernel
theorem dS_nearestInColumnOf_28 : decode b_S_nearestInColumnOf 28 = .ok (.baload, 1) := by decide +kernel
theorem dS_nearestInColumnOf_29 : decode b_S_nearestInColumnOf 29 = .ok (.ifCond .ne 24, 3) := by decide +kernel
theorem dS_nearestInColumnOf_32 : decode b_S_nearestInColumnOf 32 = .ok (.aload_n 0, 1) := by decide +kernel
theorem dS_nearestInColumnOf_33 : decode b_S_nearestInColumnOf 33 = .ok (.iload_n 3, 1) := by decide +kernel
theorem dS_nearestInColumnOf_34 : decode b_S_nearestInColumnOf 34 = .ok (.iload 5, 2) := by decide +kernel
theorem dS_nearestInColumnOf_36 : decode b_S_nearestInColumnOf 36 = .ok (.invokevirtual 69, 3) := by decide +kernel
theorem dS_nearestInColumnOf_39 : decode b_S_nearestInColumnOf 39 = .ok (.istore 6, 2) := by decide +kernel
theorem dS_nearestInColumnOf_41 : decode b_S_nearestInColumnOf 41 = .ok (.iload 4, 2) := by decide +kernel
theorem dS_nearestInColumnOf_43 : decode b_S_nearestInColumnOf 43 = .ok (.iload 6, 2) := by decide +kernel
theorem dS_nearestInColumnOf_45 : decode b_S_nearestInColumnOf 45 = .ok (.iload 6, 2) := by decide +kernel
theorem dS_nearestInColumnOf_47 : decode b_S_nearestInColumnOf 47 = .ok (.imul, 1) := by decide +kernel
theorem dS_nearestInColumnOf_48 : decode b_S_nearestInColumnOf 48 = .ok (.invokestatic 72, 3) := by decide +kernel
theorem dS_nearestInColumnOf_51 : decode b_S_nearestInColumnOf 51 = .ok (.istore 4, 2) := by decide +kernel
theorem dS_nearestInColumnOf_53 : decode b_S_nearestInColumnOf 53 = .ok (.iinc 5 1, 3) := by decide +kernel
theorem dS_nearestInColumnOf_56 : decode b_S_nearestInColumnOf 56 = .ok (.goto (-49), 3) := by decide +kernel
theorem dS_nearestInColumnOf_59 : decode b_S_nearestInColumnOf 59 = .ok (.iload 4, 2) := by decide +kernel
theorem dS_nearestInColumnOf_61 : decode b_S_nearestInColumnOf 61 = .ok (.ireturn, 1) := by decide +kernel
theorem dS_nearestOverColumns_0 : decode b_S_nearestOverColumns 0 = .ok (.ldc 68, 2) := by decide +kernel
theorem dS_nearestOverColumns_2 : decode b_S_nearestOverColumns 2 = .ok (.istore_n 2, 1) := by decide +kernel
theorem dS_nearestOverColumns_3 : decode b_S_nearestOverColumns 3 = .ok (.iconst (-1), 1) := by decide +kernel
theorem dS_nearestOverColumns_4 : decode b_S_nearestOverColumns 4 = .ok (.istore_n 3, 1) := by decide +kernel
theorem dS_nearestOverColumns_5 : decode b_S_nearestOverColumns 5 = .ok (.iload_n 3, 1) := by decide +kernel
theorem dS_nearestOverColumns_6 : decode b_S_nearestOverColumns 6 = .ok (.aload_n 0, 1) := by decide +kernel
theorem dS_nearestOverColumns_7 : decode b_S_nearestOverColumns 7 = .ok (.getfield 13, 3) := by decide +kernel
theorem dS_nearestOverColumns_10 : decode b_S_nearestOverColumns 10 = .ok (.if_icmp .gt 36, 3) := by decide +kernel
theorem dS_nearestOverColumns_13 : decode b_S_nearestOverColumns 13 = .ok (.aload_n 0, 1) := by decide +kernel
theorem dS_nearestOverColumns_14 : decode b_S_nearestOverColumns 14 = .ok (.iload_n 1, 1) := by decide +kernel
theorem dS_nearestOverColumns_15 : decode b_S_nearestOverColumns 15 = .ok (.iload_n 3, 1) := by decide +kernel
theorem dS_nearestOverColumns_16 : decode b_S_nearestOverColumns 16 = .ok (.invokevirtual 69, 3) := by decide +kernel
theorem dS_nearestOverColumns_19 : decode b_S_nearestOverColumns 19 = .ok (.istore 4, 2) := by decide +kernel
theorem dS_nearestOverColumns_21 : decode b_S_nearestOverColumns 21 = .ok (.iload_n 2, 1) := by decide +kernel
theorem dS_nearestOverColumns_22 : decode b_S_nearestOverColumns 22 = .ok (.iload 4, 2) := by decide +kernel
theorem dS_nearestOverColumns_24 : decode b_S_nearestOverColumns 24 = .ok (.iload 4, 2) := by decide +kernel
theorem dS_nearestOverColumns_26 : decode b_S_nearestOverColumns 26 = .ok (.imul, 1) := by decide +kernel
theorem dS_nearestOverColumns_27 : decode b_S_nearestOverColumns 27 = .ok (.aload_n 0, 1) := by decide +kernel
theorem dS_nearestOverColumns_28 : decode b_S_nearestOverColumns 28 = .ok (.getfield 42, 3) := by decide +kernel
theorem dS_nearestOverColumns_31 : decode b_S_nearestOverColumns 31 = .ok (.iload_n 3, 1) := by decide +kernel
theorem dS_nearestOverColumns_32 : decode b_S_nearestOverColumns 32 = .ok (.iconst 1, 1) := by decide +kernel
theorem dS_nearestOverColumns_33 : decode b_S_nearestOverColumns 33 = .ok (.iadd, 1) := by decide +kernel
theorem dS_nearestOverColumns_34 : decode b_S_nearestOverColumns 34 = .ok (.iaload, 1) := by decide +kernel
theorem dS_nearestOverColumns_35 : decode b_S_nearestOverColumns 35 = .ok (.iadd, 1) := by decide +kernel
theorem dS_nearestOverColumns_36 : decode b_S_nearestOverColumns 36 = .ok (.invokestatic 72, 3) := by decide +kernel
theorem dS_nearestOverColumns_39 : decode b_S_nearestOverColumns 39 = .ok (.istore_n 2, 1) := by decide +kernel
theorem dS_nearestOverColumns_40 : decode b_S_nearestOverColumns 40 = .ok (.iinc 3 1, 3) := by decide +kernel
theorem dS_nearestOverColumns_43 : decode b_S_nearestOverColumns 43 = .ok (.goto (-38), 3) := by decide +kernel
theorem dS_nearestOverColumns_46 : decode b_S_nearestOverColumns 46 = .ok (.iload_n 2, 1) := by decide +kernel
theorem dS_nearestOverColumns_47 : decode b_S_nearestOverColumns 47 = .ok (.ireturn, 1) := by decide +kernel
theorem dS_indexOf_0 : decode b_S_indexOf 0 = .ok (.iload_n 1, 1) := by decide +kernel
theorem dS_indexOf_1 : decode b_S_indexOf 1 = .ok (.aload_n 0, 1) := by decide +kernel
theorem dS_indexOf_2 : decode b_S_indexOf 2 = .ok (.getfield 28, 3) := by decide +kernel
theorem dS_indexOf_5 : decode b_S_indexOf 5 = .ok (.imul, 1) := by decide +kernel
theorem dS_indexOf_6 : decode b_S_indexOf 6 = .ok (.iload_n 3, 1) := by decide +kernel
theorem dS_indexOf_7 : decode b_S_indexOf 7 = .ok (.iadd, 1) := by decide +kernel
theorem dS_indexOf_8 : decode b_S_indexOf 8 = .ok (.iconst 1, 1) := by decide +kernel
theorem dS_indexOf_9 : decode b_S_indexOf 9 = .ok (.iadd, 1) := by decide +kernel
theorem dS_indexOf_10 : decode b_S_indexOf 10 = .ok (.aload_n 0, 1) := by decide +kernel
theorem dS_indexOf_11 : decode b_S_indexOf 11 = .ok (.getfield 28, 3) := by decide +kernel
theorem dS_indexOf_14 : decode b_S_indexOf 14 = .ok (.imul, 1) := by decide +kernel
theorem dS_indexOf_15 : decode b_S_indexOf 15 = .ok (.iload_n 2, 1) := by decide +kernel
theorem dS_indexOf_16 : decode b_S_indexOf 16 = .ok (.iadd, 1) := by decide +kernel
theorem dS_indexOf_17 : decode b_S_indexOf 17 = .ok (.iconst 1, 1) := by decide +kernel
theorem dS_indexOf_18 : decode b_S_indexOf 18 = .ok (.iadd, 1) := by decide +kernel
theorem dS_indexOf_19 : decode b_S_indexOf 19 = .ok (.ireturn, 1) := by decide +kernel
theorem dS_gap_0 : decode b_S_gap 0 = .ok (.iload_n 2, 1) := by decide +kernel
theorem dS_gap_1 : decode b_S_gap 1 = .ok (.aload_n 0, 1) := by decide +kernel
theorem dS_gap_2 : decode b_S_gap 2 = .ok (.getfield 22, 3) := by decide +kernel
theorem dS_gap_5 : decode b_S_gap 5 = .ok (.imul, 1) := by decide +kernel
theorem dS_gap_6 : decode b_S_gap 6 = .ok (.istore_n 3, 1) := by decide +kernel
theorem dS_gap_7 : decode b_S_gap 7 = .ok (.iload_n 3, 1) := by decide +kernel
theorem dS_gap_8 : decode b_S_gap 8 = .ok (.aload_n 0, 1) := by decide +kernel
theorem dS_gap_9 : decode b_S_gap 9 = .ok (.getfield 22, 3) := by decide +kernel
theorem dS_gap_12 : decode b_S_gap 12 = .ok (.iadd, 1) := by decide +kernel
theorem dS_gap_13 : decode b_S_gap 13 = .ok (.istore 4, 2) := by decide +kernel
theorem dS_gap_15 : decode b_S_gap 15 = .ok (.iload_n 1, 1) := by decide +kernel
theorem dS_gap_16 : decode b_S_gap 16 = .ok (.iload_n 3, 1) := by decide +kernel
theorem dS_gap_17 : decode b_S_gap 17 = .ok (.if_icmp .ge 9, 3) := by decide +kernel
theorem dS_gap_20 : decode b_S_gap 20 = .ok (.iload_n 3, 1) := by decide +kernel
theorem dS_gap_21 : decode b_S_gap 21 = .ok (.iload_n 1, 1) := by decide +kernel
theorem dS_gap_22 : decode b_S_gap 22 = .ok (.isub, 1) := by decide +kernel
theorem dS_gap_23 : decode b_S_gap 23 = .ok (.goto 17, 3) := by decide +kernel
theorem dS_gap_26 : decode b_S_gap 26 = .ok (.iload_n 1, 1) := by decide +kernel
theorem dS_gap_27 : decode b_S_gap 27 = .ok (.iload 4, 2) := by decide +kernel
theorem dS_gap_29 : decode b_S_gap 29 = .ok (.if_icmp .le 10, 3) := by decide +kernel
theorem dS_gap_32 : decode b_S_gap 32 = .ok (.iload_n 1, 1) := by decide +kernel
theorem dS_gap_33 : decode b_S_gap 33 = .ok (.iload 4, 2) := by decide +kernel
theorem dS_gap_35 : decode b_S_gap 35 = .ok (.isub, 1) := by decide +kernel
theorem dS_gap_36 : decode b_S_gap 36 = .ok (.goto 4, 3) := by decide +kernel
theorem dS_gap_39 : decode b_S_gap 39 = .ok (.iconst 0, 1) := by decide +kernel
theorem dS_gap_40 : decode b_S_gap 40 = .ok (.ireturn, 1) := by decide +kernel
