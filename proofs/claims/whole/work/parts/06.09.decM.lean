theorem dM_roomOf_71 : decode b_M_roomOf 71 = .ok (.aload_n 0, 1) := by decide +kernel
theorem dM_roomOf_72 : decode b_M_roomOf 72 = .ok (.iload_n 1, 1) := by decide +kernel
theorem dM_roomOf_73 : decode b_M_roomOf 73 = .ok (.iload_n 2, 1) := by decide +kernel
theorem dM_roomOf_74 : decode b_M_roomOf 74 = .ok (.iload_n 3, 1) := by decide +kernel
theorem dM_roomOf_75 : decode b_M_roomOf 75 = .ok (.iload 4, 2) := by decide +kernel
theorem dM_roomOf_77 : decode b_M_roomOf 77 = .ok (.invokevirtual 102, 3) := by decide +kernel
theorem dM_roomOf_80 : decode b_M_roomOf 80 = .ok (.ireturn, 1) := by decide +kernel
theorem dM_peel_0 : decode b_M_peel 0 = .ok (.aload_n 0, 1) := by decide +kernel
theorem dM_peel_1 : decode b_M_peel 1 = .ok (.iload_n 1, 1) := by decide +kernel
theorem dM_peel_2 : decode b_M_peel 2 = .ok (.iconst 1, 1) := by decide +kernel
theorem dM_peel_3 : decode b_M_peel 3 = .ok (.sipush 1000, 3) := by decide +kernel
theorem dM_peel_6 : decode b_M_peel 6 = .ok (.invokestatic 73, 3) := by decide +kernel
theorem dM_peel_9 : decode b_M_peel 9 = .ok (.ifCond .eq 18, 3) := by decide +kernel
theorem dM_peel_12 : decode b_M_peel 12 = .ok (.iload_n 2, 1) := by decide +kernel
theorem dM_peel_13 : decode b_M_peel 13 = .ok (.iconst 0, 1) := by decide +kernel
theorem dM_peel_14 : decode b_M_peel 14 = .ok (.sipush 1000, 3) := by decide +kernel
theorem dM_peel_17 : decode b_M_peel 17 = .ok (.invokestatic 73, 3) := by decide +kernel
theorem dM_peel_20 : decode b_M_peel 20 = .ok (.ifCond .eq 7, 3) := by decide +kernel
theorem dM_peel_23 : decode b_M_peel 23 = .ok (.iconst 0, 1) := by decide +kernel
theorem dM_peel_24 : decode b_M_peel 24 = .ok (.goto 4, 3) := by decide +kernel
theorem dM_peel_27 : decode b_M_peel 27 = .ok (.iconst 1, 1) := by decide +kernel
theorem dM_peel_28 : decode b_M_peel 28 = .ok (.putfield 70, 3) := by decide +kernel
theorem dM_peel_31 : decode b_M_peel 31 = .ok (.aload_n 0, 1) := by decide +kernel
theorem dM_peel_32 : decode b_M_peel 32 = .ok (.getfield 70, 3) := by decide +kernel
theorem dM_peel_35 : decode b_M_peel 35 = .ok (.ifCond .le 5, 3) := by decide +kernel
theorem dM_peel_38 : decode b_M_peel 38 = .ok (.iconst 0, 1) := by decide +kernel
theorem dM_peel_39 : decode b_M_peel 39 = .ok (.ireturn, 1) := by decide +kernel
theorem dM_peel_40 : decode b_M_peel 40 = .ok (.aload_n 0, 1) := by decide +kernel
theorem dM_peel_41 : decode b_M_peel 41 = .ok (.aload_n 0, 1) := by decide +kernel
theorem dM_peel_42 : decode b_M_peel 42 = .ok (.invokevirtual 109, 3) := by decide +kernel
theorem dM_peel_45 : decode b_M_peel 45 = .ok (.putfield 113, 3) := by decide +kernel
theorem dM_peel_48 : decode b_M_peel 48 = .ok (.aload_n 0, 1) := by decide +kernel
theorem dM_peel_49 : decode b_M_peel 49 = .ok (.iload_n 1, 1) := by decide +kernel
theorem dM_peel_50 : decode b_M_peel 50 = .ok (.putfield 115, 3) := by decide +kernel
theorem dM_peel_53 : decode b_M_peel 53 = .ok (.aload_n 0, 1) := by decide +kernel
theorem dM_peel_54 : decode b_M_peel 54 = .ok (.aload_n 0, 1) := by decide +kernel
theorem dM_peel_55 : decode b_M_peel 55 = .ok (.getfield 113, 3) := by decide +kernel
theorem dM_peel_58 : decode b_M_peel 58 = .ok (.iload_n 2, 1) := by decide +kernel
theorem dM_peel_59 : decode b_M_peel 59 = .ok (.if_icmp .ge 7, 3) := by decide +kernel
theorem dM_peel_62 : decode b_M_peel 62 = .ok (.iconst 0, 1) := by decide +kernel
theorem dM_peel_63 : decode b_M_peel 63 = .ok (.goto 14, 3) := by decide +kernel
theorem dM_peel_66 : decode b_M_peel 66 = .ok (.aload_n 0, 1) := by decide +kernel
theorem dM_peel_67 : decode b_M_peel 67 = .ok (.getfield 113, 3) := by decide +kernel
theorem dM_peel_70 : decode b_M_peel 70 = .ok (.iload_n 2, 1) := by decide +kernel
theorem dM_peel_71 : decode b_M_peel 71 = .ok (.isub, 1) := by decide +kernel
theorem dM_peel_72 : decode b_M_peel 72 = .ok (.aload_n 0, 1) := by decide +kernel
theorem dM_peel_73 : decode b_M_peel 73 = .ok (.getfield 115, 3) := by decide +kernel
theorem dM_peel_76 : decode b_M_peel 76 = .ok (.idiv, 1) := by decide +kernel
theorem dM_peel_77 : decode b_M_peel 77 = .ok (.putfield 118, 3) := by decide +kernel
theorem dM_peel_80 : decode b_M_peel 80 = .ok (.aload_n 0, 1) := by decide +kernel
theorem dM_peel_81 : decode b_M_peel 81 = .ok (.iconst 1, 1) := by decide +kernel
theorem dM_peel_82 : decode b_M_peel 82 = .ok (.putfield 81, 3) := by decide +kernel
theorem dM_peel_85 : decode b_M_peel 85 = .ok (.aload_n 0, 1) := by decide +kernel
theorem dM_peel_86 : decode b_M_peel 86 = .ok (.iconst 0, 1) := by decide +kernel
theorem dM_peel_87 : decode b_M_peel 87 = .ok (.putfield 84, 3) := by decide +kernel
theorem dM_peel_90 : decode b_M_peel 90 = .ok (.aload_n 0, 1) := by decide +kernel
theorem dM_peel_91 : decode b_M_peel 91 = .ok (.getfield 118, 3) := by decide +kernel
theorem dM_peel_94 : decode b_M_peel 94 = .ok (.ireturn, 1) := by decide +kernel
theorem dM_beforeTurn_0 : decode b_M_beforeTurn 0 = .ok (.iconst 0, 1) := by decide +kernel
theorem dM_beforeTurn_1 : decode b_M_beforeTurn 1 = .ok (.istore_n 2, 1) := by decide +kernel
theorem dM_beforeTurn_2 : decode b_M_beforeTurn 2 = .ok (.iconst 0, 1) := by decide +kernel
theorem dM_beforeTurn_3 : decode b_M_beforeTurn 3 = .ok (.istore_n 3, 1) := by decide +kernel
theorem dM_beforeTurn_4 : decode b_M_beforeTurn 4 = .ok (.iload_n 3, 1) := by decide +kernel
theorem dM_beforeTurn_5 : decode b_M_beforeTurn 5 = .ok (.iload_n 1, 1) := by decide +kernel
theorem dM_beforeTurn_6 : decode b_M_beforeTurn 6 = .ok (.if_icmp .ge 23, 3) := by decide +kernel
theorem dM_beforeTurn_9 : decode b_M_beforeTurn 9 = .ok (.iload_n 2, 1) := by decide +kernel
theorem dM_beforeTurn_10 : decode b_M_beforeTurn 10 = .ok (.aload_n 0, 1) := by decide +kernel
theorem dM_beforeTurn_11 : decode b_M_beforeTurn 11 = .ok (.getfield 113, 3) := by decide +kernel
theorem dM_beforeTurn_14 : decode b_M_beforeTurn 14 = .ok (.iadd, 1) := by decide +kernel
theorem dM_beforeTurn_15 : decode b_M_beforeTurn 15 = .ok (.iload_n 3, 1) := by decide +kernel
theorem dM_beforeTurn_16 : decode b_M_beforeTurn 16 = .ok (.aload_n 0, 1) := by decide +kernel
theorem dM_beforeTurn_17 : decode b_M_beforeTurn 17 = .ok (.getfield 115, 3) := by decide +kernel
theorem dM_beforeTurn_20 : decode b_M_beforeTurn 20 = .ok (.imul, 1) := by decide +kernel
theorem dM_beforeTurn_21 : decode b_M_beforeTurn 21 = .ok (.isub, 1) := by decide +kernel
theorem dM_beforeTurn_22 : decode b_M_beforeTurn 22 = .ok (.istore_n 2, 1) := by decide +kernel
theorem dM_beforeTurn_23 : decode b_M_beforeTurn 23 = .ok (.iinc 3 1, 3) := by decide +kernel
theorem dM_beforeTurn_26 : decode b_M_beforeTurn 26 = .ok (.goto (-22), 3) := by decide +kernel
theorem dM_beforeTurn_29 : decode b_M_beforeTurn 29 = .ok (.iload_n 2, 1) := by decide +kernel
theorem dM_beforeTurn_30 : decode b_M_beforeTurn 30 = .ok (.sipush 710, 3) := by decide +kernel
theorem dM_beforeTurn_33 : decode b_M_beforeTurn 33 = .ok (.imul, 1) := by decide +kernel
theorem dM_beforeTurn_34 : decode b_M_beforeTurn 34 = .ok (.bipush 113, 2) := by decide +kernel
theorem dM_beforeTurn_36 : decode b_M_beforeTurn 36 = .ok (.idiv, 1) := by decide +kernel
theorem dM_beforeTurn_37 : decode b_M_beforeTurn 37 = .ok (.ireturn, 1) := by decide +kernel
theorem dM_before_0 : decode b_M_before 0 = .ok (.aload_n 0, 1) := by decide +kernel
theorem dM_before_1 : decode b_M_before 1 = .ok (.aload_n 0, 1) := by decide +kernel
theorem dM_before_2 : decode b_M_before 2 = .ok (.getfield 81, 3) := by decide +kernel
theorem dM_before_5 : decode b_M_before 5 = .ok (.ifCond .ne 7, 3) := by decide +kernel
theorem dM_before_8 : decode b_M_before 8 = .ok (.iconst 1, 1) := by decide +kernel
theorem dM_before_9 : decode b_M_before 9 = .ok (.goto 20, 3) := by decide +kernel
theorem dM_before_12 : decode b_M_before 12 = .ok (.iload_n 1, 1) := by decide +kernel
theorem dM_before_13 : decode b_M_before 13 = .ok (.iconst 0, 1) := by decide +kernel
theorem dM_before_14 : decode b_M_before 14 = .ok (.aload_n 0, 1) := by decide +kernel
theorem dM_before_15 : decode b_M_before 15 = .ok (.getfield 118, 3) := by decide +kernel
theorem dM_before_18 : decode b_M_before 18 = .ok (.invokestatic 73, 3) := by decide +kernel
theorem dM_before_21 : decode b_M_before 21 = .ok (.ifCond .eq 7, 3) := by decide +kernel
theorem dM_before_24 : decode b_M_before 24 = .ok (.iconst 0, 1) := by decide +kernel
theorem dM_before_25 : decode b_M_before 25 = .ok (.goto 4, 3) := by decide +kernel
theorem dM_before_28 : decode b_M_before 28 = .ok (.iconst 2, 1) := by decide +kernel
theorem dM_before_29 : decode b_M_before 29 = .ok (.putfield 70, 3) := by decide +kernel
theorem dM_before_32 : decode b_M_before 32 = .ok (.aload_n 0, 1) := by decide +kernel
theorem dM_before_33 : decode b_M_before 33 = .ok (.getfield 70, 3) := by decide +kernel
theorem dM_before_36 : decode b_M_before 36 = .ok (.ifCond .le 7, 3) := by decide +kernel
theorem dM_before_39 : decode b_M_before 39 = .ok (.iconst 0, 1) := by decide +kernel
theorem dM_before_40 : decode b_M_before 40 = .ok (.goto 8, 3) := by decide +kernel
theorem dM_before_43 : decode b_M_before 43 = .ok (.aload_n 0, 1) := by decide +kernel
theorem dM_before_44 : decode b_M_before 44 = .ok (.iload_n 1, 1) := by decide +kernel
theorem dM_before_45 : decode b_M_before 45 = .ok (.invokevirtual 121, 3) := by decide +kernel
theorem dM_before_48 : decode b_M_before 48 = .ok (.ireturn, 1) := by decide +kernel
theorem dM_fault_0 : decode b_M_fault 0 = .ok (.aload_n 0, 1) := by decide +kernel
theorem dM_fault_1 : decode b_M_fault 1 = .ok (.iload_n 1, 1) := by decide +kernel
theorem dM_fault_2 : decode b_M_fault 2 = .ok (.iconst 0, 1) := by decide +kernel
theorem dM_fault_3 : decode b_M_fault 3 = .ok (.sipush 359, 3) := by decide +kernel
theorem dM_fault_6 : decode b_M_fault 6 = .ok (.invokestatic 73, 3) := by decide +kernel
theorem dM_fault_9 : decode b_M_fault 9 = .ok (.ifCond .eq 23, 3) := by decide +kernel
theorem dM_fault_12 : decode b_M_fault 12 = .ok (.iload_n 2, 1) := by decide +kernel
theorem dM_fault_13 : decode b_M_fault 13 = .ok (.iconst 0, 1) := by decide +kernel
theorem dM_fault_14 : decode b_M_fault 14 = .ok (.sipush 1000, 3) := by decide +kernel
theorem dM_fault_17 : decode b_M_fault 17 = .ok (.invokestatic 73, 3) := by decide +kernel
theorem dM_fault_20 : decode b_M_fault 20 = .ok (.ifCond .eq 12, 3) := by decide +kernel
theorem dM_fault_23 : decode b_M_fault 23 = .ok (.iload_n 3, 1) := by decide +kernel
theorem dM_fault_24 : decode b_M_fault 24 = .ok (.iconst 0, 1) := by decide +kernel
theorem dM_fault_25 : decode b_M_fault 25 = .ok (.iconst 3, 1) := by decide +kernel
theorem dM_fault_26 : decode b_M_fault 26 = .ok (.invokestatic 73, 3) := by decide +kernel
theorem dM_fault_29 : decode b_M_fault 29 = .ok (.ifCond .ne 7, 3) := by decide +kernel
theorem dM_fault_32 : decode b_M_fault 32 = .ok (.iconst 1, 1) := by decide +kernel
theorem dM_fault_33 : decode b_M_fault 33 = .ok (.goto 17, 3) := by decide +kernel
theorem dM_fault_36 : decode b_M_fault 36 = .ok (.aload_n 0, 1) := by decide +kernel
theorem dM_fault_37 : decode b_M_fault 37 = .ok (.getfield 125, 3) := by decide +kernel
theorem dM_fault_40 : decode b_M_fault 40 = .ok (.bipush 16, 2) := by decide +kernel
theorem dM_fault_42 : decode b_M_fault 42 = .ok (.if_icmp .ne 7, 3) := by decide +kernel
theorem dM_fault_45 : decode b_M_fault 45 = .ok (.iconst 2, 1) := by decide +kernel
theorem dM_fault_46 : decode b_M_fault 46 = .ok (.goto 4, 3) := by decide +kernel
theorem dM_fault_49 : decode b_M_fault 49 = .ok (.iconst 0, 1) := by decide +kernel
theorem dM_fault_50 : decode b_M_fault 50 = .ok (.putfield 70, 3) := by decide +kernel
theorem dM_fault_53 : decode b_M_fault 53 = .ok (.aload_n 0, 1) := by decide +kernel
theorem dM_fault_54 : decode b_M_fault 54 = .ok (.getfield 70, 3) := by decide +kernel
theorem dM_fault_57 : decode b_M_fault 57 = .ok (.ifCond .le 5, 3) := by decide +kernel
theorem dM_fault_60 : decode b_M_fault 60 = .ok (.iconst 0, 1) := by decide +kernel
theorem dM_fault_61 : decode b_M_fault 61 = .ok (.ireturn, 1) := by decide +kernel
theorem dM_fault_62 : decode b_M_fault 62 = .ok (.aload_n 0, 1) := by decide +kernel
theorem dM_fault_63 : decode b_M_fault 63 = .ok (.getfield 20, 3) := by decide +kernel
theorem dM_fault_66 : decode b_M_fault 66 = .ok (.aload_n 0, 1) := by decide +kernel
theorem dM_fault_67 : decode b_M_fault 67 = .ok (.getfield 125, 3) := by decide +kernel
theorem dM_fault_70 : decode b_M_fault 70 = .ok (.iload_n 1, 1) := by decide +kernel
theorem dM_fault_71 : decode b_M_fault 71 = .ok (.iastore, 1) := by decide +kernel
theorem dM_fault_72 : decode b_M_fault 72 = .ok (.aload_n 0, 1) := by decide +kernel
theorem dM_fault_73 : decode b_M_fault 73 = .ok (.getfield 23, 3) := by decide +kernel
theorem dM_fault_76 : decode b_M_fault 76 = .ok (.aload_n 0, 1) := by decide +kernel
theorem dM_fault_77 : decode b_M_fault 77 = .ok (.getfield 125, 3) := by decide +kernel
theorem dM_fault_80 : decode b_M_fault 80 = .ok (.iload_n 2, 1) := by decide +kernel
theorem dM_fault_81 : decode b_M_fault 81 = .ok (.iastore, 1) := by decide +kernel
theorem dM_fault_82 : decode b_M_fault 82 = .ok (.aload_n 0, 1) := by decide +kernel
theorem dM_fault_83 : decode b_M_fault 83 = .ok (.getfield 26, 3) := by decide +kernel
theorem dM_fault_86 : decode b_M_fault 86 = .ok (.aload_n 0, 1) := by decide +kernel
theorem dM_fault_87 : decode b_M_fault 87 = .ok (.getfield 125, 3) := by decide +kernel
theorem dM_fault_90 : decode b_M_fault 90 = .ok (.iload_n 3, 1) := by decide +kernel
theorem dM_fault_91 : decode b_M_fault 91 = .ok (.iastore, 1) := by decide +kernel
theorem dM_fault_92 : decode b_M_fault 92 = .ok (.aload_n 0, 1) := by decide +kernel
theorem dM_fault_93 : decode b_M_fault 93 = .ok (.dup, 1) := by decide +kernel
theorem dM_fault_94 : decode b_M_fault 94 = .ok (.getfield 125, 3) := by decide +kernel
theorem dM_fault_97 : decode b_M_fault 97 = .ok (.iconst 1, 1) := by decide +kernel
theorem dM_fault_98 : decode b_M_fault 98 = .ok (.iadd, 1) := by decide +kernel
theorem dM_fault_99 : decode b_M_fault 99 = .ok (.putfield 125, 3) := by decide +kernel
theorem dM_fault_102 : decode b_M_fault 102 = .ok (.aload_n 0, 1) := by decide +kernel
theorem dM_fault_103 : decode b_M_fault 103 = .ok (.iconst 0, 1) := by decide +kernel
theorem dM_fault_104 : decode b_M_fault 104 = .ok (.putfield 84, 3) := by decide +kernel
theorem dM_fault_107 : decode b_M_fault 107 = .ok (.aload_n 0, 1) := by decide +kernel
theorem dM_fault_108 : decode b_M_fault 108 = .ok (.getfield 125, 3) := by decide +kernel
theorem dM_fault_111 : decode b_M_fault 111 = .ok (.iconst 1, 1) := by decide +kernel
theorem dM_fault_112 : decode b_M_fault 112 = .ok (.isub, 1) := by decide +kernel
theorem dM_fault_113 : decode b_M_fault 113 = .ok (.ireturn, 1) := by decide +kernel
theorem dM_placeOf_0 : decode b_M_placeOf 0 = .ok (.aload_n 0, 1) := by decide +kernel
theorem dM_placeOf_1 : decode b_M_placeOf 1 = .ok (.getfield 23, 3) := by decide +kernel
theorem dM_placeOf_4 : decode b_M_placeOf 4 = .ok (.iload_n 1, 1) := by decide +kernel
theorem dM_placeOf_5 : decode b_M_placeOf 5 = .ok (.iaload, 1) := by decide +kernel
theorem dM_placeOf_6 : decode b_M_placeOf 6 = .ok (.aload_n 0, 1) := by decide +kernel
theorem dM_placeOf_7 : decode b_M_placeOf 7 = .ok (.getfield 113, 3) := by decide +kernel
theorem dM_placeOf_10 : decode b_M_placeOf 10 = .ok (.if_icmp .gt 26, 3) := by decide +kernel
theorem dM_placeOf_13 : decode b_M_placeOf 13 = .ok (.aload_n 0, 1) := by decide +kernel
theorem dM_placeOf_14 : decode b_M_placeOf 14 = .ok (.getfield 23, 3) := by decide +kernel
theorem dM_placeOf_17 : decode b_M_placeOf 17 = .ok (.iload_n 1, 1) := by decide +kernel
theorem dM_placeOf_18 : decode b_M_placeOf 18 = .ok (.iaload, 1) := by decide +kernel
theorem dM_placeOf_19 : decode b_M_placeOf 19 = .ok (.aload_n 0, 1) := by decide +kernel
theorem dM_placeOf_20 : decode b_M_placeOf 20 = .ok (.getfield 113, 3) := by decide +kernel
theorem dM_placeOf_23 : decode b_M_placeOf 23 = .ok (.aload_n 0, 1) := by decide +kernel
theorem dM_placeOf_24 : decode b_M_placeOf 24 = .ok (.getfield 118, 3) := by decide +kernel
theorem dM_placeOf_27 : decode b_M_placeOf 27 = .ok (.aload_n 0, 1) := by decide +kernel
theorem dM_placeOf_28 : decode b_M_placeOf 28 = .ok (.getfield 115, 3) := by decide +kernel
theorem dM_placeOf_31 : decode b_M_placeOf 31 = .ok (.imul, 1) := by decide +kernel
theorem dM_placeOf_32 : decode b_M_placeOf 32 = .ok (.isub, 1) := by decide +kernel
theorem dM_placeOf_33 : decode b_M_placeOf 33 = .ok (.if_icmp .gt 5, 3) := by decide +kernel
theorem dM_placeOf_36 : decode b_M_placeOf 36 = .ok (.iconst (-1), 1) := by decide +kernel
theorem dM_placeOf_37 : decode b_M_placeOf 37 = .ok (.ireturn, 1) := by decide +kernel
theorem dM_placeOf_38 : decode b_M_placeOf 38 = .ok (.aload_n 0, 1) := by decide +kernel
theorem dM_placeOf_39 : decode b_M_placeOf 39 = .ok (.getfield 113, 3) := by decide +kernel
theorem dM_placeOf_42 : decode b_M_placeOf 42 = .ok (.aload_n 0, 1) := by decide +kernel
theorem dM_placeOf_43 : decode b_M_placeOf 43 = .ok (.getfield 23, 3) := by decide +kernel
theorem dM_placeOf_46 : decode b_M_placeOf 46 = .ok (.iload_n 1, 1) := by decide +kernel
theorem dM_placeOf_47 : decode b_M_placeOf 47 = .ok (.iaload, 1) := by decide +kernel
theorem dM_placeOf_48 : decode b_M_placeOf 48 = .ok (.isub, 1) := by decide +kernel
theorem dM_placeOf_49 : decode b_M_placeOf 49 = .ok (.aload_n 0, 1) := by decide +kernel
theorem dM_placeOf_50 : decode b_M_placeOf 50 = .ok (.getfield 115, 3) := by decide +kernel
theorem dM_placeOf_53 : decode b_M_placeOf 53 = .ok (.idiv, 1) := by decide +kernel
theorem dM_placeOf_54 : decode b_M_placeOf 54 = .ok (.istore_n 2, 1) := by decide +kernel
theorem dM_placeOf_55 : decode b_M_placeOf 55 = .ok (.aload_n 0, 1) := by decide +kernel
theorem dM_placeOf_56 : decode b_M_placeOf 56 = .ok (.iload_n 2, 1) := by decide +kernel
theorem dM_placeOf_57 : decode b_M_placeOf 57 = .ok (.invokevirtual 121, 3) := by decide +kernel
theorem dM_placeOf_60 : decode b_M_placeOf 60 = .ok (.aload_n 0, 1) := by decide +kernel
theorem dM_placeOf_61 : decode b_M_placeOf 61 = .ok (.getfield 113, 3) := by decide +kernel
theorem dM_placeOf_64 : decode b_M_placeOf 64 = .ok (.iload_n 2, 1) := by decide +kernel
theorem dM_placeOf_65 : decode b_M_placeOf 65 = .ok (.aload_n 0, 1) := by decide +kernel
theorem dM_placeOf_66 : decode b_M_placeOf 66 = .ok (.getfield 115, 3) := by decide +kernel
theorem dM_placeOf_69 : decode b_M_placeOf 69 = .ok (.imul, 1) := by decide +kernel
theorem dM_placeOf_70 : decode b_M_placeOf 70 = .ok (.isub, 1) := by decide +kernel
theorem dM_placeOf_71 : decode b_M_placeOf 71 = .ok (.sipush 710, 3) := by decide +kernel
theorem dM_placeOf_74 : decode b_M_placeOf 74 = .ok (.imul, 1) := by decide +kernel
theorem dM_placeOf_75 : decode b_M_placeOf 75 = .ok (.bipush 113, 2) := by decide +kernel
theorem dM_placeOf_77 : decode b_M_placeOf 77 = .ok (.idiv, 1) := by decide +kernel
theorem dM_placeOf_78 : decode b_M_placeOf 78 = .ok (.aload_n 0, 1) := by decide +kernel
theorem dM_placeOf_79 : decode b_M_placeOf 79 = .ok (.getfield 20, 3) := by decide +kernel
theorem dM_placeOf_82 : decode b_M_placeOf 82 = .ok (.iload_n 1, 1) := by decide +kernel
theorem dM_placeOf_83 : decode b_M_placeOf 83 = .ok (.iaload, 1) := by decide +kernel
theorem dM_placeOf_84 : decode b_M_placeOf 84 = .ok (.imul, 1) := by decide +kernel
theorem dM_placeOf_85 : decode b_M_placeOf 85 = .ok (.sipush 360, 3) := by decide +kernel
theorem dM_placeOf_88 : decode b_M_placeOf 88 = .ok (.idiv, 1) := by decide +kernel
theorem dM_placeOf_89 : decode b_M_placeOf 89 = .ok (.iadd, 1) := by decide +kernel
theorem dM_placeOf_90 : decode b_M_placeOf 90 = .ok (.ireturn, 1) := by decide +kernel
theorem dM_unrolled_0 : decode b_M_unrolled 0 = .ok (.aload_n 0, 1) := by decide +kernel
theorem dM_unrolled_1 : decode b_M_unrolled 1 = .ok (.iload_n 1, 1) := by decide +kernel
theorem dM_unrolled_2 : decode b_M_unrolled 2 = .ok (.iconst 0, 1) := by decide +kernel
theorem dM_unrolled_3 : decode b_M_unrolled 3 = .ok (.aload_n 0, 1) := by decide +kernel
theorem dM_unrolled_4 : decode b_M_unrolled 4 = .ok (.getfield 125, 3) := by decide +kernel
theorem dM_unrolled_7 : decode b_M_unrolled 7 = .ok (.iconst 1, 1) := by decide +kernel
theorem dM_unrolled_8 : decode b_M_unrolled 8 = .ok (.isub, 1) := by decide +kernel
theorem dM_unrolled_9 : decode b_M_unrolled 9 = .ok (.invokestatic 73, 3) := by decide +kernel
theorem dM_unrolled_12 : decode b_M_unrolled 12 = .ok (.ifCond .ne 7, 3) := by decide +kernel
theorem dM_unrolled_15 : decode b_M_unrolled 15 = .ok (.iconst 1, 1) := by decide +kernel
theorem dM_unrolled_16 : decode b_M_unrolled 16 = .ok (.goto 15, 3) := by decide +kernel
theorem dM_unrolled_19 : decode b_M_unrolled 19 = .ok (.aload_n 0, 1) := by decide +kernel
theorem dM_unrolled_20 : decode b_M_unrolled 20 = .ok (.getfield 81, 3) := by decide +kernel
theorem dM_unrolled_23 : decode b_M_unrolled 23 = .ok (.ifCond .eq 7, 3) := by decide +kernel
theorem dM_unrolled_26 : decode b_M_unrolled 26 = .ok (.iconst 0, 1) := by decide +kernel
theorem dM_unrolled_27 : decode b_M_unrolled 27 = .ok (.goto 4, 3) := by decide +kernel
theorem dM_unrolled_30 : decode b_M_unrolled 30 = .ok (.iconst 2, 1) := by decide +kernel
theorem dM_unrolled_31 : decode b_M_unrolled 31 = .ok (.putfield 70, 3) := by decide +kernel
theorem dM_unrolled_34 : decode b_M_unrolled 34 = .ok (.aload_n 0, 1) := by decide +kernel
theorem dM_unrolled_35 : decode b_M_unrolled 35 = .ok (.getfield 70, 3) := by decide +kernel
theorem dM_unrolled_38 : decode b_M_unrolled 38 = .ok (.ifCond .le 7, 3) := by decide +kernel
theorem dM_unrolled_41 : decode b_M_unrolled 41 = .ok (.iconst 0, 1) := by decide +kernel
theorem dM_unrolled_42 : decode b_M_unrolled 42 = .ok (.goto 8, 3) := by decide +kernel
theorem dM_unrolled_45 : decode b_M_unrolled 45 = .ok (.aload_n 0, 1) := by decide +kernel
theorem dM_unrolled_46 : decode b_M_unrolled 46 = .ok (.iload_n 1, 1) := by decide +kernel
theorem dM_unrolled_47 : decode b_M_unrolled 47 = .ok (.invokevirtual 128, 3) := by decide +kernel
theorem dM_unrolled_50 : decode b_M_unrolled 50 = .ok (.ireturn, 1) := by decide +kernel
theorem dM_leaf_0 : decode b_M_leaf 0 = .ok (.aload_n 0, 1) := by decide +kernel
theorem dM_leaf_1 : decode b_M_leaf 1 = .ok (.iload_n 1, 1) := by decide +kernel
theorem dM_leaf_2 : decode b_M_leaf 2 = .ok (.iconst 1, 1) := by decide +kernel
theorem dM_leaf_3 : decode b_M_leaf 3 = .ok (.sipush 500, 3) := by decide +kernel
theorem dM_leaf_6 : decode b_M_leaf 6 = .ok (.invokestatic 73, 3) := by decide +kernel
theorem dM_leaf_9 : decode b_M_leaf 9 = .ok (.ifCond .eq 13, 3) := by decide +kernel
theorem dM_leaf_12 : decode b_M_leaf 12 = .ok (.iload_n 2, 1) := by decide +kernel
theorem dM_leaf_13 : decode b_M_leaf 13 = .ok (.iconst 0, 1) := by decide +kernel
theorem dM_leaf_14 : decode b_M_leaf 14 = .ok (.ldc 95, 2) := by decide +kernel
theorem dM_leaf_16 : decode b_M_leaf 16 = .ok (.invokestatic 73, 3) := by decide +kernel
theorem dM_leaf_19 : decode b_M_leaf 19 = .ok (.ifCond .ne 7, 3) := by decide +kernel
theorem dM_leaf_22 : decode b_M_leaf 22 = .ok (.iconst 1, 1) := by decide +kernel
theorem dM_leaf_23 : decode b_M_leaf 23 = .ok (.goto 17, 3) := by decide +kernel
theorem dM_leaf_26 : decode b_M_leaf 26 = .ok (.aload_n 0, 1) := by decide +kernel
theorem dM_leaf_27 : decode b_M_leaf 27 = .ok (.getfield 131, 3) := by decide +kernel
theorem dM_leaf_30 : decode b_M_leaf 30 = .ok (.bipush 6, 2) := by decide +kernel
theorem dM_leaf_32 : decode b_M_leaf 32 = .ok (.if_icmp .ne 7, 3) := by decide +kernel
theorem dM_leaf_35 : decode b_M_leaf 35 = .ok (.iconst 2, 1) := by decide +kernel
theorem dM_leaf_36 : decode b_M_leaf 36 = .ok (.goto 4, 3) := by decide +kernel
theorem dM_leaf_39 : decode b_M_leaf 39 = .ok (.iconst 0, 1) := by decide +kernel
theorem dM_leaf_40 : decode b_M_leaf 40 = .ok (.putfield 70, 3) := by decide +kernel
theorem dM_leaf_43 : decode b_M_leaf 43 = .ok (.aload_n 0, 1) := by decide +kernel
theorem dM_leaf_44 : decode b_M_leaf 44 = .ok (.getfield 70, 3) := by decide +kernel
theorem dM_leaf_47 : decode b_M_leaf 47 = .ok (.ifCond .le 5, 3) := by decide +kernel
theorem dM_leaf_50 : decode b_M_leaf 50 = .ok (.iconst 0, 1) := by decide +kernel
theorem dM_leaf_51 : decode b_M_leaf 51 = .ok (.ireturn, 1) := by decide +kernel
theorem dM_leaf_52 : decode b_M_leaf 52 = .ok (.aload_n 0, 1) := by decide +kernel
theorem dM_leaf_53 : decode b_M_leaf 53 = .ok (.getfield 29, 3) := by decide +kernel
theorem dM_leaf_56 : decode b_M_leaf 56 = .ok (.aload_n 0, 1) := by decide +kernel
theorem dM_leaf_57 : decode b_M_leaf 57 = .ok (.getfield 131, 3) := by decide +kernel
theorem dM_leaf_60 : decode b_M_leaf 60 = .ok (.iload_n 1, 1) := by decide +kernel
theorem dM_leaf_61 : decode b_M_leaf 61 = .ok (.iastore, 1) := by decide +kernel
theorem dM_leaf_62 : decode b_M_leaf 62 = .ok (.aload_n 0, 1) := by decide +kernel
theorem dM_leaf_63 : decode b_M_leaf 63 = .ok (.getfield 32, 3) := by decide +kernel
theorem dM_leaf_66 : decode b_M_leaf 66 = .ok (.aload_n 0, 1) := by decide +kernel
theorem dM_leaf_67 : decode b_M_leaf 67 = .ok (.getfield 131, 3) := by decide +kernel
theorem dM_leaf_70 : decode b_M_leaf 70 = .ok (.iload_n 2, 1) := by decide +kernel
theorem dM_leaf_71 : decode b_M_leaf 71 = .ok (.iastore, 1) := by decide +kernel
theorem dM_leaf_72 : decode b_M_leaf 72 = .ok (.aload_n 0, 1) := by decide +kernel
theorem dM_leaf_73 : decode b_M_leaf 73 = .ok (.dup, 1) := by decide +kernel
theorem dM_leaf_74 : decode b_M_leaf 74 = .ok (.getfield 131, 3) := by decide +kernel
theorem dM_leaf_77 : decode b_M_leaf 77 = .ok (.iconst 1, 1) := by decide +kernel
theorem dM_leaf_78 : decode b_M_leaf 78 = .ok (.iadd, 1) := by decide +kernel
theorem dM_leaf_79 : decode b_M_leaf 79 = .ok (.putfield 131, 3) := by decide +kernel
theorem dM_leaf_82 : decode b_M_leaf 82 = .ok (.aload_n 0, 1) := by decide +kernel
theorem dM_leaf_83 : decode b_M_leaf 83 = .ok (.iconst 0, 1) := by decide +kernel
theorem dM_leaf_84 : decode b_M_leaf 84 = .ok (.putfield 84, 3) := by decide +kernel
theorem dM_leaf_87 : decode b_M_leaf 87 = .ok (.aload_n 0, 1) := by decide +kernel
theorem dM_leaf_88 : decode b_M_leaf 88 = .ok (.getfield 131, 3) := by decide +kernel
theorem dM_leaf_91 : decode b_M_leaf 91 = .ok (.iconst 1, 1) := by decide +kernel
theorem dM_leaf_92 : decode b_M_leaf 92 = .ok (.isub, 1) := by decide +kernel
theorem dM_leaf_93 : decode b_M_leaf 93 = .ok (.ireturn, 1) := by decide +kernel
theorem dM_bars_0 : decode b_M_bars 0 = .ok (.aload_n 0, 1) := by decide +kernel
theorem dM_bars_1 : decode b_M_bars 1 = .ok (.iload_n 1, 1) := by decide +kernel
theorem dM_bars_2 : decode b_M_bars 2 = .ok (.iconst 0, 1) := by decide +kernel
theorem dM_bars_3 : decode b_M_bars 3 = .ok (.aload_n 0, 1) := by decide +kernel
theorem dM_bars_4 : decode b_M_bars 4 = .ok (.getfield 131, 3) := by decide +kernel
theorem dM_bars_7 : decode b_M_bars 7 = .ok (.iconst 1, 1) := by decide +kernel
theorem dM_bars_8 : decode b_M_bars 8 = .ok (.isub, 1) := by decide +kernel
theorem dM_bars_9 : decode b_M_bars 9 = .ok (.invokestatic 73, 3) := by decide +kernel
theorem dM_bars_12 : decode b_M_bars 12 = .ok (.ifCond .eq 16, 3) := by decide +kernel
theorem dM_bars_15 : decode b_M_bars 15 = .ok (.iload_n 2, 1) := by decide +kernel
theorem dM_bars_16 : decode b_M_bars 16 = .ok (.iconst 0, 1) := by decide +kernel
theorem dM_bars_17 : decode b_M_bars 17 = .ok (.iconst 3, 1) := by decide +kernel
theorem dM_bars_18 : decode b_M_bars 18 = .ok (.invokestatic 73, 3) := by decide +kernel
theorem dM_bars_21 : decode b_M_bars 21 = .ok (.ifCond .eq 7, 3) := by decide +kernel
theorem dM_bars_24 : decode b_M_bars 24 = .ok (.iconst 0, 1) := by decide +kernel
theorem dM_bars_25 : decode b_M_bars 25 = .ok (.goto 4, 3) := by decide +kernel
theorem dM_bars_28 : decode b_M_bars 28 = .ok (.iconst 1, 1) := by decide +kernel
theorem dM_bars_29 : decode b_M_bars 29 = .ok (.putfield 70, 3) := by decide +kernel
theorem dM_bars_32 : decode b_M_bars 32 = .ok (.aload_n 0, 1) := by decide +kernel
theorem dM_bars_33 : decode b_M_bars 33 = .ok (.getfield 70, 3) := by decide +kernel
theorem dM_bars_36 : decode b_M_bars 36 = .ok (.ifCond .le 5, 3) := by decide +kernel
theorem dM_bars_39 : decode b_M_bars 39 = .ok (.iconst 0, 1) := by decide +kernel
theorem dM_bars_40 : decode b_M_bars 40 = .ok (.ireturn, 1) := by decide +kernel
theorem dM_bars_41 : decode b_M_bars 41 = .ok (.aload_n 0, 1) := by decide +kernel
theorem dM_bars_42 : decode b_M_bars 42 = .ok (.getfield 35, 3) := by decide +kernel
theorem dM_bars_45 : decode b_M_bars 45 = .ok (.iload_n 1, 1) := by decide +kernel
theorem dM_bars_46 : decode b_M_bars 46 = .ok (.iaload, 1) := by decide +kernel
theorem dM_bars_47 : decode b_M_bars 47 = .ok (.iload_n 2, 1) := by decide +kernel
theorem dM_bars_48 : decode b_M_bars 48 = .ok (.ishr, 1) := by decide +kernel
theorem dM_bars_49 : decode b_M_bars 49 = .ok (.iconst 1, 1) := by decide +kernel
theorem dM_bars_50 : decode b_M_bars 50 = .ok (.iand, 1) := by decide +kernel
theorem dM_bars_51 : decode b_M_bars 51 = .ok (.iconst 1, 1) := by decide +kernel
theorem dM_bars_52 : decode b_M_bars 52 = .ok (.if_icmp .ne 7, 3) := by decide +kernel
theorem dM_bars_55 : decode b_M_bars 55 = .ok (.iconst 1, 1) := by decide +kernel
theorem dM_bars_56 : decode b_M_bars 56 = .ok (.goto 4, 3) := by decide +kernel
theorem dM_bars_59 : decode b_M_bars 59 = .ok (.iconst 0, 1) := by decide +kernel
theorem dM_bars_60 : decode b_M_bars 60 = .ok (.iload_n 3, 1) := by decide +kernel
theorem dM_bars_61 : decode b_M_bars 61 = .ok (.if_icmp .eq 7, 3) := by decide +kernel
theorem dM_bars_64 : decode b_M_bars 64 = .ok (.iconst 1, 1) := by decide +kernel
theorem dM_bars_65 : decode b_M_bars 65 = .ok (.goto 4, 3) := by decide +kernel
theorem dM_bars_68 : decode b_M_bars 68 = .ok (.iconst 0, 1) := by decide +kernel
theorem dM_bars_69 : decode b_M_bars 69 = .ok (.istore 4, 2) := by decide +kernel
theorem dM_bars_71 : decode b_M_bars 71 = .ok (.aload_n 0, 1) := by decide +kernel
theorem dM_bars_72 : decode b_M_bars 72 = .ok (.getfield 35, 3) := by decide +kernel
theorem dM_bars_75 : decode b_M_bars 75 = .ok (.iload_n 1, 1) := by decide +kernel
theorem dM_bars_76 : decode b_M_bars 76 = .ok (.iload 4, 2) := by decide +kernel
theorem dM_bars_78 : decode b_M_bars 78 = .ok (.ifCond .eq 16, 3) := by decide +kernel
theorem dM_bars_81 : decode b_M_bars 81 = .ok (.aload_n 0, 1) := by decide +kernel
theorem dM_bars_82 : decode b_M_bars 82 = .ok (.getfield 35, 3) := by decide +kernel
theorem dM_bars_85 : decode b_M_bars 85 = .ok (.iload_n 1, 1) := by decide +kernel
theorem dM_bars_86 : decode b_M_bars 86 = .ok (.iaload, 1) := by decide +kernel
theorem dM_bars_87 : decode b_M_bars 87 = .ok (.iconst 1, 1) := by decide +kernel
theorem dM_bars_88 : decode b_M_bars 88 = .ok (.iload_n 2, 1) := by decide +kernel
theorem dM_bars_89 : decode b_M_bars 89 = .ok (.ishl, 1) := by decide +kernel
theorem dM_bars_90 : decode b_M_bars 90 = .ok (.ixor, 1) := by decide +kernel
theorem dM_bars_91 : decode b_M_bars 91 = .ok (.goto 9, 3) := by decide +kernel
theorem dM_bars_94 : decode b_M_bars 94 = .ok (.aload_n 0, 1) := by decide +kernel
theorem dM_bars_95 : decode b_M_bars 95 = .ok (.getfield 35, 3) := by decide +kernel
theorem dM_bars_98 : decode b_M_bars 98 = .ok (.iload_n 1, 1) := by decide +kernel
theorem dM_bars_99 : decode b_M_bars 99 = .ok (.iaload, 1) := by decide +kernel
theorem dM_bars_100 : decode b_M_bars 100 = .ok (.iastore, 1) := by decide +kernel
theorem dM_bars_101 : decode b_M_bars 101 = .ok (.aload_n 0, 1) := by decide +kernel
theorem dM_bars_102 : decode b_M_bars 102 = .ok (.aload_n 0, 1) := by decide +kernel
theorem dM_bars_103 : decode b_M_bars 103 = .ok (.getfield 84, 3) := by decide +kernel
theorem dM_bars_106 : decode b_M_bars 106 = .ok (.ifCond .eq 12, 3) := by decide +kernel
theorem dM_bars_109 : decode b_M_bars 109 = .ok (.iload 4, 2) := by decide +kernel
theorem dM_bars_111 : decode b_M_bars 111 = .ok (.ifCond .ne 7, 3) := by decide +kernel
theorem dM_bars_114 : decode b_M_bars 114 = .ok (.iconst 1, 1) := by decide +kernel
theorem dM_bars_115 : decode b_M_bars 115 = .ok (.goto 4, 3) := by decide +kernel
theorem dM_bars_118 : decode b_M_bars 118 = .ok (.iconst 0, 1) := by decide +kernel
theorem dM_bars_119 : decode b_M_bars 119 = .ok (.putfield 84, 3) := by decide +kernel
theorem dM_bars_122 : decode b_M_bars 122 = .ok (.iload 4, 2) := by decide +kernel
theorem dM_bars_124 : decode b_M_bars 124 = .ok (.ireturn, 1) := by decide +kernel
theorem dM_fits_0 : decode b_M_fits 0 = .ok (.iload_n 2, 1) := by decide +kernel
theorem dM_fits_1 : decode b_M_fits 1 = .ok (.aload_n 0, 1) := by decide +kernel
theorem dM_fits_2 : decode b_M_fits 2 = .ok (.getfield 29, 3) := by decide +kernel
theorem dM_fits_5 : decode b_M_fits 5 = .ok (.iload_n 1, 1) := by decide +kernel
theorem dM_fits_6 : decode b_M_fits 6 = .ok (.iaload, 1) := by decide +kernel
theorem dM_fits_7 : decode b_M_fits 7 = .ok (.iadd, 1) := by decide +kernel
theorem dM_fits_8 : decode b_M_fits 8 = .ok (.aload_n 0, 1) := by decide +kernel
theorem dM_fits_9 : decode b_M_fits 9 = .ok (.getfield 134, 3) := by decide +kernel
theorem dM_fits_12 : decode b_M_fits 12 = .ok (.if_icmp .gt 7, 3) := by decide +kernel
theorem dM_fits_15 : decode b_M_fits 15 = .ok (.iconst 1, 1) := by decide +kernel
theorem dM_fits_16 : decode b_M_fits 16 = .ok (.goto 4, 3) := by decide +kernel
theorem dM_fits_19 : decode b_M_fits 19 = .ok (.iconst 0, 1) := by decide +kernel
theorem dM_fits_20 : decode b_M_fits 20 = .ok (.istore_n 3, 1) := by decide +kernel
theorem dM_fits_21 : decode b_M_fits 21 = .ok (.iload_n 2, 1) := by decide +kernel
theorem dM_fits_22 : decode b_M_fits 22 = .ok (.istore 4, 2) := by decide +kernel
theorem dM_fits_24 : decode b_M_fits 24 = .ok (.iload_n 3, 1) := by decide +kernel
theorem dM_fits_25 : decode b_M_fits 25 = .ok (.ifCond .eq 45, 3) := by decide +kernel
theorem dM_fits_28 : decode b_M_fits 28 = .ok (.iload 4, 2) := by decide +kernel
theorem dM_fits_30 : decode b_M_fits 30 = .ok (.iload_n 2, 1) := by decide +kernel
theorem dM_fits_31 : decode b_M_fits 31 = .ok (.aload_n 0, 1) := by decide +kernel
theorem dM_fits_32 : decode b_M_fits 32 = .ok (.getfield 29, 3) := by decide +kernel
theorem dM_fits_35 : decode b_M_fits 35 = .ok (.iload_n 1, 1) := by decide +kernel
theorem dM_fits_36 : decode b_M_fits 36 = .ok (.iaload, 1) := by decide +kernel
theorem dM_fits_37 : decode b_M_fits 37 = .ok (.iadd, 1) := by decide +kernel
theorem dM_fits_38 : decode b_M_fits 38 = .ok (.if_icmp .ge 32, 3) := by decide +kernel
theorem dM_fits_41 : decode b_M_fits 41 = .ok (.aload_n 0, 1) := by decide +kernel
theorem dM_fits_42 : decode b_M_fits 42 = .ok (.getfield 38, 3) := by decide +kernel
theorem dM_fits_45 : decode b_M_fits 45 = .ok (.iload 4, 2) := by decide +kernel
theorem dM_fits_47 : decode b_M_fits 47 = .ok (.iaload, 1) := by decide +kernel
theorem dM_fits_48 : decode b_M_fits 48 = .ok (.aload_n 0, 1) := by decide +kernel
theorem dM_fits_49 : decode b_M_fits 49 = .ok (.getfield 35, 3) := by decide +kernel
theorem dM_fits_52 : decode b_M_fits 52 = .ok (.iload_n 1, 1) := by decide +kernel
theorem dM_fits_53 : decode b_M_fits 53 = .ok (.iaload, 1) := by decide +kernel
theorem dM_fits_54 : decode b_M_fits 54 = .ok (.iand, 1) := by decide +kernel
theorem dM_fits_55 : decode b_M_fits 55 = .ok (.ifCond .ne 7, 3) := by decide +kernel
theorem dM_fits_58 : decode b_M_fits 58 = .ok (.iconst 1, 1) := by decide +kernel
theorem dM_fits_59 : decode b_M_fits 59 = .ok (.goto 4, 3) := by decide +kernel
theorem dM_fits_62 : decode b_M_fits 62 = .ok (.iconst 0, 1) := by decide +kernel
theorem dM_fits_63 : decode b_M_fits 63 = .ok (.istore_n 3, 1) := by decide +kernel
theorem dM_fits_64 : decode b_M_fits 64 = .ok (.iinc 4 1, 3) := by decide +kernel
theorem dM_fits_67 : decode b_M_fits 67 = .ok (.goto (-43), 3) := by decide +kernel
theorem dM_fits_70 : decode b_M_fits 70 = .ok (.iload_n 3, 1) := by decide +kernel
theorem dM_fits_71 : decode b_M_fits 71 = .ok (.ireturn, 1) := by decide +kernel
theorem dM_side_0 : decode b_M_side 0 = .ok (.aload_n 0, 1) := by decide +kernel
theorem dM_side_1 : decode b_M_side 1 = .ok (.getfield 32, 3) := by decide +kernel
theorem dM_side_4 : decode b_M_side 4 = .ok (.iload_n 1, 1) := by decide +kernel
theorem dM_side_5 : decode b_M_side 5 = .ok (.iaload, 1) := by decide +kernel
theorem dM_side_6 : decode b_M_side 6 = .ok (.i2l, 1) := by decide +kernel
theorem dM_side_7 : decode b_M_side 7 = .ok (.aload_n 0, 1) := by decide +kernel
theorem dM_side_8 : decode b_M_side 8 = .ok (.getfield 41, 3) := by decide +kernel
theorem dM_side_11 : decode b_M_side 11 = .ok (.iload_n 2, 1) := by decide +kernel
theorem dM_side_12 : decode b_M_side 12 = .ok (.aload_n 0, 1) := by decide +kernel
theorem dM_side_13 : decode b_M_side 13 = .ok (.getfield 29, 3) := by decide +kernel
theorem dM_side_16 : decode b_M_side 16 = .ok (.iload_n 1, 1) := by decide +kernel
theorem dM_side_17 : decode b_M_side 17 = .ok (.iaload, 1) := by decide +kernel
theorem dM_side_18 : decode b_M_side 18 = .ok (.iadd, 1) := by decide +kernel
theorem dM_side_19 : decode b_M_side 19 = .ok (.laload, 1) := by decide +kernel
theorem dM_side_20 : decode b_M_side 20 = .ok (.ladd, 1) := by decide +kernel
theorem dM_side_21 : decode b_M_side 21 = .ok (.lstore_n 3, 1) := by decide +kernel
theorem dM_side_22 : decode b_M_side 22 = .ok (.aload_n 0, 1) := by decide +kernel
theorem dM_side_23 : decode b_M_side 23 = .ok (.getfield 45, 3) := by decide +kernel
theorem dM_side_26 : decode b_M_side 26 = .ok (.iload_n 2, 1) := by decide +kernel
theorem dM_side_27 : decode b_M_side 27 = .ok (.aload_n 0, 1) := by decide +kernel
theorem dM_side_28 : decode b_M_side 28 = .ok (.getfield 29, 3) := by decide +kernel
theorem dM_side_31 : decode b_M_side 31 = .ok (.iload_n 1, 1) := by decide +kernel
theorem dM_side_32 : decode b_M_side 32 = .ok (.iaload, 1) := by decide +kernel
theorem dM_side_33 : decode b_M_side 33 = .ok (.iadd, 1) := by decide +kernel
theorem dM_side_34 : decode b_M_side 34 = .ok (.iaload, 1) := by decide +kernel
theorem dM_side_35 : decode b_M_side 35 = .ok (.istore 5, 2) := by decide +kernel
theorem dM_side_37 : decode b_M_side 37 = .ok (.lload_n 3, 1) := by decide +kernel
theorem dM_side_38 : decode b_M_side 38 = .ok (.aload_n 0, 1) := by decide +kernel
theorem dM_side_39 : decode b_M_side 39 = .ok (.getfield 41, 3) := by decide +kernel
theorem dM_side_42 : decode b_M_side 42 = .ok (.iload_n 2, 1) := by decide +kernel
theorem dM_side_43 : decode b_M_side 43 = .ok (.laload, 1) := by decide +kernel
theorem dM_side_44 : decode b_M_side 44 = .ok (.lcmp, 1) := by decide +kernel
theorem dM_side_45 : decode b_M_side 45 = .ok (.ifCond .eq 22, 3) := by decide +kernel
theorem dM_side_48 : decode b_M_side 48 = .ok (.lload_n 3, 1) := by decide +kernel
theorem dM_side_49 : decode b_M_side 49 = .ok (.aload_n 0, 1) := by decide +kernel
theorem dM_side_50 : decode b_M_side 50 = .ok (.getfield 41, 3) := by decide +kernel
theorem dM_side_53 : decode b_M_side 53 = .ok (.iload_n 2, 1) := by decide +kernel
theorem dM_side_54 : decode b_M_side 54 = .ok (.laload, 1) := by decide +kernel
theorem dM_side_55 : decode b_M_side 55 = .ok (.lcmp, 1) := by decide +kernel
theorem dM_side_56 : decode b_M_side 56 = .ok (.ifCond .le 7, 3) := by decide +kernel
theorem dM_side_59 : decode b_M_side 59 = .ok (.iconst 1, 1) := by decide +kernel
theorem dM_side_60 : decode b_M_side 60 = .ok (.goto 38, 3) := by decide +kernel
theorem dM_side_63 : decode b_M_side 63 = .ok (.iconst (-1), 1) := by decide +kernel
theorem dM_side_64 : decode b_M_side 64 = .ok (.goto 34, 3) := by decide +kernel
theorem dM_side_67 : decode b_M_side 67 = .ok (.iload 5, 2) := by decide +kernel
theorem dM_side_69 : decode b_M_side 69 = .ok (.aload_n 0, 1) := by decide +kernel
theorem dM_side_70 : decode b_M_side 70 = .ok (.getfield 45, 3) := by decide +kernel
theorem dM_side_73 : decode b_M_side 73 = .ok (.iload_n 2, 1) := by decide +kernel
theorem dM_side_74 : decode b_M_side 74 = .ok (.iaload, 1) := by decide +kernel
theorem dM_side_75 : decode b_M_side 75 = .ok (.if_icmp .eq 22, 3) := by decide +kernel
theorem dM_side_78 : decode b_M_side 78 = .ok (.iload 5, 2) := by decide +kernel
theorem dM_side_80 : decode b_M_side 80 = .ok (.aload_n 0, 1) := by decide +kernel
theorem dM_side_81 : decode b_M_side 81 = .ok (.getfield 45, 3) := by decide +kernel
theorem dM_side_84 : decode b_M_side 84 = .ok (.iload_n 2, 1) := by decide +kernel
theorem dM_side_85 : decode b_M_side 85 = .ok (.iaload, 1) := by decide +kernel
theorem dM_side_86 : decode b_M_side 86 = .ok (.if_icmp .ge 7, 3) := by decide +kernel
theorem dM_side_89 : decode b_M_side 89 = .ok (.iconst 1, 1) := by decide +kernel
theorem dM_side_90 : decode b_M_side 90 = .ok (.goto 8, 3) := by decide +kernel
theorem dM_side_93 : decode b_M_side 93 = .ok (.iconst (-1), 1) := by decide +kernel
theorem dM_side_94 : decode b_M_side 94 = .ok (.goto 4, 3) := by decide +kernel
theorem dM_side_97 : decode b_M_side 97 = .ok (.iconst 0, 1) := by decide +kernel
theorem dM_side_98 : decode b_M_side 98 = .ok (.ireturn, 1) := by decide +kernel
theorem dM_clip_0 : decode b_M_clip 0 = .ok (.aload_n 0, 1) := by decide +kernel
theorem dM_clip_1 : decode b_M_clip 1 = .ok (.iload_n 1, 1) := by decide +kernel
theorem dM_clip_2 : decode b_M_clip 2 = .ok (.iconst 1, 1) := by decide +kernel
theorem dM_clip_3 : decode b_M_clip 3 = .ok (.sipush 1000, 3) := by decide +kernel
theorem dM_clip_6 : decode b_M_clip 6 = .ok (.invokestatic 73, 3) := by decide +kernel
theorem dM_clip_9 : decode b_M_clip 9 = .ok (.ifCond .ne 7, 3) := by decide +kernel
theorem dM_clip_12 : decode b_M_clip 12 = .ok (.iconst 1, 1) := by decide +kernel
theorem dM_clip_13 : decode b_M_clip 13 = .ok (.goto 15, 3) := by decide +kernel
theorem dM_clip_16 : decode b_M_clip 16 = .ok (.aload_n 0, 1) := by decide +kernel
theorem dM_clip_17 : decode b_M_clip 17 = .ok (.getfield 81, 3) := by decide +kernel
theorem dM_clip_20 : decode b_M_clip 20 = .ok (.ifCond .eq 7, 3) := by decide +kernel
theorem dM_clip_23 : decode b_M_clip 23 = .ok (.iconst 0, 1) := by decide +kernel
theorem dM_clip_24 : decode b_M_clip 24 = .ok (.goto 4, 3) := by decide +kernel
theorem dM_clip_27 : decode b_M_clip 27 = .ok (.iconst 2, 1) := by decide +kernel
theorem dM_clip_28 : decode b_M_clip 28 = .ok (.putfield 70, 3) := by decide +kernel
theorem dM_clip_31 : decode b_M_clip 31 = .ok (.aload_n 0, 1) := by decide +kernel
theorem dM_clip_32 : decode b_M_clip 32 = .ok (.getfield 70, 3) := by decide +kernel
theorem dM_clip_35 : decode b_M_clip 35 = .ok (.ifCond .le 5, 3) := by decide +kernel
theorem dM_clip_38 : decode b_M_clip 38 = .ok (.iconst 0, 1) := by decide +kernel
theorem dM_clip_39 : decode b_M_clip 39 = .ok (.ireturn, 1) := by decide +kernel
theorem dM_clip_40 : decode b_M_clip 40 = .ok (.aload_n 0, 1) := by decide +kernel
theorem dM_clip_41 : decode b_M_clip 41 = .ok (.aload_n 0, 1) := by decide +kernel
theorem dM_clip_42 : decode b_M_clip 42 = .ok (.aload_n 0, 1) := by decide +kernel
theorem dM_clip_43 : decode b_M_clip 43 = .ok (.getfield 118, 3) := by decide +kernel
theorem dM_clip_46 : decode b_M_clip 46 = .ok (.invokevirtual 121, 3) := by decide +kernel
theorem dM_clip_49 : decode b_M_clip 49 = .ok (.iload_n 1, 1) := by decide +kernel
theorem dM_clip_50 : decode b_M_clip 50 = .ok (.idiv, 1) := by decide +kernel
theorem dM_clip_51 : decode b_M_clip 51 = .ok (.putfield 134, 3) := by decide +kernel
theorem dM_clip_54 : decode b_M_clip 54 = .ok (.aload_n 0, 1) := by decide +kernel
theorem dM_clip_55 : decode b_M_clip 55 = .ok (.aload_n 0, 1) := by decide +kernel
theorem dM_clip_56 : decode b_M_clip 56 = .ok (.getfield 134, 3) := by decide +kernel
theorem dM_clip_59 : decode b_M_clip 59 = .ok (.sipush 2000, 3) := by decide +kernel
theorem dM_clip_62 : decode b_M_clip 62 = .ok (.if_icmp .le 9, 3) := by decide +kernel
theorem dM_clip_65 : decode b_M_clip 65 = .ok (.sipush 2000, 3) := by decide +kernel
theorem dM_clip_68 : decode b_M_clip 68 = .ok (.goto 7, 3) := by decide +kernel
theorem dM_clip_71 : decode b_M_clip 71 = .ok (.aload_n 0, 1) := by decide +kernel
theorem dM_clip_72 : decode b_M_clip 72 = .ok (.getfield 134, 3) := by decide +kernel
theorem dM_clip_75 : decode b_M_clip 75 = .ok (.putfield 134, 3) := by decide +kernel
theorem dM_clip_78 : decode b_M_clip 78 = .ok (.iconst 0, 1) := by decide +kernel
theorem dM_clip_79 : decode b_M_clip 79 = .ok (.istore_n 2, 1) := by decide +kernel
theorem dM_clip_80 : decode b_M_clip 80 = .ok (.iload_n 2, 1) := by decide +kernel
theorem dM_clip_81 : decode b_M_clip 81 = .ok (.sipush 2000, 3) := by decide +kernel
theorem dM_clip_84 : decode b_M_clip 84 = .ok (.if_icmp .gt 16, 3) := by decide +kernel
theorem dM_clip_87 : decode b_M_clip 87 = .ok (.aload_n 0, 1) := by decide +kernel
theorem dM_clip_88 : decode b_M_clip 88 = .ok (.getfield 38, 3) := by decide +kernel
theorem dM_clip_91 : decode b_M_clip 91 = .ok (.iload_n 2, 1) := by decide +kernel
theorem dM_clip_92 : decode b_M_clip 92 = .ok (.iconst 0, 1) := by decide +kernel
theorem dM_clip_93 : decode b_M_clip 93 = .ok (.iastore, 1) := by decide +kernel
theorem dM_clip_94 : decode b_M_clip 94 = .ok (.iinc 2 1, 3) := by decide +kernel
theorem dM_clip_97 : decode b_M_clip 97 = .ok (.goto (-17), 3) := by decide +kernel
theorem dM_clip_100 : decode b_M_clip 100 = .ok (.iconst 0, 1) := by decide +kernel
theorem dM_clip_101 : decode b_M_clip 101 = .ok (.istore_n 2, 1) := by decide +kernel
theorem dM_clip_102 : decode b_M_clip 102 = .ok (.iload_n 2, 1) := by decide +kernel
theorem dM_clip_103 : decode b_M_clip 103 = .ok (.aload_n 0, 1) := by decide +kernel
theorem dM_clip_104 : decode b_M_clip 104 = .ok (.getfield 125, 3) := by decide +kernel
theorem dM_clip_107 : decode b_M_clip 107 = .ok (.if_icmp .ge 48, 3) := by decide +kernel
theorem dM_clip_110 : decode b_M_clip 110 = .ok (.aload_n 0, 1) := by decide +kernel
theorem dM_clip_111 : decode b_M_clip 111 = .ok (.iload_n 2, 1) := by decide +kernel
theorem dM_clip_112 : decode b_M_clip 112 = .ok (.invokevirtual 128, 3) := by decide +kernel
theorem dM_clip_115 : decode b_M_clip 115 = .ok (.istore_n 3, 1) := by decide +kernel
theorem dM_clip_116 : decode b_M_clip 116 = .ok (.iload_n 3, 1) := by decide +kernel
theorem dM_clip_117 : decode b_M_clip 117 = .ok (.iconst (-1), 1) := by decide +kernel
theorem dM_clip_118 : decode b_M_clip 118 = .ok (.if_icmp .eq 31, 3) := by decide +kernel
theorem dM_clip_121 : decode b_M_clip 121 = .ok (.iload_n 3, 1) := by decide +kernel
theorem dM_clip_122 : decode b_M_clip 122 = .ok (.iload_n 1, 1) := by decide +kernel
theorem dM_clip_123 : decode b_M_clip 123 = .ok (.idiv, 1) := by decide +kernel
theorem dM_clip_124 : decode b_M_clip 124 = .ok (.sipush 2000, 3) := by decide +kernel
theorem dM_clip_127 : decode b_M_clip 127 = .ok (.if_icmp .gt 22, 3) := by decide +kernel
theorem dM_clip_130 : decode b_M_clip 130 = .ok (.aload_n 0, 1) := by decide +kernel
theorem dM_clip_131 : decode b_M_clip 131 = .ok (.getfield 38, 3) := by decide +kernel
theorem dM_clip_134 : decode b_M_clip 134 = .ok (.iload_n 3, 1) := by decide +kernel
theorem dM_clip_135 : decode b_M_clip 135 = .ok (.iload_n 1, 1) := by decide +kernel
theorem dM_clip_136 : decode b_M_clip 136 = .ok (.idiv, 1) := by decide +kernel
theorem dM_clip_137 : decode b_M_clip 137 = .ok (.dup2, 1) := by decide +kernel
theorem dM_clip_138 : decode b_M_clip 138 = .ok (.iaload, 1) := by decide +kernel
theorem dM_clip_139 : decode b_M_clip 139 = .ok (.iconst 1, 1) := by decide +kernel
theorem dM_clip_140 : decode b_M_clip 140 = .ok (.aload_n 0, 1) := by decide +kernel
theorem dM_clip_141 : decode b_M_clip 141 = .ok (.getfield 26, 3) := by decide +kernel
theorem dM_clip_144 : decode b_M_clip 144 = .ok (.iload_n 2, 1) := by decide +kernel
theorem dM_clip_145 : decode b_M_clip 145 = .ok (.iaload, 1) := by decide +kernel
theorem dM_clip_146 : decode b_M_clip 146 = .ok (.ishl, 1) := by decide +kernel
theorem dM_clip_147 : decode b_M_clip 147 = .ok (.ior, 1) := by decide +kernel
theorem dM_clip_148 : decode b_M_clip 148 = .ok (.iastore, 1) := by decide +kernel
theorem dM_clip_149 : decode b_M_clip 149 = .ok (.iinc 2 1, 3) := by decide +kernel
theorem dM_clip_152 : decode b_M_clip 152 = .ok (.goto (-50), 3) := by decide +kernel
theorem dM_clip_155 : decode b_M_clip 155 = .ok (.aload_n 0, 1) := by decide +kernel
theorem dM_clip_156 : decode b_M_clip 156 = .ok (.getfield 41, 3) := by decide +kernel
theorem dM_clip_159 : decode b_M_clip 159 = .ok (.aload_n 0, 1) := by decide +kernel
theorem dM_clip_160 : decode b_M_clip 160 = .ok (.getfield 134, 3) := by decide +kernel
theorem dM_clip_163 : decode b_M_clip 163 = .ok (.lconst 0, 1) := by decide +kernel
theorem dM_clip_164 : decode b_M_clip 164 = .ok (.lastore, 1) := by decide +kernel
theorem dM_clip_165 : decode b_M_clip 165 = .ok (.aload_n 0, 1) := by decide +kernel
theorem dM_clip_166 : decode b_M_clip 166 = .ok (.getfield 45, 3) := by decide +kernel
theorem dM_clip_169 : decode b_M_clip 169 = .ok (.aload_n 0, 1) := by decide +kernel
theorem dM_clip_170 : decode b_M_clip 170 = .ok (.getfield 134, 3) := by decide +kernel
theorem dM_clip_173 : decode b_M_clip 173 = .ok (.iconst 0, 1) := by decide +kernel
theorem dM_clip_174 : decode b_M_clip 174 = .ok (.iastore, 1) := by decide +kernel
theorem dM_clip_175 : decode b_M_clip 175 = .ok (.aload_n 0, 1) := by decide +kernel
theorem dM_clip_176 : decode b_M_clip 176 = .ok (.getfield 134, 3) := by decide +kernel
theorem dM_clip_179 : decode b_M_clip 179 = .ok (.iconst 1, 1) := by decide +kernel
theorem dM_clip_180 : decode b_M_clip 180 = .ok (.isub, 1) := by decide +kernel
theorem dM_clip_181 : decode b_M_clip 181 = .ok (.istore_n 2, 1) := by decide +kernel
theorem dM_clip_182 : decode b_M_clip 182 = .ok (.iload_n 2, 1) := by decide +kernel
theorem dM_clip_183 : decode b_M_clip 183 = .ok (.ifCond .lt 119, 3) := by decide +kernel
theorem dM_clip_186 : decode b_M_clip 186 = .ok (.aload_n 0, 1) := by decide +kernel
theorem dM_clip_187 : decode b_M_clip 187 = .ok (.getfield 41, 3) := by decide +kernel
theorem dM_clip_190 : decode b_M_clip 190 = .ok (.iload_n 2, 1) := by decide +kernel
theorem dM_clip_191 : decode b_M_clip 191 = .ok (.aload_n 0, 1) := by decide +kernel
theorem dM_clip_192 : decode b_M_clip 192 = .ok (.getfield 41, 3) := by decide +kernel
theorem dM_clip_195 : decode b_M_clip 195 = .ok (.iload_n 2, 1) := by decide +kernel
theorem dM_clip_196 : decode b_M_clip 196 = .ok (.iconst 1, 1) := by decide +kernel
theorem dM_clip_197 : decode b_M_clip 197 = .ok (.iadd, 1) := by decide +kernel
theorem dM_clip_198 : decode b_M_clip 198 = .ok (.laload, 1) := by decide +kernel
theorem dM_clip_199 : decode b_M_clip 199 = .ok (.lastore, 1) := by decide +kernel
theorem dM_clip_200 : decode b_M_clip 200 = .ok (.aload_n 0, 1) := by decide +kernel
theorem dM_clip_201 : decode b_M_clip 201 = .ok (.getfield 45, 3) := by decide +kernel
