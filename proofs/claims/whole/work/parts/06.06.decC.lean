theorem dC_init_0 : decode b_C_init 0 = .ok (.aload_n 0, 1) := by decide +kernel
theorem dC_init_1 : decode b_C_init 1 = .ok (.invokespecial 5, 3) := by decide +kernel
theorem dC_init_4 : decode b_C_init 4 = .ok (.aload_n 0, 1) := by decide +kernel
theorem dC_init_5 : decode b_C_init 5 = .ok (.sipush 2000, 3) := by decide +kernel
theorem dC_init_8 : decode b_C_init 8 = .ok (.newarray .int, 2) := by decide +kernel
theorem dC_init_10 : decode b_C_init 10 = .ok (.putfield 11, 3) := by decide +kernel
theorem dC_init_13 : decode b_C_init 13 = .ok (.aload_n 0, 1) := by decide +kernel
theorem dC_init_14 : decode b_C_init 14 = .ok (.sipush 2001, 3) := by decide +kernel
theorem dC_init_17 : decode b_C_init 17 = .ok (.newarray .long, 2) := by decide +kernel
theorem dC_init_19 : decode b_C_init 19 = .ok (.putfield 15, 3) := by decide +kernel
theorem dC_init_22 : decode b_C_init 22 = .ok (.aload_n 0, 1) := by decide +kernel
theorem dC_init_23 : decode b_C_init 23 = .ok (.sipush 2000, 3) := by decide +kernel
theorem dC_init_26 : decode b_C_init 26 = .ok (.newarray .int, 2) := by decide +kernel
theorem dC_init_28 : decode b_C_init 28 = .ok (.putfield 19, 3) := by decide +kernel
theorem dC_init_31 : decode b_C_init 31 = .ok (.aload_n 0, 1) := by decide +kernel
theorem dC_init_32 : decode b_C_init 32 = .ok (.sipush 2000, 3) := by decide +kernel
theorem dC_init_35 : decode b_C_init 35 = .ok (.newarray .int, 2) := by decide +kernel
theorem dC_init_37 : decode b_C_init 37 = .ok (.putfield 22, 3) := by decide +kernel
theorem dC_init_40 : decode b_C_init 40 = .ok (.aload_n 0, 1) := by decide +kernel
theorem dC_init_41 : decode b_C_init 41 = .ok (.bipush 6, 2) := by decide +kernel
theorem dC_init_43 : decode b_C_init 43 = .ok (.newarray .int, 2) := by decide +kernel
theorem dC_init_45 : decode b_C_init 45 = .ok (.putfield 27, 3) := by decide +kernel
theorem dC_init_48 : decode b_C_init 48 = .ok (.return_, 1) := by decide +kernel
theorem dC_forget_0 : decode b_C_forget 0 = .ok (.aload_n 0, 1) := by decide +kernel
theorem dC_forget_1 : decode b_C_forget 1 = .ok (.iconst 0, 1) := by decide +kernel
theorem dC_forget_2 : decode b_C_forget 2 = .ok (.putfield 30, 3) := by decide +kernel
theorem dC_forget_5 : decode b_C_forget 5 = .ok (.return_, 1) := by decide +kernel
theorem dC_isDone_0 : decode b_C_isDone 0 = .ok (.aload_n 0, 1) := by decide +kernel
theorem dC_isDone_1 : decode b_C_isDone 1 = .ok (.getfield 30, 3) := by decide +kernel
theorem dC_isDone_4 : decode b_C_isDone 4 = .ok (.ireturn, 1) := by decide +kernel
theorem dC_count_0 : decode b_C_count 0 = .ok (.aload_n 0, 1) := by decide +kernel
theorem dC_count_1 : decode b_C_count 1 = .ok (.getfield 34, 3) := by decide +kernel
theorem dC_count_4 : decode b_C_count 4 = .ok (.ireturn, 1) := by decide +kernel
theorem dC_worth_0 : decode b_C_worth 0 = .ok (.aload_n 0, 1) := by decide +kernel
theorem dC_worth_1 : decode b_C_worth 1 = .ok (.getfield 38, 3) := by decide +kernel
theorem dC_worth_4 : decode b_C_worth 4 = .ok (.ireturn, 1) := by decide +kernel
theorem dC_waste_0 : decode b_C_waste 0 = .ok (.aload_n 0, 1) := by decide +kernel
theorem dC_waste_1 : decode b_C_waste 1 = .ok (.getfield 41, 3) := by decide +kernel
theorem dC_waste_4 : decode b_C_waste 4 = .ok (.ireturn, 1) := by decide +kernel
theorem dC_steps_0 : decode b_C_steps 0 = .ok (.aload_n 0, 1) := by decide +kernel
theorem dC_steps_1 : decode b_C_steps 1 = .ok (.getfield 44, 3) := by decide +kernel
theorem dC_steps_4 : decode b_C_steps 4 = .ok (.ireturn, 1) := by decide +kernel
theorem dC_leafOf_0 : decode b_C_leafOf 0 = .ok (.aload_n 0, 1) := by decide +kernel
theorem dC_leafOf_1 : decode b_C_leafOf 1 = .ok (.getfield 19, 3) := by decide +kernel
theorem dC_leafOf_4 : decode b_C_leafOf 4 = .ok (.aload_n 0, 1) := by decide +kernel
theorem dC_leafOf_5 : decode b_C_leafOf 5 = .ok (.getfield 22, 3) := by decide +kernel
theorem dC_leafOf_8 : decode b_C_leafOf 8 = .ok (.iload_n 1, 1) := by decide +kernel
theorem dC_leafOf_9 : decode b_C_leafOf 9 = .ok (.iaload, 1) := by decide +kernel
theorem dC_leafOf_10 : decode b_C_leafOf 10 = .ok (.iaload, 1) := by decide +kernel
theorem dC_leafOf_11 : decode b_C_leafOf 11 = .ok (.ireturn, 1) := by decide +kernel
theorem dC_firstStepOf_0 : decode b_C_firstStepOf 0 = .ok (.aload_n 0, 1) := by decide +kernel
theorem dC_firstStepOf_1 : decode b_C_firstStepOf 1 = .ok (.getfield 22, 3) := by decide +kernel
theorem dC_firstStepOf_4 : decode b_C_firstStepOf 4 = .ok (.iload_n 1, 1) := by decide +kernel
theorem dC_firstStepOf_5 : decode b_C_firstStepOf 5 = .ok (.iaload, 1) := by decide +kernel
theorem dC_firstStepOf_6 : decode b_C_firstStepOf 6 = .ok (.ireturn, 1) := by decide +kernel
theorem dC_cut_0 : decode b_C_cut 0 = .ok (.iconst 1, 1) := by decide +kernel
theorem dC_cut_1 : decode b_C_cut 1 = .ok (.iload 4, 2) := by decide +kernel
theorem dC_cut_3 : decode b_C_cut 3 = .ok (.invokestatic 47, 3) := by decide +kernel
theorem dC_cut_6 : decode b_C_cut 6 = .ok (.istore 5, 2) := by decide +kernel
theorem dC_cut_8 : decode b_C_cut 8 = .ok (.aload_n 0, 1) := by decide +kernel
theorem dC_cut_9 : decode b_C_cut 9 = .ok (.sipush 2000, 3) := by decide +kernel
theorem dC_cut_12 : decode b_C_cut 12 = .ok (.aload_n 1, 1) := by decide +kernel
theorem dC_cut_13 : decode b_C_cut 13 = .ok (.invokevirtual 53, 3) := by decide +kernel
theorem dC_cut_16 : decode b_C_cut 16 = .ok (.iload 5, 2) := by decide +kernel
theorem dC_cut_18 : decode b_C_cut 18 = .ok (.idiv, 1) := by decide +kernel
theorem dC_cut_19 : decode b_C_cut 19 = .ok (.invokestatic 59, 3) := by decide +kernel
theorem dC_cut_22 : decode b_C_cut 22 = .ok (.putfield 44, 3) := by decide +kernel
theorem dC_cut_25 : decode b_C_cut 25 = .ok (.aload_n 0, 1) := by decide +kernel
theorem dC_cut_26 : decode b_C_cut 26 = .ok (.aload_n 1, 1) := by decide +kernel
theorem dC_cut_27 : decode b_C_cut 27 = .ok (.aload_n 2, 1) := by decide +kernel
theorem dC_cut_28 : decode b_C_cut 28 = .ok (.iload 5, 2) := by decide +kernel
theorem dC_cut_30 : decode b_C_cut 30 = .ok (.invokevirtual 62, 3) := by decide +kernel
theorem dC_cut_33 : decode b_C_cut 33 = .ok (.aload_n 0, 1) := by decide +kernel
theorem dC_cut_34 : decode b_C_cut 34 = .ok (.aload_n 3, 1) := by decide +kernel
theorem dC_cut_35 : decode b_C_cut 35 = .ok (.invokevirtual 66, 3) := by decide +kernel
theorem dC_cut_38 : decode b_C_cut 38 = .ok (.aload_n 0, 1) := by decide +kernel
theorem dC_cut_39 : decode b_C_cut 39 = .ok (.aload_n 3, 1) := by decide +kernel
theorem dC_cut_40 : decode b_C_cut 40 = .ok (.invokevirtual 70, 3) := by decide +kernel
theorem dC_cut_43 : decode b_C_cut 43 = .ok (.aload_n 0, 1) := by decide +kernel
theorem dC_cut_44 : decode b_C_cut 44 = .ok (.iconst 1, 1) := by decide +kernel
theorem dC_cut_45 : decode b_C_cut 45 = .ok (.putfield 30, 3) := by decide +kernel
theorem dC_cut_48 : decode b_C_cut 48 = .ok (.return_, 1) := by decide +kernel
theorem dC_markFaults_0 : decode b_C_markFaults 0 = .ok (.iconst 0, 1) := by decide +kernel
theorem dC_markFaults_1 : decode b_C_markFaults 1 = .ok (.istore 4, 2) := by decide +kernel
theorem dC_markFaults_3 : decode b_C_markFaults 3 = .ok (.iload 4, 2) := by decide +kernel
theorem dC_markFaults_5 : decode b_C_markFaults 5 = .ok (.aload_n 0, 1) := by decide +kernel
theorem dC_markFaults_6 : decode b_C_markFaults 6 = .ok (.getfield 44, 3) := by decide +kernel
theorem dC_markFaults_9 : decode b_C_markFaults 9 = .ok (.if_icmp .ge 17, 3) := by decide +kernel
theorem dC_markFaults_12 : decode b_C_markFaults 12 = .ok (.aload_n 0, 1) := by decide +kernel
theorem dC_markFaults_13 : decode b_C_markFaults 13 = .ok (.getfield 11, 3) := by decide +kernel
theorem dC_markFaults_16 : decode b_C_markFaults 16 = .ok (.iload 4, 2) := by decide +kernel
theorem dC_markFaults_18 : decode b_C_markFaults 18 = .ok (.iconst 0, 1) := by decide +kernel
theorem dC_markFaults_19 : decode b_C_markFaults 19 = .ok (.iastore, 1) := by decide +kernel
theorem dC_markFaults_20 : decode b_C_markFaults 20 = .ok (.iinc 4 1, 3) := by decide +kernel
theorem dC_markFaults_23 : decode b_C_markFaults 23 = .ok (.goto (-20), 3) := by decide +kernel
theorem dC_markFaults_26 : decode b_C_markFaults 26 = .ok (.iconst 0, 1) := by decide +kernel
theorem dC_markFaults_27 : decode b_C_markFaults 27 = .ok (.istore 4, 2) := by decide +kernel
theorem dC_markFaults_29 : decode b_C_markFaults 29 = .ok (.iload 4, 2) := by decide +kernel
theorem dC_markFaults_31 : decode b_C_markFaults 31 = .ok (.aload_n 2, 1) := by decide +kernel
theorem dC_markFaults_32 : decode b_C_markFaults 32 = .ok (.invokevirtual 73, 3) := by decide +kernel
theorem dC_markFaults_35 : decode b_C_markFaults 35 = .ok (.if_icmp .ge 53, 3) := by decide +kernel
theorem dC_markFaults_38 : decode b_C_markFaults 38 = .ok (.aload_n 2, 1) := by decide +kernel
theorem dC_markFaults_39 : decode b_C_markFaults 39 = .ok (.aload_n 1, 1) := by decide +kernel
theorem dC_markFaults_40 : decode b_C_markFaults 40 = .ok (.iload 4, 2) := by decide +kernel
theorem dC_markFaults_42 : decode b_C_markFaults 42 = .ok (.invokevirtual 77, 3) := by decide +kernel
theorem dC_markFaults_45 : decode b_C_markFaults 45 = .ok (.istore 5, 2) := by decide +kernel
theorem dC_markFaults_47 : decode b_C_markFaults 47 = .ok (.iload 5, 2) := by decide +kernel
theorem dC_markFaults_49 : decode b_C_markFaults 49 = .ok (.iconst (-1), 1) := by decide +kernel
theorem dC_markFaults_50 : decode b_C_markFaults 50 = .ok (.if_icmp .eq 32, 3) := by decide +kernel
theorem dC_markFaults_53 : decode b_C_markFaults 53 = .ok (.iload 5, 2) := by decide +kernel
theorem dC_markFaults_55 : decode b_C_markFaults 55 = .ok (.iload_n 3, 1) := by decide +kernel
theorem dC_markFaults_56 : decode b_C_markFaults 56 = .ok (.idiv, 1) := by decide +kernel
theorem dC_markFaults_57 : decode b_C_markFaults 57 = .ok (.aload_n 0, 1) := by decide +kernel
theorem dC_markFaults_58 : decode b_C_markFaults 58 = .ok (.getfield 44, 3) := by decide +kernel
theorem dC_markFaults_61 : decode b_C_markFaults 61 = .ok (.if_icmp .ge 21, 3) := by decide +kernel
theorem dC_markFaults_64 : decode b_C_markFaults 64 = .ok (.aload_n 0, 1) := by decide +kernel
theorem dC_markFaults_65 : decode b_C_markFaults 65 = .ok (.getfield 11, 3) := by decide +kernel
theorem dC_markFaults_68 : decode b_C_markFaults 68 = .ok (.iload 5, 2) := by decide +kernel
theorem dC_markFaults_70 : decode b_C_markFaults 70 = .ok (.iload_n 3, 1) := by decide +kernel
theorem dC_markFaults_71 : decode b_C_markFaults 71 = .ok (.idiv, 1) := by decide +kernel
theorem dC_markFaults_72 : decode b_C_markFaults 72 = .ok (.dup2, 1) := by decide +kernel
theorem dC_markFaults_73 : decode b_C_markFaults 73 = .ok (.iaload, 1) := by decide +kernel
theorem dC_markFaults_74 : decode b_C_markFaults 74 = .ok (.aload_n 2, 1) := by decide +kernel
theorem dC_markFaults_75 : decode b_C_markFaults 75 = .ok (.iload 4, 2) := by decide +kernel
theorem dC_markFaults_77 : decode b_C_markFaults 77 = .ok (.invokevirtual 81, 3) := by decide +kernel
theorem dC_markFaults_80 : decode b_C_markFaults 80 = .ok (.ior, 1) := by decide +kernel
theorem dC_markFaults_81 : decode b_C_markFaults 81 = .ok (.iastore, 1) := by decide +kernel
theorem dC_markFaults_82 : decode b_C_markFaults 82 = .ok (.iinc 4 1, 3) := by decide +kernel
theorem dC_markFaults_85 : decode b_C_markFaults 85 = .ok (.goto (-56), 3) := by decide +kernel
theorem dC_markFaults_88 : decode b_C_markFaults 88 = .ok (.return_, 1) := by decide +kernel
theorem dC_chooseFromTheEnd_0 : decode b_C_chooseFromTheEnd 0 = .ok (.iconst 0, 1) := by decide +kernel
theorem dC_chooseFromTheEnd_1 : decode b_C_chooseFromTheEnd 1 = .ok (.istore_n 2, 1) := by decide +kernel
theorem dC_chooseFromTheEnd_2 : decode b_C_chooseFromTheEnd 2 = .ok (.iload_n 2, 1) := by decide +kernel
theorem dC_chooseFromTheEnd_3 : decode b_C_chooseFromTheEnd 3 = .ok (.aload_n 1, 1) := by decide +kernel
theorem dC_chooseFromTheEnd_4 : decode b_C_chooseFromTheEnd 4 = .ok (.invokevirtual 85, 3) := by decide +kernel
theorem dC_chooseFromTheEnd_7 : decode b_C_chooseFromTheEnd 7 = .ok (.if_icmp .ge 19, 3) := by decide +kernel
theorem dC_chooseFromTheEnd_10 : decode b_C_chooseFromTheEnd 10 = .ok (.aload_n 0, 1) := by decide +kernel
theorem dC_chooseFromTheEnd_11 : decode b_C_chooseFromTheEnd 11 = .ok (.getfield 27, 3) := by decide +kernel
theorem dC_chooseFromTheEnd_14 : decode b_C_chooseFromTheEnd 14 = .ok (.iload_n 2, 1) := by decide +kernel
theorem dC_chooseFromTheEnd_15 : decode b_C_chooseFromTheEnd 15 = .ok (.aload_n 0, 1) := by decide +kernel
theorem dC_chooseFromTheEnd_16 : decode b_C_chooseFromTheEnd 16 = .ok (.getfield 44, 3) := by decide +kernel
theorem dC_chooseFromTheEnd_19 : decode b_C_chooseFromTheEnd 19 = .ok (.iastore, 1) := by decide +kernel
theorem dC_chooseFromTheEnd_20 : decode b_C_chooseFromTheEnd 20 = .ok (.iinc 2 1, 3) := by decide +kernel
theorem dC_chooseFromTheEnd_23 : decode b_C_chooseFromTheEnd 23 = .ok (.goto (-21), 3) := by decide +kernel
theorem dC_chooseFromTheEnd_26 : decode b_C_chooseFromTheEnd 26 = .ok (.aload_n 0, 1) := by decide +kernel
theorem dC_chooseFromTheEnd_27 : decode b_C_chooseFromTheEnd 27 = .ok (.getfield 15, 3) := by decide +kernel
theorem dC_chooseFromTheEnd_30 : decode b_C_chooseFromTheEnd 30 = .ok (.aload_n 0, 1) := by decide +kernel
theorem dC_chooseFromTheEnd_31 : decode b_C_chooseFromTheEnd 31 = .ok (.getfield 44, 3) := by decide +kernel
theorem dC_chooseFromTheEnd_34 : decode b_C_chooseFromTheEnd 34 = .ok (.lconst 0, 1) := by decide +kernel
theorem dC_chooseFromTheEnd_35 : decode b_C_chooseFromTheEnd 35 = .ok (.lastore, 1) := by decide +kernel
theorem dC_chooseFromTheEnd_36 : decode b_C_chooseFromTheEnd 36 = .ok (.aload_n 0, 1) := by decide +kernel
theorem dC_chooseFromTheEnd_37 : decode b_C_chooseFromTheEnd 37 = .ok (.getfield 44, 3) := by decide +kernel
theorem dC_chooseFromTheEnd_40 : decode b_C_chooseFromTheEnd 40 = .ok (.iconst 1, 1) := by decide +kernel
theorem dC_chooseFromTheEnd_41 : decode b_C_chooseFromTheEnd 41 = .ok (.isub, 1) := by decide +kernel
theorem dC_chooseFromTheEnd_42 : decode b_C_chooseFromTheEnd 42 = .ok (.istore_n 2, 1) := by decide +kernel
theorem dC_chooseFromTheEnd_43 : decode b_C_chooseFromTheEnd 43 = .ok (.iload_n 2, 1) := by decide +kernel
theorem dC_chooseFromTheEnd_44 : decode b_C_chooseFromTheEnd 44 = .ok (.ifCond .lt 15, 3) := by decide +kernel
theorem dC_chooseFromTheEnd_47 : decode b_C_chooseFromTheEnd 47 = .ok (.aload_n 0, 1) := by decide +kernel
theorem dC_chooseFromTheEnd_48 : decode b_C_chooseFromTheEnd 48 = .ok (.iload_n 2, 1) := by decide +kernel
theorem dC_chooseFromTheEnd_49 : decode b_C_chooseFromTheEnd 49 = .ok (.aload_n 1, 1) := by decide +kernel
theorem dC_chooseFromTheEnd_50 : decode b_C_chooseFromTheEnd 50 = .ok (.invokevirtual 86, 3) := by decide +kernel
theorem dC_chooseFromTheEnd_53 : decode b_C_chooseFromTheEnd 53 = .ok (.iinc 2 (-1), 3) := by decide +kernel
theorem dC_chooseFromTheEnd_56 : decode b_C_chooseFromTheEnd 56 = .ok (.goto (-13), 3) := by decide +kernel
theorem dC_chooseFromTheEnd_59 : decode b_C_chooseFromTheEnd 59 = .ok (.return_, 1) := by decide +kernel
theorem dC_chooseAt_0 : decode b_C_chooseAt 0 = .ok (.aload_n 0, 1) := by decide +kernel
theorem dC_chooseAt_1 : decode b_C_chooseAt 1 = .ok (.getfield 15, 3) := by decide +kernel
theorem dC_chooseAt_4 : decode b_C_chooseAt 4 = .ok (.iload_n 1, 1) := by decide +kernel
theorem dC_chooseAt_5 : decode b_C_chooseAt 5 = .ok (.aload_n 0, 1) := by decide +kernel
theorem dC_chooseAt_6 : decode b_C_chooseAt 6 = .ok (.getfield 15, 3) := by decide +kernel
theorem dC_chooseAt_9 : decode b_C_chooseAt 9 = .ok (.iload_n 1, 1) := by decide +kernel
theorem dC_chooseAt_10 : decode b_C_chooseAt 10 = .ok (.iconst 1, 1) := by decide +kernel
theorem dC_chooseAt_11 : decode b_C_chooseAt 11 = .ok (.iadd, 1) := by decide +kernel
theorem dC_chooseAt_12 : decode b_C_chooseAt 12 = .ok (.laload, 1) := by decide +kernel
theorem dC_chooseAt_13 : decode b_C_chooseAt 13 = .ok (.lconst 1, 1) := by decide +kernel
theorem dC_chooseAt_14 : decode b_C_chooseAt 14 = .ok (.lsub, 1) := by decide +kernel
theorem dC_chooseAt_15 : decode b_C_chooseAt 15 = .ok (.lastore, 1) := by decide +kernel
theorem dC_chooseAt_16 : decode b_C_chooseAt 16 = .ok (.aload_n 0, 1) := by decide +kernel
theorem dC_chooseAt_17 : decode b_C_chooseAt 17 = .ok (.getfield 19, 3) := by decide +kernel
theorem dC_chooseAt_20 : decode b_C_chooseAt 20 = .ok (.iload_n 1, 1) := by decide +kernel
theorem dC_chooseAt_21 : decode b_C_chooseAt 21 = .ok (.iconst (-1), 1) := by decide +kernel
theorem dC_chooseAt_22 : decode b_C_chooseAt 22 = .ok (.iastore, 1) := by decide +kernel
theorem dC_chooseAt_23 : decode b_C_chooseAt 23 = .ok (.aload_n 2, 1) := by decide +kernel
theorem dC_chooseAt_24 : decode b_C_chooseAt 24 = .ok (.invokevirtual 85, 3) := by decide +kernel
theorem dC_chooseAt_27 : decode b_C_chooseAt 27 = .ok (.iconst 1, 1) := by decide +kernel
theorem dC_chooseAt_28 : decode b_C_chooseAt 28 = .ok (.isub, 1) := by decide +kernel
theorem dC_chooseAt_29 : decode b_C_chooseAt 29 = .ok (.istore_n 3, 1) := by decide +kernel
theorem dC_chooseAt_30 : decode b_C_chooseAt 30 = .ok (.iload_n 3, 1) := by decide +kernel
theorem dC_chooseAt_31 : decode b_C_chooseAt 31 = .ok (.ifCond .lt 74, 3) := by decide +kernel
theorem dC_chooseAt_34 : decode b_C_chooseAt 34 = .ok (.aload_n 2, 1) := by decide +kernel
theorem dC_chooseAt_35 : decode b_C_chooseAt 35 = .ok (.iload_n 3, 1) := by decide +kernel
theorem dC_chooseAt_36 : decode b_C_chooseAt 36 = .ok (.aload_n 0, 1) := by decide +kernel
theorem dC_chooseAt_37 : decode b_C_chooseAt 37 = .ok (.getfield 11, 3) := by decide +kernel
theorem dC_chooseAt_40 : decode b_C_chooseAt 40 = .ok (.iload_n 1, 1) := by decide +kernel
theorem dC_chooseAt_41 : decode b_C_chooseAt 41 = .ok (.iaload, 1) := by decide +kernel
theorem dC_chooseAt_42 : decode b_C_chooseAt 42 = .ok (.invokevirtual 90, 3) := by decide +kernel
theorem dC_chooseAt_45 : decode b_C_chooseAt 45 = .ok (.ifCond .eq 10, 3) := by decide +kernel
theorem dC_chooseAt_48 : decode b_C_chooseAt 48 = .ok (.aload_n 0, 1) := by decide +kernel
theorem dC_chooseAt_49 : decode b_C_chooseAt 49 = .ok (.getfield 27, 3) := by decide +kernel
theorem dC_chooseAt_52 : decode b_C_chooseAt 52 = .ok (.iload_n 3, 1) := by decide +kernel
theorem dC_chooseAt_53 : decode b_C_chooseAt 53 = .ok (.iload_n 1, 1) := by decide +kernel
theorem dC_chooseAt_54 : decode b_C_chooseAt 54 = .ok (.iastore, 1) := by decide +kernel
theorem dC_chooseAt_55 : decode b_C_chooseAt 55 = .ok (.iload_n 1, 1) := by decide +kernel
theorem dC_chooseAt_56 : decode b_C_chooseAt 56 = .ok (.aload_n 2, 1) := by decide +kernel
theorem dC_chooseAt_57 : decode b_C_chooseAt 57 = .ok (.iload_n 3, 1) := by decide +kernel
theorem dC_chooseAt_58 : decode b_C_chooseAt 58 = .ok (.invokevirtual 94, 3) := by decide +kernel
theorem dC_chooseAt_61 : decode b_C_chooseAt 61 = .ok (.iadd, 1) := by decide +kernel
theorem dC_chooseAt_62 : decode b_C_chooseAt 62 = .ok (.istore 4, 2) := by decide +kernel
theorem dC_chooseAt_64 : decode b_C_chooseAt 64 = .ok (.iload 4, 2) := by decide +kernel
theorem dC_chooseAt_66 : decode b_C_chooseAt 66 = .ok (.aload_n 0, 1) := by decide +kernel
theorem dC_chooseAt_67 : decode b_C_chooseAt 67 = .ok (.getfield 27, 3) := by decide +kernel
theorem dC_chooseAt_70 : decode b_C_chooseAt 70 = .ok (.iload_n 3, 1) := by decide +kernel
theorem dC_chooseAt_71 : decode b_C_chooseAt 71 = .ok (.iaload, 1) := by decide +kernel
theorem dC_chooseAt_72 : decode b_C_chooseAt 72 = .ok (.if_icmp .gt 27, 3) := by decide +kernel
theorem dC_chooseAt_75 : decode b_C_chooseAt 75 = .ok (.aload_n 0, 1) := by decide +kernel
theorem dC_chooseAt_76 : decode b_C_chooseAt 76 = .ok (.iload_n 1, 1) := by decide +kernel
theorem dC_chooseAt_77 : decode b_C_chooseAt 77 = .ok (.iload_n 3, 1) := by decide +kernel
theorem dC_chooseAt_78 : decode b_C_chooseAt 78 = .ok (.aload_n 2, 1) := by decide +kernel
theorem dC_chooseAt_79 : decode b_C_chooseAt 79 = .ok (.iload_n 3, 1) := by decide +kernel
theorem dC_chooseAt_80 : decode b_C_chooseAt 80 = .ok (.invokevirtual 97, 3) := by decide +kernel
theorem dC_chooseAt_83 : decode b_C_chooseAt 83 = .ok (.i2l, 1) := by decide +kernel
theorem dC_chooseAt_84 : decode b_C_chooseAt 84 = .ok (.ldc2_w 99, 3) := by decide +kernel
theorem dC_chooseAt_87 : decode b_C_chooseAt 87 = .ok (.lmul, 1) := by decide +kernel
theorem dC_chooseAt_88 : decode b_C_chooseAt 88 = .ok (.aload_n 0, 1) := by decide +kernel
theorem dC_chooseAt_89 : decode b_C_chooseAt 89 = .ok (.getfield 15, 3) := by decide +kernel
theorem dC_chooseAt_92 : decode b_C_chooseAt 92 = .ok (.iload 4, 2) := by decide +kernel
theorem dC_chooseAt_94 : decode b_C_chooseAt 94 = .ok (.laload, 1) := by decide +kernel
theorem dC_chooseAt_95 : decode b_C_chooseAt 95 = .ok (.ladd, 1) := by decide +kernel
theorem dC_chooseAt_96 : decode b_C_chooseAt 96 = .ok (.invokevirtual 101, 3) := by decide +kernel
theorem dC_chooseAt_99 : decode b_C_chooseAt 99 = .ok (.iinc 3 (-1), 3) := by decide +kernel
theorem dC_chooseAt_102 : decode b_C_chooseAt 102 = .ok (.goto (-72), 3) := by decide +kernel
theorem dC_chooseAt_105 : decode b_C_chooseAt 105 = .ok (.return_, 1) := by decide +kernel
theorem dC_tryLeaf_0 : decode b_C_tryLeaf 0 = .ok (.lload_n 3, 1) := by decide +kernel
theorem dC_tryLeaf_1 : decode b_C_tryLeaf 1 = .ok (.aload_n 0, 1) := by decide +kernel
theorem dC_tryLeaf_2 : decode b_C_tryLeaf 2 = .ok (.getfield 15, 3) := by decide +kernel
theorem dC_tryLeaf_5 : decode b_C_tryLeaf 5 = .ok (.iload_n 1, 1) := by decide +kernel
theorem dC_tryLeaf_6 : decode b_C_tryLeaf 6 = .ok (.laload, 1) := by decide +kernel
theorem dC_tryLeaf_7 : decode b_C_tryLeaf 7 = .ok (.lcmp, 1) := by decide +kernel
theorem dC_tryLeaf_8 : decode b_C_tryLeaf 8 = .ok (.ifCond .lt 17, 3) := by decide +kernel
theorem dC_tryLeaf_11 : decode b_C_tryLeaf 11 = .ok (.aload_n 0, 1) := by decide +kernel
theorem dC_tryLeaf_12 : decode b_C_tryLeaf 12 = .ok (.getfield 15, 3) := by decide +kernel
theorem dC_tryLeaf_15 : decode b_C_tryLeaf 15 = .ok (.iload_n 1, 1) := by decide +kernel
theorem dC_tryLeaf_16 : decode b_C_tryLeaf 16 = .ok (.lload_n 3, 1) := by decide +kernel
theorem dC_tryLeaf_17 : decode b_C_tryLeaf 17 = .ok (.lastore, 1) := by decide +kernel
theorem dC_tryLeaf_18 : decode b_C_tryLeaf 18 = .ok (.aload_n 0, 1) := by decide +kernel
theorem dC_tryLeaf_19 : decode b_C_tryLeaf 19 = .ok (.getfield 19, 3) := by decide +kernel
theorem dC_tryLeaf_22 : decode b_C_tryLeaf 22 = .ok (.iload_n 1, 1) := by decide +kernel
theorem dC_tryLeaf_23 : decode b_C_tryLeaf 23 = .ok (.iload_n 2, 1) := by decide +kernel
theorem dC_tryLeaf_24 : decode b_C_tryLeaf 24 = .ok (.iastore, 1) := by decide +kernel
theorem dC_tryLeaf_25 : decode b_C_tryLeaf 25 = .ok (.return_, 1) := by decide +kernel
theorem dC_listFromTheBegin_0 : decode b_C_listFromTheBegin 0 = .ok (.aload_n 0, 1) := by decide +kernel
theorem dC_listFromTheBegin_1 : decode b_C_listFromTheBegin 1 = .ok (.iconst 0, 1) := by decide +kernel
theorem dC_listFromTheBegin_2 : decode b_C_listFromTheBegin 2 = .ok (.putfield 34, 3) := by decide +kernel
theorem dC_listFromTheBegin_5 : decode b_C_listFromTheBegin 5 = .ok (.aload_n 0, 1) := by decide +kernel
theorem dC_listFromTheBegin_6 : decode b_C_listFromTheBegin 6 = .ok (.iconst 0, 1) := by decide +kernel
theorem dC_listFromTheBegin_7 : decode b_C_listFromTheBegin 7 = .ok (.putfield 38, 3) := by decide +kernel
theorem dC_listFromTheBegin_10 : decode b_C_listFromTheBegin 10 = .ok (.aload_n 0, 1) := by decide +kernel
theorem dC_listFromTheBegin_11 : decode b_C_listFromTheBegin 11 = .ok (.iconst 0, 1) := by decide +kernel
theorem dC_listFromTheBegin_12 : decode b_C_listFromTheBegin 12 = .ok (.putfield 41, 3) := by decide +kernel
theorem dC_listFromTheBegin_15 : decode b_C_listFromTheBegin 15 = .ok (.iconst 0, 1) := by decide +kernel
theorem dC_listFromTheBegin_16 : decode b_C_listFromTheBegin 16 = .ok (.istore_n 2, 1) := by decide +kernel
theorem dC_listFromTheBegin_17 : decode b_C_listFromTheBegin 17 = .ok (.iconst 0, 1) := by decide +kernel
theorem dC_listFromTheBegin_18 : decode b_C_listFromTheBegin 18 = .ok (.istore_n 3, 1) := by decide +kernel
theorem dC_listFromTheBegin_19 : decode b_C_listFromTheBegin 19 = .ok (.iload_n 3, 1) := by decide +kernel
theorem dC_listFromTheBegin_20 : decode b_C_listFromTheBegin 20 = .ok (.aload_n 0, 1) := by decide +kernel
theorem dC_listFromTheBegin_21 : decode b_C_listFromTheBegin 21 = .ok (.getfield 44, 3) := by decide +kernel
theorem dC_listFromTheBegin_24 : decode b_C_listFromTheBegin 24 = .ok (.if_icmp .ge 88, 3) := by decide +kernel
theorem dC_listFromTheBegin_27 : decode b_C_listFromTheBegin 27 = .ok (.iload_n 3, 1) := by decide +kernel
theorem dC_listFromTheBegin_28 : decode b_C_listFromTheBegin 28 = .ok (.iload_n 2, 1) := by decide +kernel
theorem dC_listFromTheBegin_29 : decode b_C_listFromTheBegin 29 = .ok (.if_icmp .ge 6, 3) := by decide +kernel
theorem dC_listFromTheBegin_32 : decode b_C_listFromTheBegin 32 = .ok (.goto 74, 3) := by decide +kernel
theorem dC_listFromTheBegin_35 : decode b_C_listFromTheBegin 35 = .ok (.aload_n 0, 1) := by decide +kernel
theorem dC_listFromTheBegin_36 : decode b_C_listFromTheBegin 36 = .ok (.getfield 19, 3) := by decide +kernel
theorem dC_listFromTheBegin_39 : decode b_C_listFromTheBegin 39 = .ok (.iload_n 3, 1) := by decide +kernel
theorem dC_listFromTheBegin_40 : decode b_C_listFromTheBegin 40 = .ok (.iaload, 1) := by decide +kernel
theorem dC_listFromTheBegin_41 : decode b_C_listFromTheBegin 41 = .ok (.istore 4, 2) := by decide +kernel
theorem dC_listFromTheBegin_43 : decode b_C_listFromTheBegin 43 = .ok (.iload 4, 2) := by decide +kernel
theorem dC_listFromTheBegin_45 : decode b_C_listFromTheBegin 45 = .ok (.iconst (-1), 1) := by decide +kernel
theorem dC_listFromTheBegin_46 : decode b_C_listFromTheBegin 46 = .ok (.if_icmp .ne 16, 3) := by decide +kernel
theorem dC_listFromTheBegin_49 : decode b_C_listFromTheBegin 49 = .ok (.aload_n 0, 1) := by decide +kernel
theorem dC_listFromTheBegin_50 : decode b_C_listFromTheBegin 50 = .ok (.dup, 1) := by decide +kernel
theorem dC_listFromTheBegin_51 : decode b_C_listFromTheBegin 51 = .ok (.getfield 41, 3) := by decide +kernel
theorem dC_listFromTheBegin_54 : decode b_C_listFromTheBegin 54 = .ok (.iconst 1, 1) := by decide +kernel
theorem dC_listFromTheBegin_55 : decode b_C_listFromTheBegin 55 = .ok (.iadd, 1) := by decide +kernel
theorem dC_listFromTheBegin_56 : decode b_C_listFromTheBegin 56 = .ok (.putfield 41, 3) := by decide +kernel
theorem dC_listFromTheBegin_59 : decode b_C_listFromTheBegin 59 = .ok (.goto 47, 3) := by decide +kernel
theorem dC_listFromTheBegin_62 : decode b_C_listFromTheBegin 62 = .ok (.aload_n 0, 1) := by decide +kernel
theorem dC_listFromTheBegin_63 : decode b_C_listFromTheBegin 63 = .ok (.getfield 22, 3) := by decide +kernel
theorem dC_listFromTheBegin_66 : decode b_C_listFromTheBegin 66 = .ok (.aload_n 0, 1) := by decide +kernel
theorem dC_listFromTheBegin_67 : decode b_C_listFromTheBegin 67 = .ok (.getfield 34, 3) := by decide +kernel
theorem dC_listFromTheBegin_70 : decode b_C_listFromTheBegin 70 = .ok (.iload_n 3, 1) := by decide +kernel
theorem dC_listFromTheBegin_71 : decode b_C_listFromTheBegin 71 = .ok (.iastore, 1) := by decide +kernel
theorem dC_listFromTheBegin_72 : decode b_C_listFromTheBegin 72 = .ok (.aload_n 0, 1) := by decide +kernel
theorem dC_listFromTheBegin_73 : decode b_C_listFromTheBegin 73 = .ok (.dup, 1) := by decide +kernel
theorem dC_listFromTheBegin_74 : decode b_C_listFromTheBegin 74 = .ok (.getfield 34, 3) := by decide +kernel
theorem dC_listFromTheBegin_77 : decode b_C_listFromTheBegin 77 = .ok (.iconst 1, 1) := by decide +kernel
theorem dC_listFromTheBegin_78 : decode b_C_listFromTheBegin 78 = .ok (.iadd, 1) := by decide +kernel
theorem dC_listFromTheBegin_79 : decode b_C_listFromTheBegin 79 = .ok (.putfield 34, 3) := by decide +kernel
theorem dC_listFromTheBegin_82 : decode b_C_listFromTheBegin 82 = .ok (.aload_n 0, 1) := by decide +kernel
theorem dC_listFromTheBegin_83 : decode b_C_listFromTheBegin 83 = .ok (.dup, 1) := by decide +kernel
theorem dC_listFromTheBegin_84 : decode b_C_listFromTheBegin 84 = .ok (.getfield 38, 3) := by decide +kernel
theorem dC_listFromTheBegin_87 : decode b_C_listFromTheBegin 87 = .ok (.aload_n 1, 1) := by decide +kernel
theorem dC_listFromTheBegin_88 : decode b_C_listFromTheBegin 88 = .ok (.iload 4, 2) := by decide +kernel
theorem dC_listFromTheBegin_90 : decode b_C_listFromTheBegin 90 = .ok (.invokevirtual 97, 3) := by decide +kernel
theorem dC_listFromTheBegin_93 : decode b_C_listFromTheBegin 93 = .ok (.iadd, 1) := by decide +kernel
theorem dC_listFromTheBegin_94 : decode b_C_listFromTheBegin 94 = .ok (.putfield 38, 3) := by decide +kernel
theorem dC_listFromTheBegin_97 : decode b_C_listFromTheBegin 97 = .ok (.iload_n 3, 1) := by decide +kernel
theorem dC_listFromTheBegin_98 : decode b_C_listFromTheBegin 98 = .ok (.aload_n 1, 1) := by decide +kernel
theorem dC_listFromTheBegin_99 : decode b_C_listFromTheBegin 99 = .ok (.iload 4, 2) := by decide +kernel
theorem dC_listFromTheBegin_101 : decode b_C_listFromTheBegin 101 = .ok (.invokevirtual 94, 3) := by decide +kernel
theorem dC_listFromTheBegin_104 : decode b_C_listFromTheBegin 104 = .ok (.iadd, 1) := by decide +kernel
theorem dC_listFromTheBegin_105 : decode b_C_listFromTheBegin 105 = .ok (.istore_n 2, 1) := by decide +kernel
theorem dC_listFromTheBegin_106 : decode b_C_listFromTheBegin 106 = .ok (.iinc 3 1, 3) := by decide +kernel
theorem dC_listFromTheBegin_109 : decode b_C_listFromTheBegin 109 = .ok (.goto (-90), 3) := by decide +kernel
theorem dC_listFromTheBegin_112 : decode b_C_listFromTheBegin 112 = .ok (.return_, 1) := by decide +kernel
