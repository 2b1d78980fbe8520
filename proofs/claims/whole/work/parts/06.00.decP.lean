theorem dP_init_0 : decode b_P_init 0 = .ok (.aload_n 0, 1) := by decide +kernel
theorem dP_init_1 : decode b_P_init 1 = .ok (.invokespecial 1, 3) := by decide +kernel
theorem dP_init_4 : decode b_P_init 4 = .ok (.new 7, 3) := by decide +kernel
theorem dP_init_7 : decode b_P_init 7 = .ok (.dup, 1) := by decide +kernel
theorem dP_init_8 : decode b_P_init 8 = .ok (.iload_n 1, 1) := by decide +kernel
theorem dP_init_9 : decode b_P_init 9 = .ok (.iconst 1, 1) := by decide +kernel
theorem dP_init_10 : decode b_P_init 10 = .ok (.iconst 4, 1) := by decide +kernel
theorem dP_init_11 : decode b_P_init 11 = .ok (.invokestatic 11, 3) := by decide +kernel
theorem dP_init_14 : decode b_P_init 14 = .ok (.iload_n 2, 1) := by decide +kernel
theorem dP_init_15 : decode b_P_init 15 = .ok (.iconst 1, 1) := by decide +kernel
theorem dP_init_16 : decode b_P_init 16 = .ok (.bipush 10, 2) := by decide +kernel
theorem dP_init_18 : decode b_P_init 18 = .ok (.invokestatic 11, 3) := by decide +kernel
theorem dP_init_21 : decode b_P_init 21 = .ok (.invokespecial 15, 3) := by decide +kernel
theorem dP_init_24 : decode b_P_init 24 = .ok (.astore_n 3, 1) := by decide +kernel
theorem dP_init_25 : decode b_P_init 25 = .ok (.aload_n 0, 1) := by decide +kernel
theorem dP_init_26 : decode b_P_init 26 = .ok (.aload_n 3, 1) := by decide +kernel
theorem dP_init_27 : decode b_P_init 27 = .ok (.putfield 18, 3) := by decide +kernel
theorem dP_init_30 : decode b_P_init 30 = .ok (.aload_n 0, 1) := by decide +kernel
theorem dP_init_31 : decode b_P_init 31 = .ok (.new 22, 3) := by decide +kernel
theorem dP_init_34 : decode b_P_init 34 = .ok (.dup, 1) := by decide +kernel
theorem dP_init_35 : decode b_P_init 35 = .ok (.aload_n 3, 1) := by decide +kernel
theorem dP_init_36 : decode b_P_init 36 = .ok (.invokespecial 24, 3) := by decide +kernel
theorem dP_init_39 : decode b_P_init 39 = .ok (.putfield 27, 3) := by decide +kernel
theorem dP_init_42 : decode b_P_init 42 = .ok (.aload_n 0, 1) := by decide +kernel
theorem dP_init_43 : decode b_P_init 43 = .ok (.new 31, 3) := by decide +kernel
theorem dP_init_46 : decode b_P_init 46 = .ok (.dup, 1) := by decide +kernel
theorem dP_init_47 : decode b_P_init 47 = .ok (.invokespecial 33, 3) := by decide +kernel
theorem dP_init_50 : decode b_P_init 50 = .ok (.putfield 34, 3) := by decide +kernel
theorem dP_init_53 : decode b_P_init 53 = .ok (.aload_n 0, 1) := by decide +kernel
theorem dP_init_54 : decode b_P_init 54 = .ok (.new 38, 3) := by decide +kernel
theorem dP_init_57 : decode b_P_init 57 = .ok (.dup, 1) := by decide +kernel
theorem dP_init_58 : decode b_P_init 58 = .ok (.invokespecial 40, 3) := by decide +kernel
theorem dP_init_61 : decode b_P_init 61 = .ok (.putfield 41, 3) := by decide +kernel
theorem dP_init_64 : decode b_P_init 64 = .ok (.aload_n 0, 1) := by decide +kernel
theorem dP_init_65 : decode b_P_init 65 = .ok (.new 45, 3) := by decide +kernel
theorem dP_init_68 : decode b_P_init 68 = .ok (.dup, 1) := by decide +kernel
theorem dP_init_69 : decode b_P_init 69 = .ok (.invokespecial 47, 3) := by decide +kernel
theorem dP_init_72 : decode b_P_init 72 = .ok (.putfield 48, 3) := by decide +kernel
theorem dP_init_75 : decode b_P_init 75 = .ok (.aload_n 0, 1) := by decide +kernel
theorem dP_init_76 : decode b_P_init 76 = .ok (.new 52, 3) := by decide +kernel
theorem dP_init_79 : decode b_P_init 79 = .ok (.dup, 1) := by decide +kernel
theorem dP_init_80 : decode b_P_init 80 = .ok (.invokespecial 54, 3) := by decide +kernel
theorem dP_init_83 : decode b_P_init 83 = .ok (.putfield 55, 3) := by decide +kernel
theorem dP_init_86 : decode b_P_init 86 = .ok (.aload_n 0, 1) := by decide +kernel
theorem dP_init_87 : decode b_P_init 87 = .ok (.new 59, 3) := by decide +kernel
theorem dP_init_90 : decode b_P_init 90 = .ok (.dup, 1) := by decide +kernel
theorem dP_init_91 : decode b_P_init 91 = .ok (.invokespecial 61, 3) := by decide +kernel
theorem dP_init_94 : decode b_P_init 94 = .ok (.putfield 62, 3) := by decide +kernel
theorem dP_init_97 : decode b_P_init 97 = .ok (.return_, 1) := by decide +kernel
theorem dP_cell_0 : decode b_P_cell 0 = .ok (.aload_n 0, 1) := by decide +kernel
theorem dP_cell_1 : decode b_P_cell 1 = .ok (.getfield 18, 3) := by decide +kernel
theorem dP_cell_4 : decode b_P_cell 4 = .ok (.iload_n 1, 1) := by decide +kernel
theorem dP_cell_5 : decode b_P_cell 5 = .ok (.iload_n 2, 1) := by decide +kernel
theorem dP_cell_6 : decode b_P_cell 6 = .ok (.iload_n 3, 1) := by decide +kernel
theorem dP_cell_7 : decode b_P_cell 7 = .ok (.invokevirtual 66, 3) := by decide +kernel
theorem dP_cell_10 : decode b_P_cell 10 = .ok (.ifCond .ne 13, 3) := by decide +kernel
theorem dP_cell_13 : decode b_P_cell 13 = .ok (.new 70, 3) := by decide +kernel
theorem dP_cell_16 : decode b_P_cell 16 = .ok (.dup, 1) := by decide +kernel
theorem dP_cell_17 : decode b_P_cell 17 = .ok (.ldc 72, 2) := by decide +kernel
theorem dP_cell_19 : decode b_P_cell 19 = .ok (.invokespecial 74, 3) := by decide +kernel
theorem dP_cell_22 : decode b_P_cell 22 = .ok (.athrow, 1) := by decide +kernel
theorem dP_cell_23 : decode b_P_cell 23 = .ok (.aload_n 0, 1) := by decide +kernel
theorem dP_cell_24 : decode b_P_cell 24 = .ok (.getfield 18, 3) := by decide +kernel
theorem dP_cell_27 : decode b_P_cell 27 = .ok (.iload_n 1, 1) := by decide +kernel
theorem dP_cell_28 : decode b_P_cell 28 = .ok (.iload_n 2, 1) := by decide +kernel
theorem dP_cell_29 : decode b_P_cell 29 = .ok (.iload_n 3, 1) := by decide +kernel
theorem dP_cell_30 : decode b_P_cell 30 = .ok (.iload 4, 2) := by decide +kernel
theorem dP_cell_32 : decode b_P_cell 32 = .ok (.invokevirtual 77, 3) := by decide +kernel
theorem dP_cell_35 : decode b_P_cell 35 = .ok (.istore 5, 2) := by decide +kernel
theorem dP_cell_37 : decode b_P_cell 37 = .ok (.iload 5, 2) := by decide +kernel
theorem dP_cell_39 : decode b_P_cell 39 = .ok (.ifCond .eq 24, 3) := by decide +kernel
theorem dP_cell_42 : decode b_P_cell 42 = .ok (.aload_n 0, 1) := by decide +kernel
theorem dP_cell_43 : decode b_P_cell 43 = .ok (.getfield 27, 3) := by decide +kernel
theorem dP_cell_46 : decode b_P_cell 46 = .ok (.invokevirtual 81, 3) := by decide +kernel
theorem dP_cell_49 : decode b_P_cell 49 = .ok (.aload_n 0, 1) := by decide +kernel
theorem dP_cell_50 : decode b_P_cell 50 = .ok (.getfield 34, 3) := by decide +kernel
theorem dP_cell_53 : decode b_P_cell 53 = .ok (.invokevirtual 84, 3) := by decide +kernel
theorem dP_cell_56 : decode b_P_cell 56 = .ok (.aload_n 0, 1) := by decide +kernel
theorem dP_cell_57 : decode b_P_cell 57 = .ok (.getfield 55, 3) := by decide +kernel
theorem dP_cell_60 : decode b_P_cell 60 = .ok (.invokevirtual 85, 3) := by decide +kernel
theorem dP_cell_63 : decode b_P_cell 63 = .ok (.iload 5, 2) := by decide +kernel
theorem dP_cell_65 : decode b_P_cell 65 = .ok (.ireturn, 1) := by decide +kernel
theorem dP_room_0 : decode b_P_room 0 = .ok (.aload_n 0, 1) := by decide +kernel
theorem dP_room_1 : decode b_P_room 1 = .ok (.getfield 27, 3) := by decide +kernel
theorem dP_room_4 : decode b_P_room 4 = .ok (.invokevirtual 86, 3) := by decide +kernel
theorem dP_room_7 : decode b_P_room 7 = .ok (.ireturn, 1) := by decide +kernel
theorem dP_axis_0 : decode b_P_axis 0 = .ok (.iload_n 1, 1) := by decide +kernel
theorem dP_axis_1 : decode b_P_axis 1 = .ok (.iconst 0, 1) := by decide +kernel
theorem dP_axis_2 : decode b_P_axis 2 = .ok (.iconst 3, 1) := by decide +kernel
theorem dP_axis_3 : decode b_P_axis 3 = .ok (.invokestatic 90, 3) := by decide +kernel
theorem dP_axis_6 : decode b_P_axis 6 = .ok (.ifCond .ne 13, 3) := by decide +kernel
theorem dP_axis_9 : decode b_P_axis 9 = .ok (.new 70, 3) := by decide +kernel
theorem dP_axis_12 : decode b_P_axis 12 = .ok (.dup, 1) := by decide +kernel
theorem dP_axis_13 : decode b_P_axis 13 = .ok (.ldc 93, 2) := by decide +kernel
theorem dP_axis_15 : decode b_P_axis 15 = .ok (.invokespecial 74, 3) := by decide +kernel
theorem dP_axis_18 : decode b_P_axis 18 = .ok (.athrow, 1) := by decide +kernel
theorem dP_axis_19 : decode b_P_axis 19 = .ok (.aload_n 0, 1) := by decide +kernel
theorem dP_axis_20 : decode b_P_axis 20 = .ok (.getfield 27, 3) := by decide +kernel
theorem dP_axis_23 : decode b_P_axis 23 = .ok (.iload_n 1, 1) := by decide +kernel
theorem dP_axis_24 : decode b_P_axis 24 = .ok (.invokevirtual 95, 3) := by decide +kernel
theorem dP_axis_27 : decode b_P_axis 27 = .ok (.ireturn, 1) := by decide +kernel
theorem dP_radius_0 : decode b_P_radius 0 = .ok (.aload_n 0, 1) := by decide +kernel
theorem dP_radius_1 : decode b_P_radius 1 = .ok (.getfield 27, 3) := by decide +kernel
theorem dP_radius_4 : decode b_P_radius 4 = .ok (.invokevirtual 99, 3) := by decide +kernel
theorem dP_radius_7 : decode b_P_radius 7 = .ok (.ireturn, 1) := by decide +kernel
theorem dP_roomOf_0 : decode b_P_roomOf 0 = .ok (.aload_n 0, 1) := by decide +kernel
theorem dP_roomOf_1 : decode b_P_roomOf 1 = .ok (.getfield 18, 3) := by decide +kernel
theorem dP_roomOf_4 : decode b_P_roomOf 4 = .ok (.iload_n 1, 1) := by decide +kernel
theorem dP_roomOf_5 : decode b_P_roomOf 5 = .ok (.iload_n 2, 1) := by decide +kernel
theorem dP_roomOf_6 : decode b_P_roomOf 6 = .ok (.invokevirtual 102, 3) := by decide +kernel
theorem dP_roomOf_9 : decode b_P_roomOf 9 = .ok (.ifCond .eq 16, 3) := by decide +kernel
theorem dP_roomOf_12 : decode b_P_roomOf 12 = .ok (.aload_n 0, 1) := by decide +kernel
theorem dP_roomOf_13 : decode b_P_roomOf 13 = .ok (.getfield 18, 3) := by decide +kernel
theorem dP_roomOf_16 : decode b_P_roomOf 16 = .ok (.iload_n 3, 1) := by decide +kernel
theorem dP_roomOf_17 : decode b_P_roomOf 17 = .ok (.iload 4, 2) := by decide +kernel
theorem dP_roomOf_19 : decode b_P_roomOf 19 = .ok (.invokevirtual 102, 3) := by decide +kernel
theorem dP_roomOf_22 : decode b_P_roomOf 22 = .ok (.ifCond .ne 13, 3) := by decide +kernel
theorem dP_roomOf_25 : decode b_P_roomOf 25 = .ok (.new 70, 3) := by decide +kernel
theorem dP_roomOf_28 : decode b_P_roomOf 28 = .ok (.dup, 1) := by decide +kernel
theorem dP_roomOf_29 : decode b_P_roomOf 29 = .ok (.ldc 106, 2) := by decide +kernel
theorem dP_roomOf_31 : decode b_P_roomOf 31 = .ok (.invokespecial 74, 3) := by decide +kernel
theorem dP_roomOf_34 : decode b_P_roomOf 34 = .ok (.athrow, 1) := by decide +kernel
theorem dP_roomOf_35 : decode b_P_roomOf 35 = .ok (.aload_n 0, 1) := by decide +kernel
theorem dP_roomOf_36 : decode b_P_roomOf 36 = .ok (.getfield 27, 3) := by decide +kernel
theorem dP_roomOf_39 : decode b_P_roomOf 39 = .ok (.iload_n 1, 1) := by decide +kernel
theorem dP_roomOf_40 : decode b_P_roomOf 40 = .ok (.iload_n 2, 1) := by decide +kernel
theorem dP_roomOf_41 : decode b_P_roomOf 41 = .ok (.iload_n 3, 1) := by decide +kernel
theorem dP_roomOf_42 : decode b_P_roomOf 42 = .ok (.iload 4, 2) := by decide +kernel
theorem dP_roomOf_44 : decode b_P_roomOf 44 = .ok (.invokevirtual 108, 3) := by decide +kernel
theorem dP_roomOf_47 : decode b_P_roomOf 47 = .ok (.ireturn, 1) := by decide +kernel
theorem dP_peel_0 : decode b_P_peel 0 = .ok (.iload_n 1, 1) := by decide +kernel
theorem dP_peel_1 : decode b_P_peel 1 = .ok (.iconst 1, 1) := by decide +kernel
theorem dP_peel_2 : decode b_P_peel 2 = .ok (.sipush 1000, 3) := by decide +kernel
theorem dP_peel_5 : decode b_P_peel 5 = .ok (.invokestatic 90, 3) := by decide +kernel
theorem dP_peel_8 : decode b_P_peel 8 = .ok (.ifCond .eq 14, 3) := by decide +kernel
theorem dP_peel_11 : decode b_P_peel 11 = .ok (.iload_n 2, 1) := by decide +kernel
theorem dP_peel_12 : decode b_P_peel 12 = .ok (.iconst 0, 1) := by decide +kernel
theorem dP_peel_13 : decode b_P_peel 13 = .ok (.sipush 1000, 3) := by decide +kernel
theorem dP_peel_16 : decode b_P_peel 16 = .ok (.invokestatic 90, 3) := by decide +kernel
theorem dP_peel_19 : decode b_P_peel 19 = .ok (.ifCond .ne 13, 3) := by decide +kernel
theorem dP_peel_22 : decode b_P_peel 22 = .ok (.new 112, 3) := by decide +kernel
theorem dP_peel_25 : decode b_P_peel 25 = .ok (.dup, 1) := by decide +kernel
theorem dP_peel_26 : decode b_P_peel 26 = .ok (.ldc 114, 2) := by decide +kernel
theorem dP_peel_28 : decode b_P_peel 28 = .ok (.invokespecial 116, 3) := by decide +kernel
theorem dP_peel_31 : decode b_P_peel 31 = .ok (.athrow, 1) := by decide +kernel
theorem dP_peel_32 : decode b_P_peel 32 = .ok (.aload_n 0, 1) := by decide +kernel
theorem dP_peel_33 : decode b_P_peel 33 = .ok (.getfield 34, 3) := by decide +kernel
theorem dP_peel_36 : decode b_P_peel 36 = .ok (.aload_n 0, 1) := by decide +kernel
theorem dP_peel_37 : decode b_P_peel 37 = .ok (.getfield 27, 3) := by decide +kernel
theorem dP_peel_40 : decode b_P_peel 40 = .ok (.invokevirtual 99, 3) := by decide +kernel
theorem dP_peel_43 : decode b_P_peel 43 = .ok (.iload_n 1, 1) := by decide +kernel
theorem dP_peel_44 : decode b_P_peel 44 = .ok (.iload_n 2, 1) := by decide +kernel
theorem dP_peel_45 : decode b_P_peel 45 = .ok (.invokevirtual 117, 3) := by decide +kernel
theorem dP_peel_48 : decode b_P_peel 48 = .ok (.aload_n 0, 1) := by decide +kernel
theorem dP_peel_49 : decode b_P_peel 49 = .ok (.getfield 55, 3) := by decide +kernel
theorem dP_peel_52 : decode b_P_peel 52 = .ok (.invokevirtual 85, 3) := by decide +kernel
theorem dP_peel_55 : decode b_P_peel 55 = .ok (.aload_n 0, 1) := by decide +kernel
theorem dP_peel_56 : decode b_P_peel 56 = .ok (.getfield 34, 3) := by decide +kernel
theorem dP_peel_59 : decode b_P_peel 59 = .ok (.invokevirtual 121, 3) := by decide +kernel
theorem dP_peel_62 : decode b_P_peel 62 = .ok (.ireturn, 1) := by decide +kernel
theorem dP_before_0 : decode b_P_before 0 = .ok (.aload_n 0, 1) := by decide +kernel
theorem dP_before_1 : decode b_P_before 1 = .ok (.getfield 34, 3) := by decide +kernel
theorem dP_before_4 : decode b_P_before 4 = .ok (.invokevirtual 124, 3) := by decide +kernel
theorem dP_before_7 : decode b_P_before 7 = .ok (.ifCond .ne 13, 3) := by decide +kernel
theorem dP_before_10 : decode b_P_before 10 = .ok (.new 128, 3) := by decide +kernel
theorem dP_before_13 : decode b_P_before 13 = .ok (.dup, 1) := by decide +kernel
theorem dP_before_14 : decode b_P_before 14 = .ok (.ldc 130, 2) := by decide +kernel
theorem dP_before_16 : decode b_P_before 16 = .ok (.invokespecial 132, 3) := by decide +kernel
theorem dP_before_19 : decode b_P_before 19 = .ok (.athrow, 1) := by decide +kernel
theorem dP_before_20 : decode b_P_before 20 = .ok (.iload_n 1, 1) := by decide +kernel
theorem dP_before_21 : decode b_P_before 21 = .ok (.iconst 0, 1) := by decide +kernel
theorem dP_before_22 : decode b_P_before 22 = .ok (.aload_n 0, 1) := by decide +kernel
theorem dP_before_23 : decode b_P_before 23 = .ok (.getfield 34, 3) := by decide +kernel
theorem dP_before_26 : decode b_P_before 26 = .ok (.invokevirtual 121, 3) := by decide +kernel
theorem dP_before_29 : decode b_P_before 29 = .ok (.invokestatic 90, 3) := by decide +kernel
theorem dP_before_32 : decode b_P_before 32 = .ok (.ifCond .ne 13, 3) := by decide +kernel
theorem dP_before_35 : decode b_P_before 35 = .ok (.new 70, 3) := by decide +kernel
theorem dP_before_38 : decode b_P_before 38 = .ok (.dup, 1) := by decide +kernel
theorem dP_before_39 : decode b_P_before 39 = .ok (.ldc 133, 2) := by decide +kernel
theorem dP_before_41 : decode b_P_before 41 = .ok (.invokespecial 74, 3) := by decide +kernel
theorem dP_before_44 : decode b_P_before 44 = .ok (.athrow, 1) := by decide +kernel
theorem dP_before_45 : decode b_P_before 45 = .ok (.aload_n 0, 1) := by decide +kernel
theorem dP_before_46 : decode b_P_before 46 = .ok (.getfield 34, 3) := by decide +kernel
theorem dP_before_49 : decode b_P_before 49 = .ok (.iload_n 1, 1) := by decide +kernel
theorem dP_before_50 : decode b_P_before 50 = .ok (.invokevirtual 135, 3) := by decide +kernel
theorem dP_before_53 : decode b_P_before 53 = .ok (.ireturn, 1) := by decide +kernel
theorem dP_fault_0 : decode b_P_fault 0 = .ok (.iload_n 1, 1) := by decide +kernel
theorem dP_fault_1 : decode b_P_fault 1 = .ok (.iconst 0, 1) := by decide +kernel
theorem dP_fault_2 : decode b_P_fault 2 = .ok (.sipush 359, 3) := by decide +kernel
theorem dP_fault_5 : decode b_P_fault 5 = .ok (.invokestatic 90, 3) := by decide +kernel
theorem dP_fault_8 : decode b_P_fault 8 = .ok (.ifCond .eq 21, 3) := by decide +kernel
theorem dP_fault_11 : decode b_P_fault 11 = .ok (.iload_n 2, 1) := by decide +kernel
theorem dP_fault_12 : decode b_P_fault 12 = .ok (.iconst 0, 1) := by decide +kernel
theorem dP_fault_13 : decode b_P_fault 13 = .ok (.sipush 1000, 3) := by decide +kernel
theorem dP_fault_16 : decode b_P_fault 16 = .ok (.invokestatic 90, 3) := by decide +kernel
theorem dP_fault_19 : decode b_P_fault 19 = .ok (.ifCond .eq 10, 3) := by decide +kernel
theorem dP_fault_22 : decode b_P_fault 22 = .ok (.iload_n 3, 1) := by decide +kernel
theorem dP_fault_23 : decode b_P_fault 23 = .ok (.invokestatic 138, 3) := by decide +kernel
theorem dP_fault_26 : decode b_P_fault 26 = .ok (.ifCond .ne 13, 3) := by decide +kernel
theorem dP_fault_29 : decode b_P_fault 29 = .ok (.new 112, 3) := by decide +kernel
theorem dP_fault_32 : decode b_P_fault 32 = .ok (.dup, 1) := by decide +kernel
theorem dP_fault_33 : decode b_P_fault 33 = .ok (.ldc 142, 2) := by decide +kernel
theorem dP_fault_35 : decode b_P_fault 35 = .ok (.invokespecial 116, 3) := by decide +kernel
theorem dP_fault_38 : decode b_P_fault 38 = .ok (.athrow, 1) := by decide +kernel
theorem dP_fault_39 : decode b_P_fault 39 = .ok (.aload_n 0, 1) := by decide +kernel
theorem dP_fault_40 : decode b_P_fault 40 = .ok (.getfield 41, 3) := by decide +kernel
theorem dP_fault_43 : decode b_P_fault 43 = .ok (.invokevirtual 144, 3) := by decide +kernel
theorem dP_fault_46 : decode b_P_fault 46 = .ok (.ifCond .eq 13, 3) := by decide +kernel
theorem dP_fault_49 : decode b_P_fault 49 = .ok (.new 128, 3) := by decide +kernel
theorem dP_fault_52 : decode b_P_fault 52 = .ok (.dup, 1) := by decide +kernel
theorem dP_fault_53 : decode b_P_fault 53 = .ok (.ldc 147, 2) := by decide +kernel
theorem dP_fault_55 : decode b_P_fault 55 = .ok (.invokespecial 132, 3) := by decide +kernel
theorem dP_fault_58 : decode b_P_fault 58 = .ok (.athrow, 1) := by decide +kernel
theorem dP_fault_59 : decode b_P_fault 59 = .ok (.aload_n 0, 1) := by decide +kernel
theorem dP_fault_60 : decode b_P_fault 60 = .ok (.getfield 55, 3) := by decide +kernel
theorem dP_fault_63 : decode b_P_fault 63 = .ok (.invokevirtual 85, 3) := by decide +kernel
theorem dP_fault_66 : decode b_P_fault 66 = .ok (.aload_n 0, 1) := by decide +kernel
theorem dP_fault_67 : decode b_P_fault 67 = .ok (.getfield 41, 3) := by decide +kernel
theorem dP_fault_70 : decode b_P_fault 70 = .ok (.iload_n 1, 1) := by decide +kernel
theorem dP_fault_71 : decode b_P_fault 71 = .ok (.iload_n 2, 1) := by decide +kernel
theorem dP_fault_72 : decode b_P_fault 72 = .ok (.iload_n 3, 1) := by decide +kernel
theorem dP_fault_73 : decode b_P_fault 73 = .ok (.invokevirtual 149, 3) := by decide +kernel
theorem dP_fault_76 : decode b_P_fault 76 = .ok (.ireturn, 1) := by decide +kernel
theorem dP_unrolled_0 : decode b_P_unrolled 0 = .ok (.aload_n 0, 1) := by decide +kernel
theorem dP_unrolled_1 : decode b_P_unrolled 1 = .ok (.getfield 41, 3) := by decide +kernel
theorem dP_unrolled_4 : decode b_P_unrolled 4 = .ok (.iload_n 1, 1) := by decide +kernel
theorem dP_unrolled_5 : decode b_P_unrolled 5 = .ok (.invokevirtual 152, 3) := by decide +kernel
theorem dP_unrolled_8 : decode b_P_unrolled 8 = .ok (.ifCond .ne 13, 3) := by decide +kernel
theorem dP_unrolled_11 : decode b_P_unrolled 11 = .ok (.new 70, 3) := by decide +kernel
theorem dP_unrolled_14 : decode b_P_unrolled 14 = .ok (.dup, 1) := by decide +kernel
theorem dP_unrolled_15 : decode b_P_unrolled 15 = .ok (.ldc 155, 2) := by decide +kernel
theorem dP_unrolled_17 : decode b_P_unrolled 17 = .ok (.invokespecial 74, 3) := by decide +kernel
theorem dP_unrolled_20 : decode b_P_unrolled 20 = .ok (.athrow, 1) := by decide +kernel
theorem dP_unrolled_21 : decode b_P_unrolled 21 = .ok (.aload_n 0, 1) := by decide +kernel
theorem dP_unrolled_22 : decode b_P_unrolled 22 = .ok (.getfield 34, 3) := by decide +kernel
theorem dP_unrolled_25 : decode b_P_unrolled 25 = .ok (.invokevirtual 124, 3) := by decide +kernel
theorem dP_unrolled_28 : decode b_P_unrolled 28 = .ok (.ifCond .ne 13, 3) := by decide +kernel
theorem dP_unrolled_31 : decode b_P_unrolled 31 = .ok (.new 128, 3) := by decide +kernel
theorem dP_unrolled_34 : decode b_P_unrolled 34 = .ok (.dup, 1) := by decide +kernel
theorem dP_unrolled_35 : decode b_P_unrolled 35 = .ok (.ldc 130, 2) := by decide +kernel
theorem dP_unrolled_37 : decode b_P_unrolled 37 = .ok (.invokespecial 132, 3) := by decide +kernel
theorem dP_unrolled_40 : decode b_P_unrolled 40 = .ok (.athrow, 1) := by decide +kernel
theorem dP_unrolled_41 : decode b_P_unrolled 41 = .ok (.aload_n 0, 1) := by decide +kernel
theorem dP_unrolled_42 : decode b_P_unrolled 42 = .ok (.getfield 41, 3) := by decide +kernel
theorem dP_unrolled_45 : decode b_P_unrolled 45 = .ok (.aload_n 0, 1) := by decide +kernel
theorem dP_unrolled_46 : decode b_P_unrolled 46 = .ok (.getfield 34, 3) := by decide +kernel
theorem dP_unrolled_49 : decode b_P_unrolled 49 = .ok (.iload_n 1, 1) := by decide +kernel
theorem dP_unrolled_50 : decode b_P_unrolled 50 = .ok (.invokevirtual 157, 3) := by decide +kernel
theorem dP_unrolled_53 : decode b_P_unrolled 53 = .ok (.ireturn, 1) := by decide +kernel
theorem dP_leaf_0 : decode b_P_leaf 0 = .ok (.iload_n 1, 1) := by decide +kernel
theorem dP_leaf_1 : decode b_P_leaf 1 = .ok (.iconst 1, 1) := by decide +kernel
theorem dP_leaf_2 : decode b_P_leaf 2 = .ok (.sipush 500, 3) := by decide +kernel
theorem dP_leaf_5 : decode b_P_leaf 5 = .ok (.invokestatic 90, 3) := by decide +kernel
theorem dP_leaf_8 : decode b_P_leaf 8 = .ok (.ifCond .eq 13, 3) := by decide +kernel
theorem dP_leaf_11 : decode b_P_leaf 11 = .ok (.iload_n 2, 1) := by decide +kernel
theorem dP_leaf_12 : decode b_P_leaf 12 = .ok (.iconst 0, 1) := by decide +kernel
theorem dP_leaf_13 : decode b_P_leaf 13 = .ok (.ldc 161, 2) := by decide +kernel
theorem dP_leaf_15 : decode b_P_leaf 15 = .ok (.invokestatic 90, 3) := by decide +kernel
theorem dP_leaf_18 : decode b_P_leaf 18 = .ok (.ifCond .ne 13, 3) := by decide +kernel
theorem dP_leaf_21 : decode b_P_leaf 21 = .ok (.new 112, 3) := by decide +kernel
theorem dP_leaf_24 : decode b_P_leaf 24 = .ok (.dup, 1) := by decide +kernel
theorem dP_leaf_25 : decode b_P_leaf 25 = .ok (.ldc 162, 2) := by decide +kernel
theorem dP_leaf_27 : decode b_P_leaf 27 = .ok (.invokespecial 116, 3) := by decide +kernel
theorem dP_leaf_30 : decode b_P_leaf 30 = .ok (.athrow, 1) := by decide +kernel
theorem dP_leaf_31 : decode b_P_leaf 31 = .ok (.aload_n 0, 1) := by decide +kernel
theorem dP_leaf_32 : decode b_P_leaf 32 = .ok (.getfield 48, 3) := by decide +kernel
theorem dP_leaf_35 : decode b_P_leaf 35 = .ok (.invokevirtual 164, 3) := by decide +kernel
theorem dP_leaf_38 : decode b_P_leaf 38 = .ok (.ifCond .eq 13, 3) := by decide +kernel
theorem dP_leaf_41 : decode b_P_leaf 41 = .ok (.new 128, 3) := by decide +kernel
theorem dP_leaf_44 : decode b_P_leaf 44 = .ok (.dup, 1) := by decide +kernel
theorem dP_leaf_45 : decode b_P_leaf 45 = .ok (.ldc 165, 2) := by decide +kernel
theorem dP_leaf_47 : decode b_P_leaf 47 = .ok (.invokespecial 132, 3) := by decide +kernel
theorem dP_leaf_50 : decode b_P_leaf 50 = .ok (.athrow, 1) := by decide +kernel
theorem dP_leaf_51 : decode b_P_leaf 51 = .ok (.aload_n 0, 1) := by decide +kernel
theorem dP_leaf_52 : decode b_P_leaf 52 = .ok (.getfield 55, 3) := by decide +kernel
theorem dP_leaf_55 : decode b_P_leaf 55 = .ok (.invokevirtual 85, 3) := by decide +kernel
theorem dP_leaf_58 : decode b_P_leaf 58 = .ok (.aload_n 0, 1) := by decide +kernel
theorem dP_leaf_59 : decode b_P_leaf 59 = .ok (.getfield 48, 3) := by decide +kernel
theorem dP_leaf_62 : decode b_P_leaf 62 = .ok (.iload_n 1, 1) := by decide +kernel
theorem dP_leaf_63 : decode b_P_leaf 63 = .ok (.iload_n 2, 1) := by decide +kernel
theorem dP_leaf_64 : decode b_P_leaf 64 = .ok (.invokevirtual 167, 3) := by decide +kernel
theorem dP_leaf_67 : decode b_P_leaf 67 = .ok (.ireturn, 1) := by decide +kernel
theorem dP_bars_0 : decode b_P_bars 0 = .ok (.aload_n 0, 1) := by decide +kernel
theorem dP_bars_1 : decode b_P_bars 1 = .ok (.getfield 48, 3) := by decide +kernel
theorem dP_bars_4 : decode b_P_bars 4 = .ok (.iload_n 1, 1) := by decide +kernel
theorem dP_bars_5 : decode b_P_bars 5 = .ok (.invokevirtual 170, 3) := by decide +kernel
theorem dP_bars_8 : decode b_P_bars 8 = .ok (.ifCond .eq 10, 3) := by decide +kernel
theorem dP_bars_11 : decode b_P_bars 11 = .ok (.iload_n 2, 1) := by decide +kernel
theorem dP_bars_12 : decode b_P_bars 12 = .ok (.invokestatic 138, 3) := by decide +kernel
theorem dP_bars_15 : decode b_P_bars 15 = .ok (.ifCond .ne 13, 3) := by decide +kernel
theorem dP_bars_18 : decode b_P_bars 18 = .ok (.new 70, 3) := by decide +kernel
theorem dP_bars_21 : decode b_P_bars 21 = .ok (.dup, 1) := by decide +kernel
theorem dP_bars_22 : decode b_P_bars 22 = .ok (.ldc 171, 2) := by decide +kernel
theorem dP_bars_24 : decode b_P_bars 24 = .ok (.invokespecial 74, 3) := by decide +kernel
theorem dP_bars_27 : decode b_P_bars 27 = .ok (.athrow, 1) := by decide +kernel
theorem dP_bars_28 : decode b_P_bars 28 = .ok (.aload_n 0, 1) := by decide +kernel
theorem dP_bars_29 : decode b_P_bars 29 = .ok (.getfield 48, 3) := by decide +kernel
theorem dP_bars_32 : decode b_P_bars 32 = .ok (.iload_n 1, 1) := by decide +kernel
theorem dP_bars_33 : decode b_P_bars 33 = .ok (.iload_n 2, 1) := by decide +kernel
theorem dP_bars_34 : decode b_P_bars 34 = .ok (.iload_n 3, 1) := by decide +kernel
theorem dP_bars_35 : decode b_P_bars 35 = .ok (.invokevirtual 173, 3) := by decide +kernel
theorem dP_bars_38 : decode b_P_bars 38 = .ok (.istore 4, 2) := by decide +kernel
theorem dP_bars_40 : decode b_P_bars 40 = .ok (.iload 4, 2) := by decide +kernel
theorem dP_bars_42 : decode b_P_bars 42 = .ok (.ifCond .eq 10, 3) := by decide +kernel
theorem dP_bars_45 : decode b_P_bars 45 = .ok (.aload_n 0, 1) := by decide +kernel
theorem dP_bars_46 : decode b_P_bars 46 = .ok (.getfield 55, 3) := by decide +kernel
theorem dP_bars_49 : decode b_P_bars 49 = .ok (.invokevirtual 85, 3) := by decide +kernel
theorem dP_bars_52 : decode b_P_bars 52 = .ok (.iload 4, 2) := by decide +kernel
theorem dP_bars_54 : decode b_P_bars 54 = .ok (.ireturn, 1) := by decide +kernel
theorem dP_clip_0 : decode b_P_clip 0 = .ok (.iload_n 1, 1) := by decide +kernel
theorem dP_clip_1 : decode b_P_clip 1 = .ok (.iconst 1, 1) := by decide +kernel
theorem dP_clip_2 : decode b_P_clip 2 = .ok (.sipush 1000, 3) := by decide +kernel
theorem dP_clip_5 : decode b_P_clip 5 = .ok (.invokestatic 90, 3) := by decide +kernel
theorem dP_clip_8 : decode b_P_clip 8 = .ok (.ifCond .ne 13, 3) := by decide +kernel
theorem dP_clip_11 : decode b_P_clip 11 = .ok (.new 112, 3) := by decide +kernel
theorem dP_clip_14 : decode b_P_clip 14 = .ok (.dup, 1) := by decide +kernel
theorem dP_clip_15 : decode b_P_clip 15 = .ok (.ldc 177, 2) := by decide +kernel
theorem dP_clip_17 : decode b_P_clip 17 = .ok (.invokespecial 116, 3) := by decide +kernel
theorem dP_clip_20 : decode b_P_clip 20 = .ok (.athrow, 1) := by decide +kernel
theorem dP_clip_21 : decode b_P_clip 21 = .ok (.aload_n 0, 1) := by decide +kernel
theorem dP_clip_22 : decode b_P_clip 22 = .ok (.getfield 34, 3) := by decide +kernel
theorem dP_clip_25 : decode b_P_clip 25 = .ok (.invokevirtual 124, 3) := by decide +kernel
theorem dP_clip_28 : decode b_P_clip 28 = .ok (.ifCond .ne 13, 3) := by decide +kernel
theorem dP_clip_31 : decode b_P_clip 31 = .ok (.new 128, 3) := by decide +kernel
theorem dP_clip_34 : decode b_P_clip 34 = .ok (.dup, 1) := by decide +kernel
theorem dP_clip_35 : decode b_P_clip 35 = .ok (.ldc 130, 2) := by decide +kernel
theorem dP_clip_37 : decode b_P_clip 37 = .ok (.invokespecial 132, 3) := by decide +kernel
theorem dP_clip_40 : decode b_P_clip 40 = .ok (.athrow, 1) := by decide +kernel
theorem dP_clip_41 : decode b_P_clip 41 = .ok (.aload_n 0, 1) := by decide +kernel
theorem dP_clip_42 : decode b_P_clip 42 = .ok (.getfield 55, 3) := by decide +kernel
theorem dP_clip_45 : decode b_P_clip 45 = .ok (.aload_n 0, 1) := by decide +kernel
theorem dP_clip_46 : decode b_P_clip 46 = .ok (.getfield 34, 3) := by decide +kernel
theorem dP_clip_49 : decode b_P_clip 49 = .ok (.aload_n 0, 1) := by decide +kernel
theorem dP_clip_50 : decode b_P_clip 50 = .ok (.getfield 41, 3) := by decide +kernel
theorem dP_clip_53 : decode b_P_clip 53 = .ok (.aload_n 0, 1) := by decide +kernel
theorem dP_clip_54 : decode b_P_clip 54 = .ok (.getfield 48, 3) := by decide +kernel
theorem dP_clip_57 : decode b_P_clip 57 = .ok (.iload_n 1, 1) := by decide +kernel
theorem dP_clip_58 : decode b_P_clip 58 = .ok (.invokevirtual 179, 3) := by decide +kernel
theorem dP_clip_61 : decode b_P_clip 61 = .ok (.aload_n 0, 1) := by decide +kernel
theorem dP_clip_62 : decode b_P_clip 62 = .ok (.getfield 55, 3) := by decide +kernel
theorem dP_clip_65 : decode b_P_clip 65 = .ok (.invokevirtual 183, 3) := by decide +kernel
theorem dP_clip_68 : decode b_P_clip 68 = .ok (.ireturn, 1) := by decide +kernel
theorem dP_at_0 : decode b_P_at 0 = .ok (.aload_n 0, 1) := by decide +kernel
theorem dP_at_1 : decode b_P_at 1 = .ok (.getfield 55, 3) := by decide +kernel
theorem dP_at_4 : decode b_P_at 4 = .ok (.invokevirtual 186, 3) := by decide +kernel
theorem dP_at_7 : decode b_P_at 7 = .ok (.ifCond .ne 13, 3) := by decide +kernel
theorem dP_at_10 : decode b_P_at 10 = .ok (.new 128, 3) := by decide +kernel
theorem dP_at_13 : decode b_P_at 13 = .ok (.dup, 1) := by decide +kernel
theorem dP_at_14 : decode b_P_at 14 = .ok (.ldc 189, 2) := by decide +kernel
theorem dP_at_16 : decode b_P_at 16 = .ok (.invokespecial 132, 3) := by decide +kernel
theorem dP_at_19 : decode b_P_at 19 = .ok (.athrow, 1) := by decide +kernel
theorem dP_at_20 : decode b_P_at 20 = .ok (.iload_n 1, 1) := by decide +kernel
theorem dP_at_21 : decode b_P_at 21 = .ok (.iconst 0, 1) := by decide +kernel
theorem dP_at_22 : decode b_P_at 22 = .ok (.aload_n 0, 1) := by decide +kernel
theorem dP_at_23 : decode b_P_at 23 = .ok (.getfield 55, 3) := by decide +kernel
theorem dP_at_26 : decode b_P_at 26 = .ok (.invokevirtual 183, 3) := by decide +kernel
theorem dP_at_29 : decode b_P_at 29 = .ok (.iconst 1, 1) := by decide +kernel
theorem dP_at_30 : decode b_P_at 30 = .ok (.isub, 1) := by decide +kernel
theorem dP_at_31 : decode b_P_at 31 = .ok (.invokestatic 90, 3) := by decide +kernel
theorem dP_at_34 : decode b_P_at 34 = .ok (.ifCond .eq 12, 3) := by decide +kernel
theorem dP_at_37 : decode b_P_at 37 = .ok (.iload_n 2, 1) := by decide +kernel
theorem dP_at_38 : decode b_P_at 38 = .ok (.iconst 0, 1) := by decide +kernel
theorem dP_at_39 : decode b_P_at 39 = .ok (.iconst 1, 1) := by decide +kernel
theorem dP_at_40 : decode b_P_at 40 = .ok (.invokestatic 90, 3) := by decide +kernel
theorem dP_at_43 : decode b_P_at 43 = .ok (.ifCond .ne 13, 3) := by decide +kernel
theorem dP_at_46 : decode b_P_at 46 = .ok (.new 70, 3) := by decide +kernel
theorem dP_at_49 : decode b_P_at 49 = .ok (.dup, 1) := by decide +kernel
theorem dP_at_50 : decode b_P_at 50 = .ok (.ldc 191, 2) := by decide +kernel
theorem dP_at_52 : decode b_P_at 52 = .ok (.invokespecial 74, 3) := by decide +kernel
theorem dP_at_55 : decode b_P_at 55 = .ok (.athrow, 1) := by decide +kernel
theorem dP_at_56 : decode b_P_at 56 = .ok (.iload_n 2, 1) := by decide +kernel
theorem dP_at_57 : decode b_P_at 57 = .ok (.ifCond .ne 14, 3) := by decide +kernel
theorem dP_at_60 : decode b_P_at 60 = .ok (.aload_n 0, 1) := by decide +kernel
theorem dP_at_61 : decode b_P_at 61 = .ok (.getfield 55, 3) := by decide +kernel
theorem dP_at_64 : decode b_P_at 64 = .ok (.iload_n 1, 1) := by decide +kernel
theorem dP_at_65 : decode b_P_at 65 = .ok (.invokevirtual 193, 3) := by decide +kernel
theorem dP_at_68 : decode b_P_at 68 = .ok (.goto 11, 3) := by decide +kernel
theorem dP_at_71 : decode b_P_at 71 = .ok (.aload_n 0, 1) := by decide +kernel
theorem dP_at_72 : decode b_P_at 72 = .ok (.getfield 55, 3) := by decide +kernel
theorem dP_at_75 : decode b_P_at 75 = .ok (.iload_n 1, 1) := by decide +kernel
theorem dP_at_76 : decode b_P_at 76 = .ok (.invokevirtual 196, 3) := by decide +kernel
theorem dP_at_79 : decode b_P_at 79 = .ok (.ireturn, 1) := by decide +kernel
theorem dP_clipped_0 : decode b_P_clipped 0 = .ok (.aload_n 0, 1) := by decide +kernel
theorem dP_clipped_1 : decode b_P_clipped 1 = .ok (.getfield 55, 3) := by decide +kernel
theorem dP_clipped_4 : decode b_P_clipped 4 = .ok (.invokevirtual 186, 3) := by decide +kernel
theorem dP_clipped_7 : decode b_P_clipped 7 = .ok (.ifCond .ne 13, 3) := by decide +kernel
theorem dP_clipped_10 : decode b_P_clipped 10 = .ok (.new 128, 3) := by decide +kernel
theorem dP_clipped_13 : decode b_P_clipped 13 = .ok (.dup, 1) := by decide +kernel
theorem dP_clipped_14 : decode b_P_clipped 14 = .ok (.ldc 189, 2) := by decide +kernel
theorem dP_clipped_16 : decode b_P_clipped 16 = .ok (.invokespecial 132, 3) := by decide +kernel
theorem dP_clipped_19 : decode b_P_clipped 19 = .ok (.athrow, 1) := by decide +kernel
theorem dP_clipped_20 : decode b_P_clipped 20 = .ok (.iload_n 1, 1) := by decide +kernel
theorem dP_clipped_21 : decode b_P_clipped 21 = .ok (.iconst 0, 1) := by decide +kernel
theorem dP_clipped_22 : decode b_P_clipped 22 = .ok (.iconst 2, 1) := by decide +kernel
theorem dP_clipped_23 : decode b_P_clipped 23 = .ok (.invokestatic 90, 3) := by decide +kernel
theorem dP_clipped_26 : decode b_P_clipped 26 = .ok (.ifCond .ne 13, 3) := by decide +kernel
theorem dP_clipped_29 : decode b_P_clipped 29 = .ok (.new 70, 3) := by decide +kernel
theorem dP_clipped_32 : decode b_P_clipped 32 = .ok (.dup, 1) := by decide +kernel
theorem dP_clipped_33 : decode b_P_clipped 33 = .ok (.ldc 199, 2) := by decide +kernel
theorem dP_clipped_35 : decode b_P_clipped 35 = .ok (.invokespecial 74, 3) := by decide +kernel
theorem dP_clipped_38 : decode b_P_clipped 38 = .ok (.athrow, 1) := by decide +kernel
theorem dP_clipped_39 : decode b_P_clipped 39 = .ok (.iload_n 1, 1) := by decide +kernel
theorem dP_clipped_40 : decode b_P_clipped 40 = .ok (.ifCond .ne 13, 3) := by decide +kernel
theorem dP_clipped_43 : decode b_P_clipped 43 = .ok (.aload_n 0, 1) := by decide +kernel
theorem dP_clipped_44 : decode b_P_clipped 44 = .ok (.getfield 55, 3) := by decide +kernel
theorem dP_clipped_47 : decode b_P_clipped 47 = .ok (.invokevirtual 201, 3) := by decide +kernel
theorem dP_clipped_50 : decode b_P_clipped 50 = .ok (.goto 25, 3) := by decide +kernel
theorem dP_clipped_53 : decode b_P_clipped 53 = .ok (.iload_n 1, 1) := by decide +kernel
theorem dP_clipped_54 : decode b_P_clipped 54 = .ok (.iconst 1, 1) := by decide +kernel
theorem dP_clipped_55 : decode b_P_clipped 55 = .ok (.if_icmp .ne 13, 3) := by decide +kernel
theorem dP_clipped_58 : decode b_P_clipped 58 = .ok (.aload_n 0, 1) := by decide +kernel
theorem dP_clipped_59 : decode b_P_clipped 59 = .ok (.getfield 55, 3) := by decide +kernel
theorem dP_clipped_62 : decode b_P_clipped 62 = .ok (.invokevirtual 204, 3) := by decide +kernel
theorem dP_clipped_65 : decode b_P_clipped 65 = .ok (.goto 10, 3) := by decide +kernel
theorem dP_clipped_68 : decode b_P_clipped 68 = .ok (.aload_n 0, 1) := by decide +kernel
theorem dP_clipped_69 : decode b_P_clipped 69 = .ok (.getfield 55, 3) := by decide +kernel
theorem dP_clipped_72 : decode b_P_clipped 72 = .ok (.invokevirtual 207, 3) := by decide +kernel
theorem dP_clipped_75 : decode b_P_clipped 75 = .ok (.ireturn, 1) := by decide +kernel
theorem dP_shrink_0 : decode b_P_shrink 0 = .ok (.aload_n 0, 1) := by decide +kernel
theorem dP_shrink_1 : decode b_P_shrink 1 = .ok (.getfield 48, 3) := by decide +kernel
theorem dP_shrink_4 : decode b_P_shrink 4 = .ok (.iload_n 1, 1) := by decide +kernel
theorem dP_shrink_5 : decode b_P_shrink 5 = .ok (.invokevirtual 170, 3) := by decide +kernel
theorem dP_shrink_8 : decode b_P_shrink 8 = .ok (.ifCond .ne 13, 3) := by decide +kernel
theorem dP_shrink_11 : decode b_P_shrink 11 = .ok (.new 70, 3) := by decide +kernel
theorem dP_shrink_14 : decode b_P_shrink 14 = .ok (.dup, 1) := by decide +kernel
theorem dP_shrink_15 : decode b_P_shrink 15 = .ok (.ldc 210, 2) := by decide +kernel
theorem dP_shrink_17 : decode b_P_shrink 17 = .ok (.invokespecial 74, 3) := by decide +kernel
theorem dP_shrink_20 : decode b_P_shrink 20 = .ok (.athrow, 1) := by decide +kernel
theorem dP_shrink_21 : decode b_P_shrink 21 = .ok (.iload_n 3, 1) := by decide +kernel
theorem dP_shrink_22 : decode b_P_shrink 22 = .ok (.iconst 1, 1) := by decide +kernel
theorem dP_shrink_23 : decode b_P_shrink 23 = .ok (.sipush 1000, 3) := by decide +kernel
theorem dP_shrink_26 : decode b_P_shrink 26 = .ok (.invokestatic 90, 3) := by decide +kernel
theorem dP_shrink_29 : decode b_P_shrink 29 = .ok (.ifCond .eq 12, 3) := by decide +kernel
theorem dP_shrink_32 : decode b_P_shrink 32 = .ok (.iload_n 2, 1) := by decide +kernel
theorem dP_shrink_33 : decode b_P_shrink 33 = .ok (.iconst 0, 1) := by decide +kernel
theorem dP_shrink_34 : decode b_P_shrink 34 = .ok (.iload_n 3, 1) := by decide +kernel
theorem dP_shrink_35 : decode b_P_shrink 35 = .ok (.invokestatic 90, 3) := by decide +kernel
theorem dP_shrink_38 : decode b_P_shrink 38 = .ok (.ifCond .ne 13, 3) := by decide +kernel
theorem dP_shrink_41 : decode b_P_shrink 41 = .ok (.new 112, 3) := by decide +kernel
theorem dP_shrink_44 : decode b_P_shrink 44 = .ok (.dup, 1) := by decide +kernel
theorem dP_shrink_45 : decode b_P_shrink 45 = .ok (.ldc 212, 2) := by decide +kernel
theorem dP_shrink_47 : decode b_P_shrink 47 = .ok (.invokespecial 116, 3) := by decide +kernel
theorem dP_shrink_50 : decode b_P_shrink 50 = .ok (.athrow, 1) := by decide +kernel
theorem dP_shrink_51 : decode b_P_shrink 51 = .ok (.aload_n 0, 1) := by decide +kernel
theorem dP_shrink_52 : decode b_P_shrink 52 = .ok (.getfield 48, 3) := by decide +kernel
theorem dP_shrink_55 : decode b_P_shrink 55 = .ok (.iload_n 1, 1) := by decide +kernel
theorem dP_shrink_56 : decode b_P_shrink 56 = .ok (.invokevirtual 214, 3) := by decide +kernel
theorem dP_shrink_59 : decode b_P_shrink 59 = .ok (.iload_n 2, 1) := by decide +kernel
theorem dP_shrink_60 : decode b_P_shrink 60 = .ok (.imul, 1) := by decide +kernel
theorem dP_shrink_61 : decode b_P_shrink 61 = .ok (.iload_n 3, 1) := by decide +kernel
theorem dP_shrink_62 : decode b_P_shrink 62 = .ok (.idiv, 1) := by decide +kernel
theorem dP_shrink_63 : decode b_P_shrink 63 = .ok (.ireturn, 1) := by decide +kernel
theorem dP_row_0 : decode b_P_row 0 = .ok (.iload_n 1, 1) := by decide +kernel
theorem dP_row_1 : decode b_P_row 1 = .ok (.iconst 0, 1) := by decide +kernel
theorem dP_row_2 : decode b_P_row 2 = .ok (.sipush 1000, 3) := by decide +kernel
theorem dP_row_5 : decode b_P_row 5 = .ok (.invokestatic 90, 3) := by decide +kernel
theorem dP_row_8 : decode b_P_row 8 = .ok (.ifCond .eq 25, 3) := by decide +kernel
theorem dP_row_11 : decode b_P_row 11 = .ok (.aload_n 0, 1) := by decide +kernel
theorem dP_row_12 : decode b_P_row 12 = .ok (.getfield 62, 3) := by decide +kernel
theorem dP_row_15 : decode b_P_row 15 = .ok (.iload_n 1, 1) := by decide +kernel
theorem dP_row_16 : decode b_P_row 16 = .ok (.invokevirtual 217, 3) := by decide +kernel
theorem dP_row_19 : decode b_P_row 19 = .ok (.ifCond .eq 14, 3) := by decide +kernel
theorem dP_row_22 : decode b_P_row 22 = .ok (.iload_n 2, 1) := by decide +kernel
theorem dP_row_23 : decode b_P_row 23 = .ok (.bipush (-100), 2) := by decide +kernel
theorem dP_row_25 : decode b_P_row 25 = .ok (.bipush 100, 2) := by decide +kernel
theorem dP_row_27 : decode b_P_row 27 = .ok (.invokestatic 90, 3) := by decide +kernel
theorem dP_row_30 : decode b_P_row 30 = .ok (.ifCond .ne 13, 3) := by decide +kernel
theorem dP_row_33 : decode b_P_row 33 = .ok (.new 112, 3) := by decide +kernel
theorem dP_row_36 : decode b_P_row 36 = .ok (.dup, 1) := by decide +kernel
theorem dP_row_37 : decode b_P_row 37 = .ok (.ldc 220, 2) := by decide +kernel
theorem dP_row_39 : decode b_P_row 39 = .ok (.invokespecial 116, 3) := by decide +kernel
theorem dP_row_42 : decode b_P_row 42 = .ok (.athrow, 1) := by decide +kernel
theorem dP_row_43 : decode b_P_row 43 = .ok (.aload_n 0, 1) := by decide +kernel
theorem dP_row_44 : decode b_P_row 44 = .ok (.getfield 62, 3) := by decide +kernel
theorem dP_row_47 : decode b_P_row 47 = .ok (.iload_n 1, 1) := by decide +kernel
theorem dP_row_48 : decode b_P_row 48 = .ok (.iload_n 2, 1) := by decide +kernel
theorem dP_row_49 : decode b_P_row 49 = .ok (.invokevirtual 222, 3) := by decide +kernel
theorem dP_row_52 : decode b_P_row 52 = .ok (.ireturn, 1) := by decide +kernel
theorem dP_knife_0 : decode b_P_knife 0 = .ok (.iload_n 1, 1) := by decide +kernel
theorem dP_knife_1 : decode b_P_knife 1 = .ok (.iconst 0, 1) := by decide +kernel
theorem dP_knife_2 : decode b_P_knife 2 = .ok (.sipush 1000, 3) := by decide +kernel
theorem dP_knife_5 : decode b_P_knife 5 = .ok (.invokestatic 90, 3) := by decide +kernel
theorem dP_knife_8 : decode b_P_knife 8 = .ok (.ifCond .ne 13, 3) := by decide +kernel
theorem dP_knife_11 : decode b_P_knife 11 = .ok (.new 112, 3) := by decide +kernel
theorem dP_knife_14 : decode b_P_knife 14 = .ok (.dup, 1) := by decide +kernel
theorem dP_knife_15 : decode b_P_knife 15 = .ok (.ldc 224, 2) := by decide +kernel
theorem dP_knife_17 : decode b_P_knife 17 = .ok (.invokespecial 116, 3) := by decide +kernel
theorem dP_knife_20 : decode b_P_knife 20 = .ok (.athrow, 1) := by decide +kernel
theorem dP_knife_21 : decode b_P_knife 21 = .ok (.aload_n 0, 1) := by decide +kernel
theorem dP_knife_22 : decode b_P_knife 22 = .ok (.getfield 62, 3) := by decide +kernel
theorem dP_knife_25 : decode b_P_knife 25 = .ok (.iload_n 1, 1) := by decide +kernel
theorem dP_knife_26 : decode b_P_knife 26 = .ok (.invokevirtual 226, 3) := by decide +kernel
theorem dP_knife_29 : decode b_P_knife 29 = .ok (.ireturn, 1) := by decide +kernel
theorem dP_nearestOf_0 : decode b_P_nearestOf 0 = .ok (.iload_n 1, 1) := by decide +kernel
theorem dP_nearestOf_1 : decode b_P_nearestOf 1 = .ok (.iload_n 2, 1) := by decide +kernel
theorem dP_nearestOf_2 : decode b_P_nearestOf 2 = .ok (.iload_n 0, 1) := by decide +kernel
theorem dP_nearestOf_3 : decode b_P_nearestOf 3 = .ok (.invokestatic 229, 3) := by decide +kernel
theorem dP_nearestOf_6 : decode b_P_nearestOf 6 = .ok (.invokestatic 234, 3) := by decide +kernel
theorem dP_nearestOf_9 : decode b_P_nearestOf 9 = .ok (.ireturn, 1) := by decide +kernel
theorem dP_isWithin_0 : decode b_P_isWithin 0 = .ok (.iload_n 0, 1) := by decide +kernel
theorem dP_isWithin_1 : decode b_P_isWithin 1 = .ok (.iload_n 1, 1) := by decide +kernel
theorem dP_isWithin_2 : decode b_P_isWithin 2 = .ok (.if_icmp .lt 12, 3) := by decide +kernel
theorem dP_isWithin_5 : decode b_P_isWithin 5 = .ok (.iload_n 0, 1) := by decide +kernel
theorem dP_isWithin_6 : decode b_P_isWithin 6 = .ok (.iload_n 2, 1) := by decide +kernel
theorem dP_isWithin_7 : decode b_P_isWithin 7 = .ok (.if_icmp .gt 7, 3) := by decide +kernel
theorem dP_isWithin_10 : decode b_P_isWithin 10 = .ok (.iconst 1, 1) := by decide +kernel
theorem dP_isWithin_11 : decode b_P_isWithin 11 = .ok (.goto 4, 3) := by decide +kernel
theorem dP_isWithin_14 : decode b_P_isWithin 14 = .ok (.iconst 0, 1) := by decide +kernel
theorem dP_isWithin_15 : decode b_P_isWithin 15 = .ok (.ireturn, 1) := by decide +kernel
theorem dP_isKind_0 : decode b_P_isKind 0 = .ok (.iload_n 0, 1) := by decide +kernel
theorem dP_isKind_1 : decode b_P_isKind 1 = .ok (.iconst 0, 1) := by decide +kernel
theorem dP_isKind_2 : decode b_P_isKind 2 = .ok (.iconst 3, 1) := by decide +kernel
theorem dP_isKind_3 : decode b_P_isKind 3 = .ok (.invokestatic 90, 3) := by decide +kernel
theorem dP_isKind_6 : decode b_P_isKind 6 = .ok (.ireturn, 1) := by decide +kernel
