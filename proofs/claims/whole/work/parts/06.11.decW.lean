theorem dW_at0_0 : decode b_W_at0 0 = .ok (.iload_n 1, 1) := by decide +kernel
theorem dW_at0_1 : decode b_W_at0 1 = .ok (.aload_n 0, 1) := by decide +kernel
theorem dW_at0_2 : decode b_W_at0 2 = .ok (.arraylength, 1) := by decide +kernel
theorem dW_at0_3 : decode b_W_at0 3 = .ok (.if_icmp .ge 9, 3) := by decide +kernel
theorem dW_at0_6 : decode b_W_at0 6 = .ok (.aload_n 0, 1) := by decide +kernel
theorem dW_at0_7 : decode b_W_at0 7 = .ok (.iload_n 1, 1) := by decide +kernel
theorem dW_at0_8 : decode b_W_at0 8 = .ok (.iaload, 1) := by decide +kernel
theorem dW_at0_9 : decode b_W_at0 9 = .ok (.goto 4, 3) := by decide +kernel
theorem dW_at0_12 : decode b_W_at0 12 = .ok (.iconst 0, 1) := by decide +kernel
theorem dW_at0_13 : decode b_W_at0 13 = .ok (.ireturn, 1) := by decide +kernel
theorem dW_cell_0 : decode b_W_cell 0 = .ok (.aload 5, 2) := by decide +kernel
theorem dW_cell_2 : decode b_W_cell 2 = .ok (.iconst 0, 1) := by decide +kernel
theorem dW_cell_3 : decode b_W_cell 3 = .ok (.aload_n 0, 1) := by decide +kernel
theorem dW_cell_4 : decode b_W_cell 4 = .ok (.iload_n 1, 1) := by decide +kernel
theorem dW_cell_5 : decode b_W_cell 5 = .ok (.iload_n 2, 1) := by decide +kernel
theorem dW_cell_6 : decode b_W_cell 6 = .ok (.iload_n 3, 1) := by decide +kernel
theorem dW_cell_7 : decode b_W_cell 7 = .ok (.iload 4, 2) := by decide +kernel
theorem dW_cell_9 : decode b_W_cell 9 = .ok (.invokevirtual 7, 3) := by decide +kernel
theorem dW_cell_12 : decode b_W_cell 12 = .ok (.ifCond .eq 7, 3) := by decide +kernel
theorem dW_cell_15 : decode b_W_cell 15 = .ok (.lconst 1, 1) := by decide +kernel
theorem dW_cell_16 : decode b_W_cell 16 = .ok (.goto 4, 3) := by decide +kernel
theorem dW_cell_19 : decode b_W_cell 19 = .ok (.lconst 0, 1) := by decide +kernel
theorem dW_cell_20 : decode b_W_cell 20 = .ok (.lastore, 1) := by decide +kernel
theorem dW_cell_21 : decode b_W_cell 21 = .ok (.goto 7, 3) := by decide +kernel
theorem dW_cell_24 : decode b_W_cell 24 = .ok (.astore 6, 2) := by decide +kernel
theorem dW_cell_26 : decode b_W_cell 26 = .ok (.iconst 1, 1) := by decide +kernel
theorem dW_cell_27 : decode b_W_cell 27 = .ok (.ireturn, 1) := by decide +kernel
theorem dW_cell_28 : decode b_W_cell 28 = .ok (.iconst 0, 1) := by decide +kernel
theorem dW_cell_29 : decode b_W_cell 29 = .ok (.ireturn, 1) := by decide +kernel
theorem dW_axis_0 : decode b_W_axis 0 = .ok (.aload_n 2, 1) := by decide +kernel
theorem dW_axis_1 : decode b_W_axis 1 = .ok (.iconst 0, 1) := by decide +kernel
theorem dW_axis_2 : decode b_W_axis 2 = .ok (.aload_n 0, 1) := by decide +kernel
theorem dW_axis_3 : decode b_W_axis 3 = .ok (.iload_n 1, 1) := by decide +kernel
theorem dW_axis_4 : decode b_W_axis 4 = .ok (.invokevirtual 15, 3) := by decide +kernel
theorem dW_axis_7 : decode b_W_axis 7 = .ok (.i2l, 1) := by decide +kernel
theorem dW_axis_8 : decode b_W_axis 8 = .ok (.lastore, 1) := by decide +kernel
theorem dW_axis_9 : decode b_W_axis 9 = .ok (.goto 6, 3) := by decide +kernel
theorem dW_axis_12 : decode b_W_axis 12 = .ok (.astore_n 3, 1) := by decide +kernel
theorem dW_axis_13 : decode b_W_axis 13 = .ok (.iconst 1, 1) := by decide +kernel
theorem dW_axis_14 : decode b_W_axis 14 = .ok (.ireturn, 1) := by decide +kernel
theorem dW_axis_15 : decode b_W_axis 15 = .ok (.iconst 0, 1) := by decide +kernel
theorem dW_axis_16 : decode b_W_axis 16 = .ok (.ireturn, 1) := by decide +kernel
theorem dW_roomOf_0 : decode b_W_roomOf 0 = .ok (.aload 5, 2) := by decide +kernel
theorem dW_roomOf_2 : decode b_W_roomOf 2 = .ok (.iconst 0, 1) := by decide +kernel
theorem dW_roomOf_3 : decode b_W_roomOf 3 = .ok (.aload_n 0, 1) := by decide +kernel
theorem dW_roomOf_4 : decode b_W_roomOf 4 = .ok (.iload_n 1, 1) := by decide +kernel
theorem dW_roomOf_5 : decode b_W_roomOf 5 = .ok (.iload_n 2, 1) := by decide +kernel
theorem dW_roomOf_6 : decode b_W_roomOf 6 = .ok (.iload_n 3, 1) := by decide +kernel
theorem dW_roomOf_7 : decode b_W_roomOf 7 = .ok (.iload 4, 2) := by decide +kernel
theorem dW_roomOf_9 : decode b_W_roomOf 9 = .ok (.invokevirtual 19, 3) := by decide +kernel
theorem dW_roomOf_12 : decode b_W_roomOf 12 = .ok (.i2l, 1) := by decide +kernel
theorem dW_roomOf_13 : decode b_W_roomOf 13 = .ok (.lastore, 1) := by decide +kernel
theorem dW_roomOf_14 : decode b_W_roomOf 14 = .ok (.goto 7, 3) := by decide +kernel
theorem dW_roomOf_17 : decode b_W_roomOf 17 = .ok (.astore 6, 2) := by decide +kernel
theorem dW_roomOf_19 : decode b_W_roomOf 19 = .ok (.iconst 1, 1) := by decide +kernel
theorem dW_roomOf_20 : decode b_W_roomOf 20 = .ok (.ireturn, 1) := by decide +kernel
theorem dW_roomOf_21 : decode b_W_roomOf 21 = .ok (.iconst 0, 1) := by decide +kernel
theorem dW_roomOf_22 : decode b_W_roomOf 22 = .ok (.ireturn, 1) := by decide +kernel
theorem dW_peel_0 : decode b_W_peel 0 = .ok (.aload_n 3, 1) := by decide +kernel
theorem dW_peel_1 : decode b_W_peel 1 = .ok (.iconst 0, 1) := by decide +kernel
theorem dW_peel_2 : decode b_W_peel 2 = .ok (.aload_n 0, 1) := by decide +kernel
theorem dW_peel_3 : decode b_W_peel 3 = .ok (.iload_n 1, 1) := by decide +kernel
theorem dW_peel_4 : decode b_W_peel 4 = .ok (.iload_n 2, 1) := by decide +kernel
theorem dW_peel_5 : decode b_W_peel 5 = .ok (.invokevirtual 23, 3) := by decide +kernel
theorem dW_peel_8 : decode b_W_peel 8 = .ok (.i2l, 1) := by decide +kernel
theorem dW_peel_9 : decode b_W_peel 9 = .ok (.lastore, 1) := by decide +kernel
theorem dW_peel_10 : decode b_W_peel 10 = .ok (.goto 7, 3) := by decide +kernel
theorem dW_peel_13 : decode b_W_peel 13 = .ok (.astore 4, 2) := by decide +kernel
theorem dW_peel_15 : decode b_W_peel 15 = .ok (.iconst 1, 1) := by decide +kernel
theorem dW_peel_16 : decode b_W_peel 16 = .ok (.ireturn, 1) := by decide +kernel
theorem dW_peel_17 : decode b_W_peel 17 = .ok (.iconst 0, 1) := by decide +kernel
theorem dW_peel_18 : decode b_W_peel 18 = .ok (.ireturn, 1) := by decide +kernel
theorem dW_before_0 : decode b_W_before 0 = .ok (.aload_n 2, 1) := by decide +kernel
theorem dW_before_1 : decode b_W_before 1 = .ok (.iconst 0, 1) := by decide +kernel
theorem dW_before_2 : decode b_W_before 2 = .ok (.aload_n 0, 1) := by decide +kernel
theorem dW_before_3 : decode b_W_before 3 = .ok (.iload_n 1, 1) := by decide +kernel
theorem dW_before_4 : decode b_W_before 4 = .ok (.invokevirtual 29, 3) := by decide +kernel
theorem dW_before_7 : decode b_W_before 7 = .ok (.i2l, 1) := by decide +kernel
theorem dW_before_8 : decode b_W_before 8 = .ok (.lastore, 1) := by decide +kernel
theorem dW_before_9 : decode b_W_before 9 = .ok (.goto 9, 3) := by decide +kernel
theorem dW_before_12 : decode b_W_before 12 = .ok (.astore_n 3, 1) := by decide +kernel
theorem dW_before_13 : decode b_W_before 13 = .ok (.iconst 1, 1) := by decide +kernel
theorem dW_before_14 : decode b_W_before 14 = .ok (.ireturn, 1) := by decide +kernel
theorem dW_before_15 : decode b_W_before 15 = .ok (.astore_n 3, 1) := by decide +kernel
theorem dW_before_16 : decode b_W_before 16 = .ok (.iconst 2, 1) := by decide +kernel
theorem dW_before_17 : decode b_W_before 17 = .ok (.ireturn, 1) := by decide +kernel
theorem dW_before_18 : decode b_W_before 18 = .ok (.iconst 0, 1) := by decide +kernel
theorem dW_before_19 : decode b_W_before 19 = .ok (.ireturn, 1) := by decide +kernel
theorem dW_fault_0 : decode b_W_fault 0 = .ok (.aload 4, 2) := by decide +kernel
theorem dW_fault_2 : decode b_W_fault 2 = .ok (.iconst 0, 1) := by decide +kernel
theorem dW_fault_3 : decode b_W_fault 3 = .ok (.aload_n 0, 1) := by decide +kernel
theorem dW_fault_4 : decode b_W_fault 4 = .ok (.iload_n 1, 1) := by decide +kernel
theorem dW_fault_5 : decode b_W_fault 5 = .ok (.iload_n 2, 1) := by decide +kernel
theorem dW_fault_6 : decode b_W_fault 6 = .ok (.iload_n 3, 1) := by decide +kernel
theorem dW_fault_7 : decode b_W_fault 7 = .ok (.invokevirtual 34, 3) := by decide +kernel
theorem dW_fault_10 : decode b_W_fault 10 = .ok (.i2l, 1) := by decide +kernel
theorem dW_fault_11 : decode b_W_fault 11 = .ok (.lastore, 1) := by decide +kernel
theorem dW_fault_12 : decode b_W_fault 12 = .ok (.goto 11, 3) := by decide +kernel
theorem dW_fault_15 : decode b_W_fault 15 = .ok (.astore 5, 2) := by decide +kernel
theorem dW_fault_17 : decode b_W_fault 17 = .ok (.iconst 1, 1) := by decide +kernel
theorem dW_fault_18 : decode b_W_fault 18 = .ok (.ireturn, 1) := by decide +kernel
theorem dW_fault_19 : decode b_W_fault 19 = .ok (.astore 5, 2) := by decide +kernel
theorem dW_fault_21 : decode b_W_fault 21 = .ok (.iconst 2, 1) := by decide +kernel
theorem dW_fault_22 : decode b_W_fault 22 = .ok (.ireturn, 1) := by decide +kernel
theorem dW_fault_23 : decode b_W_fault 23 = .ok (.iconst 0, 1) := by decide +kernel
theorem dW_fault_24 : decode b_W_fault 24 = .ok (.ireturn, 1) := by decide +kernel
theorem dW_unrolled_0 : decode b_W_unrolled 0 = .ok (.aload_n 2, 1) := by decide +kernel
theorem dW_unrolled_1 : decode b_W_unrolled 1 = .ok (.iconst 0, 1) := by decide +kernel
theorem dW_unrolled_2 : decode b_W_unrolled 2 = .ok (.aload_n 0, 1) := by decide +kernel
theorem dW_unrolled_3 : decode b_W_unrolled 3 = .ok (.iload_n 1, 1) := by decide +kernel
theorem dW_unrolled_4 : decode b_W_unrolled 4 = .ok (.invokevirtual 38, 3) := by decide +kernel
theorem dW_unrolled_7 : decode b_W_unrolled 7 = .ok (.i2l, 1) := by decide +kernel
theorem dW_unrolled_8 : decode b_W_unrolled 8 = .ok (.lastore, 1) := by decide +kernel
theorem dW_unrolled_9 : decode b_W_unrolled 9 = .ok (.goto 9, 3) := by decide +kernel
theorem dW_unrolled_12 : decode b_W_unrolled 12 = .ok (.astore_n 3, 1) := by decide +kernel
theorem dW_unrolled_13 : decode b_W_unrolled 13 = .ok (.iconst 1, 1) := by decide +kernel
theorem dW_unrolled_14 : decode b_W_unrolled 14 = .ok (.ireturn, 1) := by decide +kernel
theorem dW_unrolled_15 : decode b_W_unrolled 15 = .ok (.astore_n 3, 1) := by decide +kernel
theorem dW_unrolled_16 : decode b_W_unrolled 16 = .ok (.iconst 2, 1) := by decide +kernel
theorem dW_unrolled_17 : decode b_W_unrolled 17 = .ok (.ireturn, 1) := by decide +kernel
theorem dW_unrolled_18 : decode b_W_unrolled 18 = .ok (.iconst 0, 1) := by decide +kernel
theorem dW_unrolled_19 : decode b_W_unrolled 19 = .ok (.ireturn, 1) := by decide +kernel
theorem dW_leaf_0 : decode b_W_leaf 0 = .ok (.aload_n 3, 1) := by decide +kernel
theorem dW_leaf_1 : decode b_W_leaf 1 = .ok (.iconst 0, 1) := by decide +kernel
theorem dW_leaf_2 : decode b_W_leaf 2 = .ok (.aload_n 0, 1) := by decide +kernel
theorem dW_leaf_3 : decode b_W_leaf 3 = .ok (.iload_n 1, 1) := by decide +kernel
theorem dW_leaf_4 : decode b_W_leaf 4 = .ok (.iload_n 2, 1) := by decide +kernel
theorem dW_leaf_5 : decode b_W_leaf 5 = .ok (.invokevirtual 41, 3) := by decide +kernel
theorem dW_leaf_8 : decode b_W_leaf 8 = .ok (.i2l, 1) := by decide +kernel
theorem dW_leaf_9 : decode b_W_leaf 9 = .ok (.lastore, 1) := by decide +kernel
theorem dW_leaf_10 : decode b_W_leaf 10 = .ok (.goto 11, 3) := by decide +kernel
theorem dW_leaf_13 : decode b_W_leaf 13 = .ok (.astore 4, 2) := by decide +kernel
theorem dW_leaf_15 : decode b_W_leaf 15 = .ok (.iconst 1, 1) := by decide +kernel
theorem dW_leaf_16 : decode b_W_leaf 16 = .ok (.ireturn, 1) := by decide +kernel
theorem dW_leaf_17 : decode b_W_leaf 17 = .ok (.astore 4, 2) := by decide +kernel
theorem dW_leaf_19 : decode b_W_leaf 19 = .ok (.iconst 2, 1) := by decide +kernel
theorem dW_leaf_20 : decode b_W_leaf 20 = .ok (.ireturn, 1) := by decide +kernel
theorem dW_leaf_21 : decode b_W_leaf 21 = .ok (.iconst 0, 1) := by decide +kernel
theorem dW_leaf_22 : decode b_W_leaf 22 = .ok (.ireturn, 1) := by decide +kernel
theorem dW_bars_0 : decode b_W_bars 0 = .ok (.aload 4, 2) := by decide +kernel
theorem dW_bars_2 : decode b_W_bars 2 = .ok (.iconst 0, 1) := by decide +kernel
theorem dW_bars_3 : decode b_W_bars 3 = .ok (.aload_n 0, 1) := by decide +kernel
theorem dW_bars_4 : decode b_W_bars 4 = .ok (.iload_n 1, 1) := by decide +kernel
theorem dW_bars_5 : decode b_W_bars 5 = .ok (.iload_n 2, 1) := by decide +kernel
theorem dW_bars_6 : decode b_W_bars 6 = .ok (.iload_n 3, 1) := by decide +kernel
theorem dW_bars_7 : decode b_W_bars 7 = .ok (.invokevirtual 44, 3) := by decide +kernel
theorem dW_bars_10 : decode b_W_bars 10 = .ok (.ifCond .eq 7, 3) := by decide +kernel
theorem dW_bars_13 : decode b_W_bars 13 = .ok (.lconst 1, 1) := by decide +kernel
theorem dW_bars_14 : decode b_W_bars 14 = .ok (.goto 4, 3) := by decide +kernel
theorem dW_bars_17 : decode b_W_bars 17 = .ok (.lconst 0, 1) := by decide +kernel
theorem dW_bars_18 : decode b_W_bars 18 = .ok (.lastore, 1) := by decide +kernel
theorem dW_bars_19 : decode b_W_bars 19 = .ok (.goto 7, 3) := by decide +kernel
theorem dW_bars_22 : decode b_W_bars 22 = .ok (.astore 5, 2) := by decide +kernel
theorem dW_bars_24 : decode b_W_bars 24 = .ok (.iconst 1, 1) := by decide +kernel
theorem dW_bars_25 : decode b_W_bars 25 = .ok (.ireturn, 1) := by decide +kernel
theorem dW_bars_26 : decode b_W_bars 26 = .ok (.iconst 0, 1) := by decide +kernel
theorem dW_bars_27 : decode b_W_bars 27 = .ok (.ireturn, 1) := by decide +kernel
theorem dW_clip_0 : decode b_W_clip 0 = .ok (.aload_n 2, 1) := by decide +kernel
theorem dW_clip_1 : decode b_W_clip 1 = .ok (.iconst 0, 1) := by decide +kernel
theorem dW_clip_2 : decode b_W_clip 2 = .ok (.aload_n 0, 1) := by decide +kernel
theorem dW_clip_3 : decode b_W_clip 3 = .ok (.iload_n 1, 1) := by decide +kernel
theorem dW_clip_4 : decode b_W_clip 4 = .ok (.invokevirtual 48, 3) := by decide +kernel
theorem dW_clip_7 : decode b_W_clip 7 = .ok (.i2l, 1) := by decide +kernel
theorem dW_clip_8 : decode b_W_clip 8 = .ok (.lastore, 1) := by decide +kernel
theorem dW_clip_9 : decode b_W_clip 9 = .ok (.goto 9, 3) := by decide +kernel
theorem dW_clip_12 : decode b_W_clip 12 = .ok (.astore_n 3, 1) := by decide +kernel
theorem dW_clip_13 : decode b_W_clip 13 = .ok (.iconst 1, 1) := by decide +kernel
theorem dW_clip_14 : decode b_W_clip 14 = .ok (.ireturn, 1) := by decide +kernel
theorem dW_clip_15 : decode b_W_clip 15 = .ok (.astore_n 3, 1) := by decide +kernel
theorem dW_clip_16 : decode b_W_clip 16 = .ok (.iconst 2, 1) := by decide +kernel
theorem dW_clip_17 : decode b_W_clip 17 = .ok (.ireturn, 1) := by decide +kernel
theorem dW_clip_18 : decode b_W_clip 18 = .ok (.iconst 0, 1) := by decide +kernel
theorem dW_clip_19 : decode b_W_clip 19 = .ok (.ireturn, 1) := by decide +kernel
theorem dW_at_0 : decode b_W_at 0 = .ok (.aload_n 3, 1) := by decide +kernel
theorem dW_at_1 : decode b_W_at 1 = .ok (.iconst 0, 1) := by decide +kernel
theorem dW_at_2 : decode b_W_at 2 = .ok (.aload_n 0, 1) := by decide +kernel
theorem dW_at_3 : decode b_W_at 3 = .ok (.iload_n 1, 1) := by decide +kernel
theorem dW_at_4 : decode b_W_at 4 = .ok (.iload_n 2, 1) := by decide +kernel
theorem dW_at_5 : decode b_W_at 5 = .ok (.invokevirtual 51, 3) := by decide +kernel
theorem dW_at_8 : decode b_W_at 8 = .ok (.i2l, 1) := by decide +kernel
theorem dW_at_9 : decode b_W_at 9 = .ok (.lastore, 1) := by decide +kernel
theorem dW_at_10 : decode b_W_at 10 = .ok (.goto 11, 3) := by decide +kernel
theorem dW_at_13 : decode b_W_at 13 = .ok (.astore 4, 2) := by decide +kernel
theorem dW_at_15 : decode b_W_at 15 = .ok (.iconst 1, 1) := by decide +kernel
theorem dW_at_16 : decode b_W_at 16 = .ok (.ireturn, 1) := by decide +kernel
theorem dW_at_17 : decode b_W_at 17 = .ok (.astore 4, 2) := by decide +kernel
theorem dW_at_19 : decode b_W_at 19 = .ok (.iconst 2, 1) := by decide +kernel
theorem dW_at_20 : decode b_W_at 20 = .ok (.ireturn, 1) := by decide +kernel
theorem dW_at_21 : decode b_W_at 21 = .ok (.iconst 0, 1) := by decide +kernel
theorem dW_at_22 : decode b_W_at 22 = .ok (.ireturn, 1) := by decide +kernel
theorem dW_clipped_0 : decode b_W_clipped 0 = .ok (.aload_n 2, 1) := by decide +kernel
theorem dW_clipped_1 : decode b_W_clipped 1 = .ok (.iconst 0, 1) := by decide +kernel
theorem dW_clipped_2 : decode b_W_clipped 2 = .ok (.aload_n 0, 1) := by decide +kernel
theorem dW_clipped_3 : decode b_W_clipped 3 = .ok (.iload_n 1, 1) := by decide +kernel
theorem dW_clipped_4 : decode b_W_clipped 4 = .ok (.invokevirtual 54, 3) := by decide +kernel
theorem dW_clipped_7 : decode b_W_clipped 7 = .ok (.i2l, 1) := by decide +kernel
theorem dW_clipped_8 : decode b_W_clipped 8 = .ok (.lastore, 1) := by decide +kernel
theorem dW_clipped_9 : decode b_W_clipped 9 = .ok (.goto 9, 3) := by decide +kernel
theorem dW_clipped_12 : decode b_W_clipped 12 = .ok (.astore_n 3, 1) := by decide +kernel
theorem dW_clipped_13 : decode b_W_clipped 13 = .ok (.iconst 1, 1) := by decide +kernel
theorem dW_clipped_14 : decode b_W_clipped 14 = .ok (.ireturn, 1) := by decide +kernel
theorem dW_clipped_15 : decode b_W_clipped 15 = .ok (.astore_n 3, 1) := by decide +kernel
theorem dW_clipped_16 : decode b_W_clipped 16 = .ok (.iconst 2, 1) := by decide +kernel
theorem dW_clipped_17 : decode b_W_clipped 17 = .ok (.ireturn, 1) := by decide +kernel
theorem dW_clipped_18 : decode b_W_clipped 18 = .ok (.iconst 0, 1) := by decide +kernel
theorem dW_clipped_19 : decode b_W_clipped 19 = .ok (.ireturn, 1) := by decide +kernel
theorem dW_shrink_0 : decode b_W_shrink 0 = .ok (.aload 4, 2) := by decide +kernel
theorem dW_shrink_2 : decode b_W_shrink 2 = .ok (.iconst 0, 1) := by decide +kernel
theorem dW_shrink_3 : decode b_W_shrink 3 = .ok (.aload_n 0, 1) := by decide +kernel
theorem dW_shrink_4 : decode b_W_shrink 4 = .ok (.iload_n 1, 1) := by decide +kernel
theorem dW_shrink_5 : decode b_W_shrink 5 = .ok (.iload_n 2, 1) := by decide +kernel
theorem dW_shrink_6 : decode b_W_shrink 6 = .ok (.iload_n 3, 1) := by decide +kernel
theorem dW_shrink_7 : decode b_W_shrink 7 = .ok (.invokevirtual 57, 3) := by decide +kernel
theorem dW_shrink_10 : decode b_W_shrink 10 = .ok (.i2l, 1) := by decide +kernel
theorem dW_shrink_11 : decode b_W_shrink 11 = .ok (.lastore, 1) := by decide +kernel
theorem dW_shrink_12 : decode b_W_shrink 12 = .ok (.goto 11, 3) := by decide +kernel
theorem dW_shrink_15 : decode b_W_shrink 15 = .ok (.astore 5, 2) := by decide +kernel
theorem dW_shrink_17 : decode b_W_shrink 17 = .ok (.iconst 1, 1) := by decide +kernel
theorem dW_shrink_18 : decode b_W_shrink 18 = .ok (.ireturn, 1) := by decide +kernel
theorem dW_shrink_19 : decode b_W_shrink 19 = .ok (.astore 5, 2) := by decide +kernel
theorem dW_shrink_21 : decode b_W_shrink 21 = .ok (.iconst 2, 1) := by decide +kernel
theorem dW_shrink_22 : decode b_W_shrink 22 = .ok (.ireturn, 1) := by decide +kernel
theorem dW_shrink_23 : decode b_W_shrink 23 = .ok (.iconst 0, 1) := by decide +kernel
theorem dW_shrink_24 : decode b_W_shrink 24 = .ok (.ireturn, 1) := by decide +kernel
theorem dW_row_0 : decode b_W_row 0 = .ok (.aload_n 3, 1) := by decide +kernel
theorem dW_row_1 : decode b_W_row 1 = .ok (.iconst 0, 1) := by decide +kernel
theorem dW_row_2 : decode b_W_row 2 = .ok (.aload_n 0, 1) := by decide +kernel
theorem dW_row_3 : decode b_W_row 3 = .ok (.iload_n 1, 1) := by decide +kernel
theorem dW_row_4 : decode b_W_row 4 = .ok (.iload_n 2, 1) := by decide +kernel
theorem dW_row_5 : decode b_W_row 5 = .ok (.invokevirtual 60, 3) := by decide +kernel
theorem dW_row_8 : decode b_W_row 8 = .ok (.ifCond .eq 7, 3) := by decide +kernel
theorem dW_row_11 : decode b_W_row 11 = .ok (.lconst 1, 1) := by decide +kernel
theorem dW_row_12 : decode b_W_row 12 = .ok (.goto 4, 3) := by decide +kernel
theorem dW_row_15 : decode b_W_row 15 = .ok (.lconst 0, 1) := by decide +kernel
theorem dW_row_16 : decode b_W_row 16 = .ok (.lastore, 1) := by decide +kernel
theorem dW_row_17 : decode b_W_row 17 = .ok (.goto 7, 3) := by decide +kernel
theorem dW_row_20 : decode b_W_row 20 = .ok (.astore 4, 2) := by decide +kernel
theorem dW_row_22 : decode b_W_row 22 = .ok (.iconst 1, 1) := by decide +kernel
theorem dW_row_23 : decode b_W_row 23 = .ok (.ireturn, 1) := by decide +kernel
theorem dW_row_24 : decode b_W_row 24 = .ok (.iconst 0, 1) := by decide +kernel
theorem dW_row_25 : decode b_W_row 25 = .ok (.ireturn, 1) := by decide +kernel
theorem dW_knife_0 : decode b_W_knife 0 = .ok (.aload_n 2, 1) := by decide +kernel
theorem dW_knife_1 : decode b_W_knife 1 = .ok (.iconst 0, 1) := by decide +kernel
theorem dW_knife_2 : decode b_W_knife 2 = .ok (.aload_n 0, 1) := by decide +kernel
theorem dW_knife_3 : decode b_W_knife 3 = .ok (.iload_n 1, 1) := by decide +kernel
theorem dW_knife_4 : decode b_W_knife 4 = .ok (.invokevirtual 64, 3) := by decide +kernel
theorem dW_knife_7 : decode b_W_knife 7 = .ok (.i2l, 1) := by decide +kernel
theorem dW_knife_8 : decode b_W_knife 8 = .ok (.lastore, 1) := by decide +kernel
theorem dW_knife_9 : decode b_W_knife 9 = .ok (.goto 6, 3) := by decide +kernel
theorem dW_knife_12 : decode b_W_knife 12 = .ok (.astore_n 3, 1) := by decide +kernel
theorem dW_knife_13 : decode b_W_knife 13 = .ok (.iconst 1, 1) := by decide +kernel
theorem dW_knife_14 : decode b_W_knife 14 = .ok (.ireturn, 1) := by decide +kernel
theorem dW_knife_15 : decode b_W_knife 15 = .ok (.iconst 0, 1) := by decide +kernel
theorem dW_knife_16 : decode b_W_knife 16 = .ok (.ireturn, 1) := by decide +kernel
