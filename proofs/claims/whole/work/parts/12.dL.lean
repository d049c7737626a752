/-! decode rows -/
theorem d_L_store_0 : decode method_3_code 0 = .ok (.aload_n 3, 1) := by decide +kernel
theorem d_L_store_1 : decode method_3_code 1 = .ok (.iconst 0, 1) := by decide +kernel
theorem d_L_store_2 : decode method_3_code 2 = .ok (.aload_n 0, 1) := by decide +kernel
theorem d_L_store_3 : decode method_3_code 3 = .ok (.iload_n 1, 1) := by decide +kernel
theorem d_L_store_4 : decode method_3_code 4 = .ok (.iload_n 2, 1) := by decide +kernel
theorem d_L_store_5 : decode method_3_code 5 = .ok (.invokevirtual 7, 3) := by decide +kernel
theorem d_L_store_8 : decode method_3_code 8 = .ok (.i2l, 1) := by decide +kernel
theorem d_L_store_9 : decode method_3_code 9 = .ok (.lastore, 1) := by decide +kernel
theorem d_L_store_10 : decode method_3_code 10 = .ok (.goto 11, 3) := by decide +kernel
theorem d_L_store_13 : decode method_3_code 13 = .ok (.astore 4, 2) := by decide +kernel
theorem d_L_store_15 : decode method_3_code 15 = .ok (.iconst 1, 1) := by decide +kernel
theorem d_L_store_16 : decode method_3_code 16 = .ok (.ireturn, 1) := by decide +kernel
theorem d_L_store_17 : decode method_3_code 17 = .ok (.astore 4, 2) := by decide +kernel
theorem d_L_store_19 : decode method_3_code 19 = .ok (.iconst 2, 1) := by decide +kernel
theorem d_L_store_20 : decode method_3_code 20 = .ok (.ireturn, 1) := by decide +kernel
theorem d_L_store_21 : decode method_3_code 21 = .ok (.iconst 0, 1) := by decide +kernel
theorem d_L_store_22 : decode method_3_code 22 = .ok (.ireturn, 1) := by decide +kernel
theorem d_L_slice_0 : decode method_4_code 0 = .ok (.aload 6, 2) := by decide +kernel
theorem d_L_slice_2 : decode method_4_code 2 = .ok (.iconst 0, 1) := by decide +kernel
theorem d_L_slice_3 : decode method_4_code 3 = .ok (.aload_n 0, 1) := by decide +kernel
theorem d_L_slice_4 : decode method_4_code 4 = .ok (.iload_n 1, 1) := by decide +kernel
theorem d_L_slice_5 : decode method_4_code 5 = .ok (.iload_n 2, 1) := by decide +kernel
theorem d_L_slice_6 : decode method_4_code 6 = .ok (.iload_n 3, 1) := by decide +kernel
theorem d_L_slice_7 : decode method_4_code 7 = .ok (.iload 4, 2) := by decide +kernel
theorem d_L_slice_9 : decode method_4_code 9 = .ok (.iload 5, 2) := by decide +kernel
theorem d_L_slice_11 : decode method_4_code 11 = .ok (.invokevirtual 17, 3) := by decide +kernel
theorem d_L_slice_14 : decode method_4_code 14 = .ok (.i2l, 1) := by decide +kernel
theorem d_L_slice_15 : decode method_4_code 15 = .ok (.lastore, 1) := by decide +kernel
theorem d_L_slice_16 : decode method_4_code 16 = .ok (.goto 15, 3) := by decide +kernel
theorem d_L_slice_19 : decode method_4_code 19 = .ok (.astore 7, 2) := by decide +kernel
theorem d_L_slice_21 : decode method_4_code 21 = .ok (.iconst 1, 1) := by decide +kernel
theorem d_L_slice_22 : decode method_4_code 22 = .ok (.ireturn, 1) := by decide +kernel
theorem d_L_slice_23 : decode method_4_code 23 = .ok (.astore 7, 2) := by decide +kernel
theorem d_L_slice_25 : decode method_4_code 25 = .ok (.iconst 2, 1) := by decide +kernel
theorem d_L_slice_26 : decode method_4_code 26 = .ok (.ireturn, 1) := by decide +kernel
theorem d_L_slice_27 : decode method_4_code 27 = .ok (.astore 7, 2) := by decide +kernel
theorem d_L_slice_29 : decode method_4_code 29 = .ok (.iconst 3, 1) := by decide +kernel
theorem d_L_slice_30 : decode method_4_code 30 = .ok (.ireturn, 1) := by decide +kernel
theorem d_L_slice_31 : decode method_4_code 31 = .ok (.iconst 0, 1) := by decide +kernel
theorem d_L_slice_32 : decode method_4_code 32 = .ok (.ireturn, 1) := by decide +kernel
theorem d_L_pick_0 : decode method_5_code 0 = .ok (.aload 4, 2) := by decide +kernel
theorem d_L_pick_2 : decode method_5_code 2 = .ok (.iconst 0, 1) := by decide +kernel
theorem d_L_pick_3 : decode method_5_code 3 = .ok (.aload_n 0, 1) := by decide +kernel
theorem d_L_pick_4 : decode method_5_code 4 = .ok (.iload_n 1, 1) := by decide +kernel
theorem d_L_pick_5 : decode method_5_code 5 = .ok (.iload_n 2, 1) := by decide +kernel
theorem d_L_pick_6 : decode method_5_code 6 = .ok (.iload_n 3, 1) := by decide +kernel
theorem d_L_pick_7 : decode method_5_code 7 = .ok (.invokevirtual 23, 3) := by decide +kernel
theorem d_L_pick_10 : decode method_5_code 10 = .ok (.i2l, 1) := by decide +kernel
theorem d_L_pick_11 : decode method_5_code 11 = .ok (.lastore, 1) := by decide +kernel
theorem d_L_pick_12 : decode method_5_code 12 = .ok (.goto 11, 3) := by decide +kernel
theorem d_L_pick_15 : decode method_5_code 15 = .ok (.astore 5, 2) := by decide +kernel
theorem d_L_pick_17 : decode method_5_code 17 = .ok (.iconst 1, 1) := by decide +kernel
theorem d_L_pick_18 : decode method_5_code 18 = .ok (.ireturn, 1) := by decide +kernel
theorem d_L_pick_19 : decode method_5_code 19 = .ok (.astore 5, 2) := by decide +kernel
theorem d_L_pick_21 : decode method_5_code 21 = .ok (.iconst 2, 1) := by decide +kernel
theorem d_L_pick_22 : decode method_5_code 22 = .ok (.ireturn, 1) := by decide +kernel
theorem d_L_pick_23 : decode method_5_code 23 = .ok (.iconst 0, 1) := by decide +kernel
theorem d_L_pick_24 : decode method_5_code 24 = .ok (.ireturn, 1) := by decide +kernel
theorem d_L_turn_0 : decode method_6_code 0 = .ok (.aload 4, 2) := by decide +kernel
theorem d_L_turn_2 : decode method_6_code 2 = .ok (.iconst 0, 1) := by decide +kernel
theorem d_L_turn_3 : decode method_6_code 3 = .ok (.aload_n 0, 1) := by decide +kernel
theorem d_L_turn_4 : decode method_6_code 4 = .ok (.iload_n 1, 1) := by decide +kernel
theorem d_L_turn_5 : decode method_6_code 5 = .ok (.iload_n 2, 1) := by decide +kernel
theorem d_L_turn_6 : decode method_6_code 6 = .ok (.iload_n 3, 1) := by decide +kernel
theorem d_L_turn_7 : decode method_6_code 7 = .ok (.invokevirtual 27, 3) := by decide +kernel
theorem d_L_turn_10 : decode method_6_code 10 = .ok (.i2l, 1) := by decide +kernel
theorem d_L_turn_11 : decode method_6_code 11 = .ok (.lastore, 1) := by decide +kernel
theorem d_L_turn_12 : decode method_6_code 12 = .ok (.goto 11, 3) := by decide +kernel
theorem d_L_turn_15 : decode method_6_code 15 = .ok (.astore 5, 2) := by decide +kernel
theorem d_L_turn_17 : decode method_6_code 17 = .ok (.iconst 1, 1) := by decide +kernel
theorem d_L_turn_18 : decode method_6_code 18 = .ok (.ireturn, 1) := by decide +kernel
theorem d_L_turn_19 : decode method_6_code 19 = .ok (.astore 5, 2) := by decide +kernel
theorem d_L_turn_21 : decode method_6_code 21 = .ok (.iconst 2, 1) := by decide +kernel
theorem d_L_turn_22 : decode method_6_code 22 = .ok (.ireturn, 1) := by decide +kernel
theorem d_L_turn_23 : decode method_6_code 23 = .ok (.iconst 0, 1) := by decide +kernel
theorem d_L_turn_24 : decode method_6_code 24 = .ok (.ireturn, 1) := by decide +kernel
theorem d_L_spread_0 : decode method_7_code 0 = .ok (.aload 4, 2) := by decide +kernel
theorem d_L_spread_2 : decode method_7_code 2 = .ok (.iconst 0, 1) := by decide +kernel
theorem d_L_spread_3 : decode method_7_code 3 = .ok (.aload_n 0, 1) := by decide +kernel
theorem d_L_spread_4 : decode method_7_code 4 = .ok (.iload_n 1, 1) := by decide +kernel
theorem d_L_spread_5 : decode method_7_code 5 = .ok (.iload_n 2, 1) := by decide +kernel
theorem d_L_spread_6 : decode method_7_code 6 = .ok (.iload_n 3, 1) := by decide +kernel
theorem d_L_spread_7 : decode method_7_code 7 = .ok (.invokevirtual 30, 3) := by decide +kernel
theorem d_L_spread_10 : decode method_7_code 10 = .ok (.i2l, 1) := by decide +kernel
theorem d_L_spread_11 : decode method_7_code 11 = .ok (.lastore, 1) := by decide +kernel
theorem d_L_spread_12 : decode method_7_code 12 = .ok (.goto 15, 3) := by decide +kernel
theorem d_L_spread_15 : decode method_7_code 15 = .ok (.astore 5, 2) := by decide +kernel
theorem d_L_spread_17 : decode method_7_code 17 = .ok (.iconst 1, 1) := by decide +kernel
theorem d_L_spread_18 : decode method_7_code 18 = .ok (.ireturn, 1) := by decide +kernel
theorem d_L_spread_19 : decode method_7_code 19 = .ok (.astore 5, 2) := by decide +kernel
theorem d_L_spread_21 : decode method_7_code 21 = .ok (.iconst 2, 1) := by decide +kernel
theorem d_L_spread_22 : decode method_7_code 22 = .ok (.ireturn, 1) := by decide +kernel
theorem d_L_spread_23 : decode method_7_code 23 = .ok (.astore 5, 2) := by decide +kernel
theorem d_L_spread_25 : decode method_7_code 25 = .ok (.iconst 3, 1) := by decide +kernel
theorem d_L_spread_26 : decode method_7_code 26 = .ok (.ireturn, 1) := by decide +kernel
theorem d_L_spread_27 : decode method_7_code 27 = .ok (.iconst 0, 1) := by decide +kernel
theorem d_L_spread_28 : decode method_7_code 28 = .ok (.ireturn, 1) := by decide +kernel
theorem d_L_diagonal_0 : decode method_8_code 0 = .ok (.aload 4, 2) := by decide +kernel
theorem d_L_diagonal_2 : decode method_8_code 2 = .ok (.iconst 0, 1) := by decide +kernel
theorem d_L_diagonal_3 : decode method_8_code 3 = .ok (.aload_n 0, 1) := by decide +kernel
theorem d_L_diagonal_4 : decode method_8_code 4 = .ok (.iload_n 1, 1) := by decide +kernel
theorem d_L_diagonal_5 : decode method_8_code 5 = .ok (.iload_n 2, 1) := by decide +kernel
theorem d_L_diagonal_6 : decode method_8_code 6 = .ok (.iload_n 3, 1) := by decide +kernel
theorem d_L_diagonal_7 : decode method_8_code 7 = .ok (.invokevirtual 33, 3) := by decide +kernel
theorem d_L_diagonal_10 : decode method_8_code 10 = .ok (.i2l, 1) := by decide +kernel
theorem d_L_diagonal_11 : decode method_8_code 11 = .ok (.lastore, 1) := by decide +kernel
theorem d_L_diagonal_12 : decode method_8_code 12 = .ok (.goto 15, 3) := by decide +kernel
theorem d_L_diagonal_15 : decode method_8_code 15 = .ok (.astore 5, 2) := by decide +kernel
theorem d_L_diagonal_17 : decode method_8_code 17 = .ok (.iconst 1, 1) := by decide +kernel
theorem d_L_diagonal_18 : decode method_8_code 18 = .ok (.ireturn, 1) := by decide +kernel
theorem d_L_diagonal_19 : decode method_8_code 19 = .ok (.astore 5, 2) := by decide +kernel
theorem d_L_diagonal_21 : decode method_8_code 21 = .ok (.iconst 2, 1) := by decide +kernel
theorem d_L_diagonal_22 : decode method_8_code 22 = .ok (.ireturn, 1) := by decide +kernel
theorem d_L_diagonal_23 : decode method_8_code 23 = .ok (.astore 5, 2) := by decide +kernel
theorem d_L_diagonal_25 : decode method_8_code 25 = .ok (.iconst 3, 1) := by decide +kernel
theorem d_L_diagonal_26 : decode method_8_code 26 = .ok (.ireturn, 1) := by decide +kernel
theorem d_L_diagonal_27 : decode method_8_code 27 = .ok (.iconst 0, 1) := by decide +kernel
theorem d_L_diagonal_28 : decode method_8_code 28 = .ok (.ireturn, 1) := by decide +kernel
theorem d_L_shape_0 : decode method_9_code 0 = .ok (.aload 5, 2) := by decide +kernel
theorem d_L_shape_2 : decode method_9_code 2 = .ok (.iconst 0, 1) := by decide +kernel
theorem d_L_shape_3 : decode method_9_code 3 = .ok (.aload_n 0, 1) := by decide +kernel
theorem d_L_shape_4 : decode method_9_code 4 = .ok (.iload_n 1, 1) := by decide +kernel
theorem d_L_shape_5 : decode method_9_code 5 = .ok (.iload_n 2, 1) := by decide +kernel
theorem d_L_shape_6 : decode method_9_code 6 = .ok (.iload_n 3, 1) := by decide +kernel
theorem d_L_shape_7 : decode method_9_code 7 = .ok (.iload 4, 2) := by decide +kernel
theorem d_L_shape_9 : decode method_9_code 9 = .ok (.invokevirtual 36, 3) := by decide +kernel
theorem d_L_shape_12 : decode method_9_code 12 = .ok (.i2l, 1) := by decide +kernel
theorem d_L_shape_13 : decode method_9_code 13 = .ok (.lastore, 1) := by decide +kernel
theorem d_L_shape_14 : decode method_9_code 14 = .ok (.goto 15, 3) := by decide +kernel
theorem d_L_shape_17 : decode method_9_code 17 = .ok (.astore 6, 2) := by decide +kernel
theorem d_L_shape_19 : decode method_9_code 19 = .ok (.iconst 1, 1) := by decide +kernel
theorem d_L_shape_20 : decode method_9_code 20 = .ok (.ireturn, 1) := by decide +kernel
theorem d_L_shape_21 : decode method_9_code 21 = .ok (.astore 6, 2) := by decide +kernel
theorem d_L_shape_23 : decode method_9_code 23 = .ok (.iconst 2, 1) := by decide +kernel
theorem d_L_shape_24 : decode method_9_code 24 = .ok (.ireturn, 1) := by decide +kernel
theorem d_L_shape_25 : decode method_9_code 25 = .ok (.astore 6, 2) := by decide +kernel
theorem d_L_shape_27 : decode method_9_code 27 = .ok (.iconst 3, 1) := by decide +kernel
theorem d_L_shape_28 : decode method_9_code 28 = .ok (.ireturn, 1) := by decide +kernel
theorem d_L_shape_29 : decode method_9_code 29 = .ok (.iconst 0, 1) := by decide +kernel
theorem d_L_shape_30 : decode method_9_code 30 = .ok (.ireturn, 1) := by decide +kernel
theorem d_L_compact_0 : decode method_10_code 0 = .ok (.aload_n 3, 1) := by decide +kernel
theorem d_L_compact_1 : decode method_10_code 1 = .ok (.iconst 0, 1) := by decide +kernel
theorem d_L_compact_2 : decode method_10_code 2 = .ok (.aload_n 0, 1) := by decide +kernel
theorem d_L_compact_3 : decode method_10_code 3 = .ok (.iload_n 1, 1) := by decide +kernel
theorem d_L_compact_4 : decode method_10_code 4 = .ok (.iload_n 2, 1) := by decide +kernel
theorem d_L_compact_5 : decode method_10_code 5 = .ok (.invokevirtual 40, 3) := by decide +kernel
theorem d_L_compact_8 : decode method_10_code 8 = .ok (.i2l, 1) := by decide +kernel
theorem d_L_compact_9 : decode method_10_code 9 = .ok (.lastore, 1) := by decide +kernel
theorem d_L_compact_10 : decode method_10_code 10 = .ok (.goto 15, 3) := by decide +kernel
theorem d_L_compact_13 : decode method_10_code 13 = .ok (.astore 4, 2) := by decide +kernel
theorem d_L_compact_15 : decode method_10_code 15 = .ok (.iconst 1, 1) := by decide +kernel
theorem d_L_compact_16 : decode method_10_code 16 = .ok (.ireturn, 1) := by decide +kernel
theorem d_L_compact_17 : decode method_10_code 17 = .ok (.astore 4, 2) := by decide +kernel
theorem d_L_compact_19 : decode method_10_code 19 = .ok (.iconst 2, 1) := by decide +kernel
theorem d_L_compact_20 : decode method_10_code 20 = .ok (.ireturn, 1) := by decide +kernel
theorem d_L_compact_21 : decode method_10_code 21 = .ok (.astore 4, 2) := by decide +kernel
theorem d_L_compact_23 : decode method_10_code 23 = .ok (.iconst 3, 1) := by decide +kernel
theorem d_L_compact_24 : decode method_10_code 24 = .ok (.ireturn, 1) := by decide +kernel
theorem d_L_compact_25 : decode method_10_code 25 = .ok (.iconst 0, 1) := by decide +kernel
theorem d_L_compact_26 : decode method_10_code 26 = .ok (.ireturn, 1) := by decide +kernel
theorem d_L_at_0 : decode method_11_code 0 = .ok (.aload_n 3, 1) := by decide +kernel
theorem d_L_at_1 : decode method_11_code 1 = .ok (.iconst 0, 1) := by decide +kernel
theorem d_L_at_2 : decode method_11_code 2 = .ok (.aload_n 0, 1) := by decide +kernel
theorem d_L_at_3 : decode method_11_code 3 = .ok (.iload_n 1, 1) := by decide +kernel
theorem d_L_at_4 : decode method_11_code 4 = .ok (.iload_n 2, 1) := by decide +kernel
theorem d_L_at_5 : decode method_11_code 5 = .ok (.invokevirtual 43, 3) := by decide +kernel
theorem d_L_at_8 : decode method_11_code 8 = .ok (.lastore, 1) := by decide +kernel
theorem d_L_at_9 : decode method_11_code 9 = .ok (.goto 7, 3) := by decide +kernel
theorem d_L_at_12 : decode method_11_code 12 = .ok (.astore 4, 2) := by decide +kernel
theorem d_L_at_14 : decode method_11_code 14 = .ok (.iconst 1, 1) := by decide +kernel
theorem d_L_at_15 : decode method_11_code 15 = .ok (.ireturn, 1) := by decide +kernel
theorem d_L_at_16 : decode method_11_code 16 = .ok (.iconst 0, 1) := by decide +kernel
theorem d_L_at_17 : decode method_11_code 17 = .ok (.ireturn, 1) := by decide +kernel
theorem d_L_put_0 : decode method_12_code 0 = .ok (.aload 5, 2) := by decide +kernel
theorem d_L_put_2 : decode method_12_code 2 = .ok (.iconst 0, 1) := by decide +kernel
theorem d_L_put_3 : decode method_12_code 3 = .ok (.aload_n 0, 1) := by decide +kernel
theorem d_L_put_4 : decode method_12_code 4 = .ok (.iload_n 1, 1) := by decide +kernel
theorem d_L_put_5 : decode method_12_code 5 = .ok (.iload_n 2, 1) := by decide +kernel
theorem d_L_put_6 : decode method_12_code 6 = .ok (.lload_n 3, 1) := by decide +kernel
theorem d_L_put_7 : decode method_12_code 7 = .ok (.invokevirtual 47, 3) := by decide +kernel
theorem d_L_put_10 : decode method_12_code 10 = .ok (.lastore, 1) := by decide +kernel
theorem d_L_put_11 : decode method_12_code 11 = .ok (.goto 11, 3) := by decide +kernel
theorem d_L_put_14 : decode method_12_code 14 = .ok (.astore 6, 2) := by decide +kernel
theorem d_L_put_16 : decode method_12_code 16 = .ok (.iconst 1, 1) := by decide +kernel
theorem d_L_put_17 : decode method_12_code 17 = .ok (.ireturn, 1) := by decide +kernel
theorem d_L_put_18 : decode method_12_code 18 = .ok (.astore 6, 2) := by decide +kernel
theorem d_L_put_20 : decode method_12_code 20 = .ok (.iconst 2, 1) := by decide +kernel
theorem d_L_put_21 : decode method_12_code 21 = .ok (.ireturn, 1) := by decide +kernel
theorem d_L_put_22 : decode method_12_code 22 = .ok (.iconst 0, 1) := by decide +kernel
theorem d_L_put_23 : decode method_12_code 23 = .ok (.ireturn, 1) := by decide +kernel
theorem d_L_copy_0 : decode method_13_code 0 = .ok (.aload_n 3, 1) := by decide +kernel
theorem d_L_copy_1 : decode method_13_code 1 = .ok (.iconst 0, 1) := by decide +kernel
theorem d_L_copy_2 : decode method_13_code 2 = .ok (.aload_n 0, 1) := by decide +kernel
theorem d_L_copy_3 : decode method_13_code 3 = .ok (.iload_n 1, 1) := by decide +kernel
theorem d_L_copy_4 : decode method_13_code 4 = .ok (.iload_n 2, 1) := by decide +kernel
theorem d_L_copy_5 : decode method_13_code 5 = .ok (.invokevirtual 51, 3) := by decide +kernel
theorem d_L_copy_8 : decode method_13_code 8 = .ok (.i2l, 1) := by decide +kernel
theorem d_L_copy_9 : decode method_13_code 9 = .ok (.lastore, 1) := by decide +kernel
theorem d_L_copy_10 : decode method_13_code 10 = .ok (.goto 15, 3) := by decide +kernel
theorem d_L_copy_13 : decode method_13_code 13 = .ok (.astore 4, 2) := by decide +kernel
theorem d_L_copy_15 : decode method_13_code 15 = .ok (.iconst 1, 1) := by decide +kernel
theorem d_L_copy_16 : decode method_13_code 16 = .ok (.ireturn, 1) := by decide +kernel
theorem d_L_copy_17 : decode method_13_code 17 = .ok (.astore 4, 2) := by decide +kernel
theorem d_L_copy_19 : decode method_13_code 19 = .ok (.iconst 2, 1) := by decide +kernel
theorem d_L_copy_20 : decode method_13_code 20 = .ok (.ireturn, 1) := by decide +kernel
theorem d_L_copy_21 : decode method_13_code 21 = .ok (.astore 4, 2) := by decide +kernel
theorem d_L_copy_23 : decode method_13_code 23 = .ok (.iconst 3, 1) := by decide +kernel
theorem d_L_copy_24 : decode method_13_code 24 = .ok (.ireturn, 1) := by decide +kernel
theorem d_L_copy_25 : decode method_13_code 25 = .ok (.iconst 0, 1) := by decide +kernel
theorem d_L_copy_26 : decode method_13_code 26 = .ok (.ireturn, 1) := by decide +kernel
theorem d_L_act_0 : decode method_14_code 0 = .ok (.aload 5, 2) := by decide +kernel
theorem d_L_act_2 : decode method_14_code 2 = .ok (.iconst 0, 1) := by decide +kernel
theorem d_L_act_3 : decode method_14_code 3 = .ok (.aload_n 0, 1) := by decide +kernel
theorem d_L_act_4 : decode method_14_code 4 = .ok (.iload_n 1, 1) := by decide +kernel
theorem d_L_act_5 : decode method_14_code 5 = .ok (.iload_n 2, 1) := by decide +kernel
theorem d_L_act_6 : decode method_14_code 6 = .ok (.iload_n 3, 1) := by decide +kernel
theorem d_L_act_7 : decode method_14_code 7 = .ok (.iload 4, 2) := by decide +kernel
theorem d_L_act_9 : decode method_14_code 9 = .ok (.invokevirtual 54, 3) := by decide +kernel
theorem d_L_act_12 : decode method_14_code 12 = .ok (.i2l, 1) := by decide +kernel
theorem d_L_act_13 : decode method_14_code 13 = .ok (.lastore, 1) := by decide +kernel
theorem d_L_act_14 : decode method_14_code 14 = .ok (.goto 15, 3) := by decide +kernel
theorem d_L_act_17 : decode method_14_code 17 = .ok (.astore 6, 2) := by decide +kernel
theorem d_L_act_19 : decode method_14_code 19 = .ok (.iconst 1, 1) := by decide +kernel
theorem d_L_act_20 : decode method_14_code 20 = .ok (.ireturn, 1) := by decide +kernel
theorem d_L_act_21 : decode method_14_code 21 = .ok (.astore 6, 2) := by decide +kernel
theorem d_L_act_23 : decode method_14_code 23 = .ok (.iconst 2, 1) := by decide +kernel
theorem d_L_act_24 : decode method_14_code 24 = .ok (.ireturn, 1) := by decide +kernel
theorem d_L_act_25 : decode method_14_code 25 = .ok (.astore 6, 2) := by decide +kernel
theorem d_L_act_27 : decode method_14_code 27 = .ok (.iconst 3, 1) := by decide +kernel
theorem d_L_act_28 : decode method_14_code 28 = .ok (.ireturn, 1) := by decide +kernel
theorem d_L_act_29 : decode method_14_code 29 = .ok (.iconst 0, 1) := by decide +kernel
theorem d_L_act_30 : decode method_14_code 30 = .ok (.ireturn, 1) := by decide +kernel
theorem d_L_fold_0 : decode method_15_code 0 = .ok (.aload 4, 2) := by decide +kernel
theorem d_L_fold_2 : decode method_15_code 2 = .ok (.iconst 0, 1) := by decide +kernel
theorem d_L_fold_3 : decode method_15_code 3 = .ok (.aload_n 0, 1) := by decide +kernel
theorem d_L_fold_4 : decode method_15_code 4 = .ok (.iload_n 1, 1) := by decide +kernel
theorem d_L_fold_5 : decode method_15_code 5 = .ok (.iload_n 2, 1) := by decide +kernel
theorem d_L_fold_6 : decode method_15_code 6 = .ok (.iload_n 3, 1) := by decide +kernel
theorem d_L_fold_7 : decode method_15_code 7 = .ok (.invokevirtual 57, 3) := by decide +kernel
theorem d_L_fold_10 : decode method_15_code 10 = .ok (.i2l, 1) := by decide +kernel
theorem d_L_fold_11 : decode method_15_code 11 = .ok (.lastore, 1) := by decide +kernel
theorem d_L_fold_12 : decode method_15_code 12 = .ok (.goto 15, 3) := by decide +kernel
theorem d_L_fold_15 : decode method_15_code 15 = .ok (.astore 5, 2) := by decide +kernel
theorem d_L_fold_17 : decode method_15_code 17 = .ok (.iconst 1, 1) := by decide +kernel
theorem d_L_fold_18 : decode method_15_code 18 = .ok (.ireturn, 1) := by decide +kernel
theorem d_L_fold_19 : decode method_15_code 19 = .ok (.astore 5, 2) := by decide +kernel
theorem d_L_fold_21 : decode method_15_code 21 = .ok (.iconst 2, 1) := by decide +kernel
theorem d_L_fold_22 : decode method_15_code 22 = .ok (.ireturn, 1) := by decide +kernel
theorem d_L_fold_23 : decode method_15_code 23 = .ok (.astore 5, 2) := by decide +kernel
theorem d_L_fold_25 : decode method_15_code 25 = .ok (.iconst 3, 1) := by decide +kernel
theorem d_L_fold_26 : decode method_15_code 26 = .ok (.ireturn, 1) := by decide +kernel
theorem d_L_fold_27 : decode method_15_code 27 = .ok (.iconst 0, 1) := by decide +kernel
theorem d_L_fold_28 : decode method_15_code 28 = .ok (.ireturn, 1) := by decide +kernel
theorem d_L_shared_0 : decode method_16_code 0 = .ok (.aload_n 3, 1) := by decide +kernel
theorem d_L_shared_1 : decode method_16_code 1 = .ok (.iconst 0, 1) := by decide +kernel
theorem d_L_shared_2 : decode method_16_code 2 = .ok (.aload_n 0, 1) := by decide +kernel
theorem d_L_shared_3 : decode method_16_code 3 = .ok (.iload_n 1, 1) := by decide +kernel
theorem d_L_shared_4 : decode method_16_code 4 = .ok (.iload_n 2, 1) := by decide +kernel
theorem d_L_shared_5 : decode method_16_code 5 = .ok (.invokevirtual 60, 3) := by decide +kernel
theorem d_L_shared_8 : decode method_16_code 8 = .ok (.i2l, 1) := by decide +kernel
theorem d_L_shared_9 : decode method_16_code 9 = .ok (.lastore, 1) := by decide +kernel
theorem d_L_shared_10 : decode method_16_code 10 = .ok (.goto 7, 3) := by decide +kernel
theorem d_L_shared_13 : decode method_16_code 13 = .ok (.astore 4, 2) := by decide +kernel
theorem d_L_shared_15 : decode method_16_code 15 = .ok (.iconst 1, 1) := by decide +kernel
theorem d_L_shared_16 : decode method_16_code 16 = .ok (.ireturn, 1) := by decide +kernel
theorem d_L_shared_17 : decode method_16_code 17 = .ok (.iconst 0, 1) := by decide +kernel
theorem d_L_shared_18 : decode method_16_code 18 = .ok (.ireturn, 1) := by decide +kernel
theorem d_L_same_0 : decode method_17_code 0 = .ok (.aload_n 3, 1) := by decide +kernel
theorem d_L_same_1 : decode method_17_code 1 = .ok (.iconst 0, 1) := by decide +kernel
theorem d_L_same_2 : decode method_17_code 2 = .ok (.aload_n 0, 1) := by decide +kernel
theorem d_L_same_3 : decode method_17_code 3 = .ok (.iload_n 1, 1) := by decide +kernel
theorem d_L_same_4 : decode method_17_code 4 = .ok (.iload_n 2, 1) := by decide +kernel
theorem d_L_same_5 : decode method_17_code 5 = .ok (.invokevirtual 63, 3) := by decide +kernel
theorem d_L_same_8 : decode method_17_code 8 = .ok (.ifCond .eq 7, 3) := by decide +kernel
theorem d_L_same_11 : decode method_17_code 11 = .ok (.lconst 1, 1) := by decide +kernel
theorem d_L_same_12 : decode method_17_code 12 = .ok (.goto 4, 3) := by decide +kernel
theorem d_L_same_15 : decode method_17_code 15 = .ok (.lconst 0, 1) := by decide +kernel
theorem d_L_same_16 : decode method_17_code 16 = .ok (.lastore, 1) := by decide +kernel
theorem d_L_same_17 : decode method_17_code 17 = .ok (.goto 7, 3) := by decide +kernel
theorem d_L_same_20 : decode method_17_code 20 = .ok (.astore 4, 2) := by decide +kernel
theorem d_L_same_22 : decode method_17_code 22 = .ok (.iconst 1, 1) := by decide +kernel
theorem d_L_same_23 : decode method_17_code 23 = .ok (.ireturn, 1) := by decide +kernel
theorem d_L_same_24 : decode method_17_code 24 = .ok (.iconst 0, 1) := by decide +kernel
theorem d_L_same_25 : decode method_17_code 25 = .ok (.ireturn, 1) := by decide +kernel
theorem d_L_runs_0 : decode method_18_code 0 = .ok (.aload_n 2, 1) := by decide +kernel
theorem d_L_runs_1 : decode method_18_code 1 = .ok (.iconst 0, 1) := by decide +kernel
theorem d_L_runs_2 : decode method_18_code 2 = .ok (.aload_n 0, 1) := by decide +kernel
theorem d_L_runs_3 : decode method_18_code 3 = .ok (.iload_n 1, 1) := by decide +kernel
theorem d_L_runs_4 : decode method_18_code 4 = .ok (.invokevirtual 67, 3) := by decide +kernel
theorem d_L_runs_7 : decode method_18_code 7 = .ok (.i2l, 1) := by decide +kernel
theorem d_L_runs_8 : decode method_18_code 8 = .ok (.lastore, 1) := by decide +kernel
theorem d_L_runs_9 : decode method_18_code 9 = .ok (.goto 6, 3) := by decide +kernel
theorem d_L_runs_12 : decode method_18_code 12 = .ok (.astore_n 3, 1) := by decide +kernel
theorem d_L_runs_13 : decode method_18_code 13 = .ok (.iconst 1, 1) := by decide +kernel
theorem d_L_runs_14 : decode method_18_code 14 = .ok (.ireturn, 1) := by decide +kernel
theorem d_L_runs_15 : decode method_18_code 15 = .ok (.iconst 0, 1) := by decide +kernel
theorem d_L_runs_16 : decode method_18_code 16 = .ok (.ireturn, 1) := by decide +kernel
theorem d_L_told_0 : decode method_19_code 0 = .ok (.aload_n 3, 1) := by decide +kernel
theorem d_L_told_1 : decode method_19_code 1 = .ok (.iconst 0, 1) := by decide +kernel
theorem d_L_told_2 : decode method_19_code 2 = .ok (.aload_n 0, 1) := by decide +kernel
theorem d_L_told_3 : decode method_19_code 3 = .ok (.iload_n 1, 1) := by decide +kernel
theorem d_L_told_4 : decode method_19_code 4 = .ok (.iload_n 2, 1) := by decide +kernel
theorem d_L_told_5 : decode method_19_code 5 = .ok (.invokevirtual 71, 3) := by decide +kernel
theorem d_L_told_8 : decode method_19_code 8 = .ok (.i2l, 1) := by decide +kernel
theorem d_L_told_9 : decode method_19_code 9 = .ok (.lastore, 1) := by decide +kernel
theorem d_L_told_10 : decode method_19_code 10 = .ok (.goto 11, 3) := by decide +kernel
theorem d_L_told_13 : decode method_19_code 13 = .ok (.astore 4, 2) := by decide +kernel
theorem d_L_told_15 : decode method_19_code 15 = .ok (.iconst 1, 1) := by decide +kernel
theorem d_L_told_16 : decode method_19_code 16 = .ok (.ireturn, 1) := by decide +kernel
theorem d_L_told_17 : decode method_19_code 17 = .ok (.astore 4, 2) := by decide +kernel
theorem d_L_told_19 : decode method_19_code 19 = .ok (.iconst 2, 1) := by decide +kernel
theorem d_L_told_20 : decode method_19_code 20 = .ok (.ireturn, 1) := by decide +kernel
theorem d_L_told_21 : decode method_19_code 21 = .ok (.iconst 0, 1) := by decide +kernel
theorem d_L_told_22 : decode method_19_code 22 = .ok (.ireturn, 1) := by decide +kernel
theorem d_L_axis_0 : decode method_20_code 0 = .ok (.aload 4, 2) := by decide +kernel
theorem d_L_axis_2 : decode method_20_code 2 = .ok (.iconst 0, 1) := by decide +kernel
theorem d_L_axis_3 : decode method_20_code 3 = .ok (.aload_n 0, 1) := by decide +kernel
theorem d_L_axis_4 : decode method_20_code 4 = .ok (.iload_n 1, 1) := by decide +kernel
theorem d_L_axis_5 : decode method_20_code 5 = .ok (.iload_n 2, 1) := by decide +kernel
theorem d_L_axis_6 : decode method_20_code 6 = .ok (.iload_n 3, 1) := by decide +kernel
theorem d_L_axis_7 : decode method_20_code 7 = .ok (.invokevirtual 74, 3) := by decide +kernel
theorem d_L_axis_10 : decode method_20_code 10 = .ok (.i2l, 1) := by decide +kernel
theorem d_L_axis_11 : decode method_20_code 11 = .ok (.lastore, 1) := by decide +kernel
theorem d_L_axis_12 : decode method_20_code 12 = .ok (.goto 11, 3) := by decide +kernel
theorem d_L_axis_15 : decode method_20_code 15 = .ok (.astore 5, 2) := by decide +kernel
theorem d_L_axis_17 : decode method_20_code 17 = .ok (.iconst 1, 1) := by decide +kernel
theorem d_L_axis_18 : decode method_20_code 18 = .ok (.ireturn, 1) := by decide +kernel
theorem d_L_axis_19 : decode method_20_code 19 = .ok (.astore 5, 2) := by decide +kernel
theorem d_L_axis_21 : decode method_20_code 21 = .ok (.iconst 2, 1) := by decide +kernel
theorem d_L_axis_22 : decode method_20_code 22 = .ok (.ireturn, 1) := by decide +kernel
theorem d_L_axis_23 : decode method_20_code 23 = .ok (.iconst 0, 1) := by decide +kernel
theorem d_L_axis_24 : decode method_20_code 24 = .ok (.ireturn, 1) := by decide +kernel
theorem d_L_stored_0 : decode method_21_code 0 = .ok (.aload_n 3, 1) := by decide +kernel
theorem d_L_stored_1 : decode method_21_code 1 = .ok (.iconst 0, 1) := by decide +kernel
theorem d_L_stored_2 : decode method_21_code 2 = .ok (.aload_n 0, 1) := by decide +kernel
theorem d_L_stored_3 : decode method_21_code 3 = .ok (.iload_n 1, 1) := by decide +kernel
theorem d_L_stored_4 : decode method_21_code 4 = .ok (.iload_n 2, 1) := by decide +kernel
theorem d_L_stored_5 : decode method_21_code 5 = .ok (.invokevirtual 77, 3) := by decide +kernel
theorem d_L_stored_8 : decode method_21_code 8 = .ok (.i2l, 1) := by decide +kernel
theorem d_L_stored_9 : decode method_21_code 9 = .ok (.lastore, 1) := by decide +kernel
theorem d_L_stored_10 : decode method_21_code 10 = .ok (.goto 11, 3) := by decide +kernel
theorem d_L_stored_13 : decode method_21_code 13 = .ok (.astore 4, 2) := by decide +kernel
theorem d_L_stored_15 : decode method_21_code 15 = .ok (.iconst 1, 1) := by decide +kernel
theorem d_L_stored_16 : decode method_21_code 16 = .ok (.ireturn, 1) := by decide +kernel
theorem d_L_stored_17 : decode method_21_code 17 = .ok (.astore 4, 2) := by decide +kernel
theorem d_L_stored_19 : decode method_21_code 19 = .ok (.iconst 2, 1) := by decide +kernel
theorem d_L_stored_20 : decode method_21_code 20 = .ok (.ireturn, 1) := by decide +kernel
theorem d_L_stored_21 : decode method_21_code 21 = .ok (.iconst 0, 1) := by decide +kernel
theorem d_L_stored_22 : decode method_21_code 22 = .ok (.ireturn, 1) := by decide +kernel
theorem d_L_count_0 : decode method_22_code 0 = .ok (.aload_n 2, 1) := by decide +kernel
theorem d_L_count_1 : decode method_22_code 1 = .ok (.iconst 0, 1) := by decide +kernel
theorem d_L_count_2 : decode method_22_code 2 = .ok (.aload_n 0, 1) := by decide +kernel
theorem d_L_count_3 : decode method_22_code 3 = .ok (.iload_n 1, 1) := by decide +kernel
theorem d_L_count_4 : decode method_22_code 4 = .ok (.invokevirtual 80, 3) := by decide +kernel
theorem d_L_count_7 : decode method_22_code 7 = .ok (.i2l, 1) := by decide +kernel
theorem d_L_count_8 : decode method_22_code 8 = .ok (.lastore, 1) := by decide +kernel
theorem d_L_count_9 : decode method_22_code 9 = .ok (.goto 6, 3) := by decide +kernel
theorem d_L_count_12 : decode method_22_code 12 = .ok (.astore_n 3, 1) := by decide +kernel
theorem d_L_count_13 : decode method_22_code 13 = .ok (.iconst 1, 1) := by decide +kernel
theorem d_L_count_14 : decode method_22_code 14 = .ok (.ireturn, 1) := by decide +kernel
theorem d_L_count_15 : decode method_22_code 15 = .ok (.iconst 0, 1) := by decide +kernel
theorem d_L_count_16 : decode method_22_code 16 = .ok (.ireturn, 1) := by decide +kernel
theorem d_L_law_0 : decode code 0 = .ok (.new 8, 3) := by decide +kernel
theorem d_L_law_3 : decode code 3 = .ok (.dup, 1) := by decide +kernel
theorem d_L_law_4 : decode code 4 = .ok (.invokespecial 83, 3) := by decide +kernel
theorem d_L_law_7 : decode code 7 = .ok (.astore_n 1, 1) := by decide +kernel
theorem d_L_law_8 : decode code 8 = .ok (.new 84, 3) := by decide +kernel
theorem d_L_law_11 : decode code 11 = .ok (.dup, 1) := by decide +kernel
theorem d_L_law_12 : decode code 12 = .ok (.invokespecial 86, 3) := by decide +kernel
theorem d_L_law_15 : decode code 15 = .ok (.astore_n 2, 1) := by decide +kernel
theorem d_L_law_16 : decode code 16 = .ok (.iconst 1, 1) := by decide +kernel
theorem d_L_law_17 : decode code 17 = .ok (.newarray .long, 2) := by decide +kernel
theorem d_L_law_19 : decode code 19 = .ok (.astore_n 3, 1) := by decide +kernel
theorem d_L_law_20 : decode code 20 = .ok (.iconst 0, 1) := by decide +kernel
theorem d_L_law_21 : decode code 21 = .ok (.istore 4, 2) := by decide +kernel
theorem d_L_law_23 : decode code 23 = .ok (.iload 4, 2) := by decide +kernel
theorem d_L_law_25 : decode code 25 = .ok (.aload_n 0, 1) := by decide +kernel
theorem d_L_law_26 : decode code 26 = .ok (.arraylength, 1) := by decide +kernel
theorem d_L_law_27 : decode code 27 = .ok (.bipush 6, 2) := by decide +kernel
theorem d_L_law_29 : decode code 29 = .ok (.isub, 1) := by decide +kernel
theorem d_L_law_30 : decode code 30 = .ok (.if_icmp .gt 1653, 3) := by decide +kernel
theorem d_L_law_33 : decode code 33 = .ok (.aload_n 0, 1) := by decide +kernel
theorem d_L_law_34 : decode code 34 = .ok (.iload 4, 2) := by decide +kernel
theorem d_L_law_36 : decode code 36 = .ok (.iaload, 1) := by decide +kernel
theorem d_L_law_37 : decode code 37 = .ok (.bipush 31, 2) := by decide +kernel
theorem d_L_law_39 : decode code 39 = .ok (.iand, 1) := by decide +kernel
theorem d_L_law_40 : decode code 40 = .ok (.tableswitch 1637 0 19 #[96, 164, 268, 348, 428, 508, 588, 680, 748, 815, 926, 994, 1086, 1166, 1234, 1309, 1365, 1433, 1513, 1581], 96) := by decide +kernel
theorem d_L_law_136 : decode code 136 = .ok (.aload_n 1, 1) := by decide +kernel
theorem d_L_law_137 : decode code 137 = .ok (.aload_n 0, 1) := by decide +kernel
theorem d_L_law_138 : decode code 138 = .ok (.iload 4, 2) := by decide +kernel
theorem d_L_law_140 : decode code 140 = .ok (.iconst 1, 1) := by decide +kernel
theorem d_L_law_141 : decode code 141 = .ok (.iadd, 1) := by decide +kernel
theorem d_L_law_142 : decode code 142 = .ok (.iaload, 1) := by decide +kernel
theorem d_L_law_143 : decode code 143 = .ok (.aload_n 0, 1) := by decide +kernel
theorem d_L_law_144 : decode code 144 = .ok (.iload 4, 2) := by decide +kernel
theorem d_L_law_146 : decode code 146 = .ok (.iconst 2, 1) := by decide +kernel
theorem d_L_law_147 : decode code 147 = .ok (.iadd, 1) := by decide +kernel
theorem d_L_law_148 : decode code 148 = .ok (.iaload, 1) := by decide +kernel
theorem d_L_law_149 : decode code 149 = .ok (.aload_n 3, 1) := by decide +kernel
theorem d_L_law_150 : decode code 150 = .ok (.invokestatic 87, 3) := by decide +kernel
theorem d_L_law_153 : decode code 153 = .ok (.istore 5, 2) := by decide +kernel
theorem d_L_law_155 : decode code 155 = .ok (.aload_n 2, 1) := by decide +kernel
theorem d_L_law_156 : decode code 156 = .ok (.aload_n 0, 1) := by decide +kernel
theorem d_L_law_157 : decode code 157 = .ok (.iload 4, 2) := by decide +kernel
theorem d_L_law_159 : decode code 159 = .ok (.iconst 1, 1) := by decide +kernel
theorem d_L_law_160 : decode code 160 = .ok (.iadd, 1) := by decide +kernel
theorem d_L_law_161 : decode code 161 = .ok (.iaload, 1) := by decide +kernel
theorem d_L_law_162 : decode code 162 = .ok (.aload_n 0, 1) := by decide +kernel
theorem d_L_law_163 : decode code 163 = .ok (.iload 4, 2) := by decide +kernel
theorem d_L_law_165 : decode code 165 = .ok (.iconst 2, 1) := by decide +kernel
theorem d_L_law_166 : decode code 166 = .ok (.iadd, 1) := by decide +kernel
theorem d_L_law_167 : decode code 167 = .ok (.iaload, 1) := by decide +kernel
theorem d_L_law_168 : decode code 168 = .ok (.invokevirtual 92, 3) := by decide +kernel
theorem d_L_law_171 : decode code 171 = .ok (.istore 6, 2) := by decide +kernel
theorem d_L_law_173 : decode code 173 = .ok (.aload_n 2, 1) := by decide +kernel
theorem d_L_law_174 : decode code 174 = .ok (.invokevirtual 93, 3) := by decide +kernel
theorem d_L_law_177 : decode code 177 = .ok (.iload 5, 2) := by decide +kernel
theorem d_L_law_179 : decode code 179 = .ok (.if_icmp .eq 5, 3) := by decide +kernel
theorem d_L_law_182 : decode code 182 = .ok (.iconst 0, 1) := by decide +kernel
theorem d_L_law_183 : decode code 183 = .ok (.ireturn, 1) := by decide +kernel
theorem d_L_law_184 : decode code 184 = .ok (.iload 5, 2) := by decide +kernel
theorem d_L_law_186 : decode code 186 = .ok (.ifCond .ne 15, 3) := by decide +kernel
theorem d_L_law_189 : decode code 189 = .ok (.aload_n 3, 1) := by decide +kernel
theorem d_L_law_190 : decode code 190 = .ok (.iconst 0, 1) := by decide +kernel
theorem d_L_law_191 : decode code 191 = .ok (.laload, 1) := by decide +kernel
theorem d_L_law_192 : decode code 192 = .ok (.iload 6, 2) := by decide +kernel
theorem d_L_law_194 : decode code 194 = .ok (.i2l, 1) := by decide +kernel
theorem d_L_law_195 : decode code 195 = .ok (.lcmp, 1) := by decide +kernel
theorem d_L_law_196 : decode code 196 = .ok (.ifCond .eq 5, 3) := by decide +kernel
theorem d_L_law_199 : decode code 199 = .ok (.iconst 0, 1) := by decide +kernel
theorem d_L_law_200 : decode code 200 = .ok (.ireturn, 1) := by decide +kernel
theorem d_L_law_201 : decode code 201 = .ok (.goto 1476, 3) := by decide +kernel
theorem d_L_law_204 : decode code 204 = .ok (.aload_n 1, 1) := by decide +kernel
theorem d_L_law_205 : decode code 205 = .ok (.aload_n 0, 1) := by decide +kernel
theorem d_L_law_206 : decode code 206 = .ok (.iload 4, 2) := by decide +kernel
theorem d_L_law_208 : decode code 208 = .ok (.iconst 1, 1) := by decide +kernel
theorem d_L_law_209 : decode code 209 = .ok (.iadd, 1) := by decide +kernel
theorem d_L_law_210 : decode code 210 = .ok (.iaload, 1) := by decide +kernel
theorem d_L_law_211 : decode code 211 = .ok (.aload_n 0, 1) := by decide +kernel
theorem d_L_law_212 : decode code 212 = .ok (.iload 4, 2) := by decide +kernel
theorem d_L_law_214 : decode code 214 = .ok (.iconst 2, 1) := by decide +kernel
theorem d_L_law_215 : decode code 215 = .ok (.iadd, 1) := by decide +kernel
theorem d_L_law_216 : decode code 216 = .ok (.iaload, 1) := by decide +kernel
theorem d_L_law_217 : decode code 217 = .ok (.aload_n 0, 1) := by decide +kernel
theorem d_L_law_218 : decode code 218 = .ok (.iload 4, 2) := by decide +kernel
theorem d_L_law_220 : decode code 220 = .ok (.iconst 3, 1) := by decide +kernel
theorem d_L_law_221 : decode code 221 = .ok (.iadd, 1) := by decide +kernel
theorem d_L_law_222 : decode code 222 = .ok (.iaload, 1) := by decide +kernel
theorem d_L_law_223 : decode code 223 = .ok (.aload_n 0, 1) := by decide +kernel
theorem d_L_law_224 : decode code 224 = .ok (.iload 4, 2) := by decide +kernel
theorem d_L_law_226 : decode code 226 = .ok (.iconst 4, 1) := by decide +kernel
theorem d_L_law_227 : decode code 227 = .ok (.iadd, 1) := by decide +kernel
theorem d_L_law_228 : decode code 228 = .ok (.iaload, 1) := by decide +kernel
theorem d_L_law_229 : decode code 229 = .ok (.aload_n 0, 1) := by decide +kernel
theorem d_L_law_230 : decode code 230 = .ok (.iload 4, 2) := by decide +kernel
theorem d_L_law_232 : decode code 232 = .ok (.iconst 5, 1) := by decide +kernel
theorem d_L_law_233 : decode code 233 = .ok (.iadd, 1) := by decide +kernel
theorem d_L_law_234 : decode code 234 = .ok (.iaload, 1) := by decide +kernel
theorem d_L_law_235 : decode code 235 = .ok (.aload_n 3, 1) := by decide +kernel
theorem d_L_law_236 : decode code 236 = .ok (.invokestatic 97, 3) := by decide +kernel
theorem d_L_law_239 : decode code 239 = .ok (.istore 5, 2) := by decide +kernel
theorem d_L_law_241 : decode code 241 = .ok (.aload_n 2, 1) := by decide +kernel
theorem d_L_law_242 : decode code 242 = .ok (.aload_n 0, 1) := by decide +kernel
theorem d_L_law_243 : decode code 243 = .ok (.iload 4, 2) := by decide +kernel
theorem d_L_law_245 : decode code 245 = .ok (.iconst 1, 1) := by decide +kernel
theorem d_L_law_246 : decode code 246 = .ok (.iadd, 1) := by decide +kernel
theorem d_L_law_247 : decode code 247 = .ok (.iaload, 1) := by decide +kernel
theorem d_L_law_248 : decode code 248 = .ok (.aload_n 0, 1) := by decide +kernel
theorem d_L_law_249 : decode code 249 = .ok (.iload 4, 2) := by decide +kernel
theorem d_L_law_251 : decode code 251 = .ok (.iconst 2, 1) := by decide +kernel
theorem d_L_law_252 : decode code 252 = .ok (.iadd, 1) := by decide +kernel
theorem d_L_law_253 : decode code 253 = .ok (.iaload, 1) := by decide +kernel
theorem d_L_law_254 : decode code 254 = .ok (.aload_n 0, 1) := by decide +kernel
theorem d_L_law_255 : decode code 255 = .ok (.iload 4, 2) := by decide +kernel
theorem d_L_law_257 : decode code 257 = .ok (.iconst 3, 1) := by decide +kernel
theorem d_L_law_258 : decode code 258 = .ok (.iadd, 1) := by decide +kernel
theorem d_L_law_259 : decode code 259 = .ok (.iaload, 1) := by decide +kernel
theorem d_L_law_260 : decode code 260 = .ok (.aload_n 0, 1) := by decide +kernel
theorem d_L_law_261 : decode code 261 = .ok (.iload 4, 2) := by decide +kernel
theorem d_L_law_263 : decode code 263 = .ok (.iconst 4, 1) := by decide +kernel
theorem d_L_law_264 : decode code 264 = .ok (.iadd, 1) := by decide +kernel
theorem d_L_law_265 : decode code 265 = .ok (.iaload, 1) := by decide +kernel
theorem d_L_law_266 : decode code 266 = .ok (.aload_n 0, 1) := by decide +kernel
theorem d_L_law_267 : decode code 267 = .ok (.iload 4, 2) := by decide +kernel
theorem d_L_law_269 : decode code 269 = .ok (.iconst 5, 1) := by decide +kernel
theorem d_L_law_270 : decode code 270 = .ok (.iadd, 1) := by decide +kernel
theorem d_L_law_271 : decode code 271 = .ok (.iaload, 1) := by decide +kernel
theorem d_L_law_272 : decode code 272 = .ok (.invokevirtual 100, 3) := by decide +kernel
theorem d_L_law_275 : decode code 275 = .ok (.istore 6, 2) := by decide +kernel
theorem d_L_law_277 : decode code 277 = .ok (.aload_n 2, 1) := by decide +kernel
theorem d_L_law_278 : decode code 278 = .ok (.invokevirtual 93, 3) := by decide +kernel
theorem d_L_law_281 : decode code 281 = .ok (.iload 5, 2) := by decide +kernel
theorem d_L_law_283 : decode code 283 = .ok (.if_icmp .eq 5, 3) := by decide +kernel
theorem d_L_law_286 : decode code 286 = .ok (.iconst 0, 1) := by decide +kernel
theorem d_L_law_287 : decode code 287 = .ok (.ireturn, 1) := by decide +kernel
theorem d_L_law_288 : decode code 288 = .ok (.iload 5, 2) := by decide +kernel
theorem d_L_law_290 : decode code 290 = .ok (.ifCond .ne 15, 3) := by decide +kernel
theorem d_L_law_293 : decode code 293 = .ok (.aload_n 3, 1) := by decide +kernel
theorem d_L_law_294 : decode code 294 = .ok (.iconst 0, 1) := by decide +kernel
theorem d_L_law_295 : decode code 295 = .ok (.laload, 1) := by decide +kernel
theorem d_L_law_296 : decode code 296 = .ok (.iload 6, 2) := by decide +kernel
theorem d_L_law_298 : decode code 298 = .ok (.i2l, 1) := by decide +kernel
theorem d_L_law_299 : decode code 299 = .ok (.lcmp, 1) := by decide +kernel
theorem d_L_law_300 : decode code 300 = .ok (.ifCond .eq 5, 3) := by decide +kernel
theorem d_L_law_303 : decode code 303 = .ok (.iconst 0, 1) := by decide +kernel
theorem d_L_law_304 : decode code 304 = .ok (.ireturn, 1) := by decide +kernel
theorem d_L_law_305 : decode code 305 = .ok (.goto 1372, 3) := by decide +kernel
theorem d_L_law_308 : decode code 308 = .ok (.aload_n 1, 1) := by decide +kernel
theorem d_L_law_309 : decode code 309 = .ok (.aload_n 0, 1) := by decide +kernel
theorem d_L_law_310 : decode code 310 = .ok (.iload 4, 2) := by decide +kernel
theorem d_L_law_312 : decode code 312 = .ok (.iconst 1, 1) := by decide +kernel
theorem d_L_law_313 : decode code 313 = .ok (.iadd, 1) := by decide +kernel
theorem d_L_law_314 : decode code 314 = .ok (.iaload, 1) := by decide +kernel
theorem d_L_law_315 : decode code 315 = .ok (.aload_n 0, 1) := by decide +kernel
theorem d_L_law_316 : decode code 316 = .ok (.iload 4, 2) := by decide +kernel
theorem d_L_law_318 : decode code 318 = .ok (.iconst 2, 1) := by decide +kernel
theorem d_L_law_319 : decode code 319 = .ok (.iadd, 1) := by decide +kernel
theorem d_L_law_320 : decode code 320 = .ok (.iaload, 1) := by decide +kernel
theorem d_L_law_321 : decode code 321 = .ok (.aload_n 0, 1) := by decide +kernel
theorem d_L_law_322 : decode code 322 = .ok (.iload 4, 2) := by decide +kernel
theorem d_L_law_324 : decode code 324 = .ok (.iconst 3, 1) := by decide +kernel
theorem d_L_law_325 : decode code 325 = .ok (.iadd, 1) := by decide +kernel
theorem d_L_law_326 : decode code 326 = .ok (.iaload, 1) := by decide +kernel
theorem d_L_law_327 : decode code 327 = .ok (.aload_n 3, 1) := by decide +kernel
theorem d_L_law_328 : decode code 328 = .ok (.invokestatic 101, 3) := by decide +kernel
theorem d_L_law_331 : decode code 331 = .ok (.istore 5, 2) := by decide +kernel
theorem d_L_law_333 : decode code 333 = .ok (.aload_n 2, 1) := by decide +kernel
theorem d_L_law_334 : decode code 334 = .ok (.aload_n 0, 1) := by decide +kernel
theorem d_L_law_335 : decode code 335 = .ok (.iload 4, 2) := by decide +kernel
theorem d_L_law_337 : decode code 337 = .ok (.iconst 1, 1) := by decide +kernel
theorem d_L_law_338 : decode code 338 = .ok (.iadd, 1) := by decide +kernel
theorem d_L_law_339 : decode code 339 = .ok (.iaload, 1) := by decide +kernel
theorem d_L_law_340 : decode code 340 = .ok (.aload_n 0, 1) := by decide +kernel
theorem d_L_law_341 : decode code 341 = .ok (.iload 4, 2) := by decide +kernel
theorem d_L_law_343 : decode code 343 = .ok (.iconst 2, 1) := by decide +kernel
theorem d_L_law_344 : decode code 344 = .ok (.iadd, 1) := by decide +kernel
theorem d_L_law_345 : decode code 345 = .ok (.iaload, 1) := by decide +kernel
theorem d_L_law_346 : decode code 346 = .ok (.aload_n 0, 1) := by decide +kernel
theorem d_L_law_347 : decode code 347 = .ok (.iload 4, 2) := by decide +kernel
theorem d_L_law_349 : decode code 349 = .ok (.iconst 3, 1) := by decide +kernel
theorem d_L_law_350 : decode code 350 = .ok (.iadd, 1) := by decide +kernel
theorem d_L_law_351 : decode code 351 = .ok (.iaload, 1) := by decide +kernel
theorem d_L_law_352 : decode code 352 = .ok (.invokevirtual 104, 3) := by decide +kernel
theorem d_L_law_355 : decode code 355 = .ok (.istore 6, 2) := by decide +kernel
theorem d_L_law_357 : decode code 357 = .ok (.aload_n 2, 1) := by decide +kernel
theorem d_L_law_358 : decode code 358 = .ok (.invokevirtual 93, 3) := by decide +kernel
theorem d_L_law_361 : decode code 361 = .ok (.iload 5, 2) := by decide +kernel
theorem d_L_law_363 : decode code 363 = .ok (.if_icmp .eq 5, 3) := by decide +kernel
theorem d_L_law_366 : decode code 366 = .ok (.iconst 0, 1) := by decide +kernel
theorem d_L_law_367 : decode code 367 = .ok (.ireturn, 1) := by decide +kernel
theorem d_L_law_368 : decode code 368 = .ok (.iload 5, 2) := by decide +kernel
theorem d_L_law_370 : decode code 370 = .ok (.ifCond .ne 15, 3) := by decide +kernel
theorem d_L_law_373 : decode code 373 = .ok (.aload_n 3, 1) := by decide +kernel
theorem d_L_law_374 : decode code 374 = .ok (.iconst 0, 1) := by decide +kernel
theorem d_L_law_375 : decode code 375 = .ok (.laload, 1) := by decide +kernel
theorem d_L_law_376 : decode code 376 = .ok (.iload 6, 2) := by decide +kernel
theorem d_L_law_378 : decode code 378 = .ok (.i2l, 1) := by decide +kernel
theorem d_L_law_379 : decode code 379 = .ok (.lcmp, 1) := by decide +kernel
theorem d_L_law_380 : decode code 380 = .ok (.ifCond .eq 5, 3) := by decide +kernel
theorem d_L_law_383 : decode code 383 = .ok (.iconst 0, 1) := by decide +kernel
theorem d_L_law_384 : decode code 384 = .ok (.ireturn, 1) := by decide +kernel
theorem d_L_law_385 : decode code 385 = .ok (.goto 1292, 3) := by decide +kernel
theorem d_L_law_388 : decode code 388 = .ok (.aload_n 1, 1) := by decide +kernel
theorem d_L_law_389 : decode code 389 = .ok (.aload_n 0, 1) := by decide +kernel
theorem d_L_law_390 : decode code 390 = .ok (.iload 4, 2) := by decide +kernel
theorem d_L_law_392 : decode code 392 = .ok (.iconst 1, 1) := by decide +kernel
theorem d_L_law_393 : decode code 393 = .ok (.iadd, 1) := by decide +kernel
theorem d_L_law_394 : decode code 394 = .ok (.iaload, 1) := by decide +kernel
theorem d_L_law_395 : decode code 395 = .ok (.aload_n 0, 1) := by decide +kernel
theorem d_L_law_396 : decode code 396 = .ok (.iload 4, 2) := by decide +kernel
theorem d_L_law_398 : decode code 398 = .ok (.iconst 2, 1) := by decide +kernel
theorem d_L_law_399 : decode code 399 = .ok (.iadd, 1) := by decide +kernel
theorem d_L_law_400 : decode code 400 = .ok (.iaload, 1) := by decide +kernel
theorem d_L_law_401 : decode code 401 = .ok (.aload_n 0, 1) := by decide +kernel
theorem d_L_law_402 : decode code 402 = .ok (.iload 4, 2) := by decide +kernel
theorem d_L_law_404 : decode code 404 = .ok (.iconst 3, 1) := by decide +kernel
theorem d_L_law_405 : decode code 405 = .ok (.iadd, 1) := by decide +kernel
theorem d_L_law_406 : decode code 406 = .ok (.iaload, 1) := by decide +kernel
theorem d_L_law_407 : decode code 407 = .ok (.aload_n 3, 1) := by decide +kernel
theorem d_L_law_408 : decode code 408 = .ok (.invokestatic 105, 3) := by decide +kernel
theorem d_L_law_411 : decode code 411 = .ok (.istore 5, 2) := by decide +kernel
theorem d_L_law_413 : decode code 413 = .ok (.aload_n 2, 1) := by decide +kernel
theorem d_L_law_414 : decode code 414 = .ok (.aload_n 0, 1) := by decide +kernel
theorem d_L_law_415 : decode code 415 = .ok (.iload 4, 2) := by decide +kernel
theorem d_L_law_417 : decode code 417 = .ok (.iconst 1, 1) := by decide +kernel
theorem d_L_law_418 : decode code 418 = .ok (.iadd, 1) := by decide +kernel
theorem d_L_law_419 : decode code 419 = .ok (.iaload, 1) := by decide +kernel
theorem d_L_law_420 : decode code 420 = .ok (.aload_n 0, 1) := by decide +kernel
theorem d_L_law_421 : decode code 421 = .ok (.iload 4, 2) := by decide +kernel
theorem d_L_law_423 : decode code 423 = .ok (.iconst 2, 1) := by decide +kernel
theorem d_L_law_424 : decode code 424 = .ok (.iadd, 1) := by decide +kernel
theorem d_L_law_425 : decode code 425 = .ok (.iaload, 1) := by decide +kernel
theorem d_L_law_426 : decode code 426 = .ok (.aload_n 0, 1) := by decide +kernel
theorem d_L_law_427 : decode code 427 = .ok (.iload 4, 2) := by decide +kernel
theorem d_L_law_429 : decode code 429 = .ok (.iconst 3, 1) := by decide +kernel
theorem d_L_law_430 : decode code 430 = .ok (.iadd, 1) := by decide +kernel
theorem d_L_law_431 : decode code 431 = .ok (.iaload, 1) := by decide +kernel
theorem d_L_law_432 : decode code 432 = .ok (.invokevirtual 107, 3) := by decide +kernel
theorem d_L_law_435 : decode code 435 = .ok (.istore 6, 2) := by decide +kernel
theorem d_L_law_437 : decode code 437 = .ok (.aload_n 2, 1) := by decide +kernel
theorem d_L_law_438 : decode code 438 = .ok (.invokevirtual 93, 3) := by decide +kernel
theorem d_L_law_441 : decode code 441 = .ok (.iload 5, 2) := by decide +kernel
theorem d_L_law_443 : decode code 443 = .ok (.if_icmp .eq 5, 3) := by decide +kernel
theorem d_L_law_446 : decode code 446 = .ok (.iconst 0, 1) := by decide +kernel
theorem d_L_law_447 : decode code 447 = .ok (.ireturn, 1) := by decide +kernel
theorem d_L_law_448 : decode code 448 = .ok (.iload 5, 2) := by decide +kernel
theorem d_L_law_450 : decode code 450 = .ok (.ifCond .ne 15, 3) := by decide +kernel
theorem d_L_law_453 : decode code 453 = .ok (.aload_n 3, 1) := by decide +kernel
theorem d_L_law_454 : decode code 454 = .ok (.iconst 0, 1) := by decide +kernel
theorem d_L_law_455 : decode code 455 = .ok (.laload, 1) := by decide +kernel
theorem d_L_law_456 : decode code 456 = .ok (.iload 6, 2) := by decide +kernel
theorem d_L_law_458 : decode code 458 = .ok (.i2l, 1) := by decide +kernel
theorem d_L_law_459 : decode code 459 = .ok (.lcmp, 1) := by decide +kernel
theorem d_L_law_460 : decode code 460 = .ok (.ifCond .eq 5, 3) := by decide +kernel
theorem d_L_law_463 : decode code 463 = .ok (.iconst 0, 1) := by decide +kernel
theorem d_L_law_464 : decode code 464 = .ok (.ireturn, 1) := by decide +kernel
theorem d_L_law_465 : decode code 465 = .ok (.goto 1212, 3) := by decide +kernel
theorem d_L_law_468 : decode code 468 = .ok (.aload_n 1, 1) := by decide +kernel
theorem d_L_law_469 : decode code 469 = .ok (.aload_n 0, 1) := by decide +kernel
theorem d_L_law_470 : decode code 470 = .ok (.iload 4, 2) := by decide +kernel
theorem d_L_law_472 : decode code 472 = .ok (.iconst 1, 1) := by decide +kernel
theorem d_L_law_473 : decode code 473 = .ok (.iadd, 1) := by decide +kernel
theorem d_L_law_474 : decode code 474 = .ok (.iaload, 1) := by decide +kernel
theorem d_L_law_475 : decode code 475 = .ok (.aload_n 0, 1) := by decide +kernel
theorem d_L_law_476 : decode code 476 = .ok (.iload 4, 2) := by decide +kernel
theorem d_L_law_478 : decode code 478 = .ok (.iconst 2, 1) := by decide +kernel
theorem d_L_law_479 : decode code 479 = .ok (.iadd, 1) := by decide +kernel
theorem d_L_law_480 : decode code 480 = .ok (.iaload, 1) := by decide +kernel
theorem d_L_law_481 : decode code 481 = .ok (.aload_n 0, 1) := by decide +kernel
theorem d_L_law_482 : decode code 482 = .ok (.iload 4, 2) := by decide +kernel
theorem d_L_law_484 : decode code 484 = .ok (.iconst 3, 1) := by decide +kernel
theorem d_L_law_485 : decode code 485 = .ok (.iadd, 1) := by decide +kernel
theorem d_L_law_486 : decode code 486 = .ok (.iaload, 1) := by decide +kernel
theorem d_L_law_487 : decode code 487 = .ok (.aload_n 3, 1) := by decide +kernel
theorem d_L_law_488 : decode code 488 = .ok (.invokestatic 108, 3) := by decide +kernel
theorem d_L_law_491 : decode code 491 = .ok (.istore 5, 2) := by decide +kernel
theorem d_L_law_493 : decode code 493 = .ok (.aload_n 2, 1) := by decide +kernel
theorem d_L_law_494 : decode code 494 = .ok (.aload_n 0, 1) := by decide +kernel
theorem d_L_law_495 : decode code 495 = .ok (.iload 4, 2) := by decide +kernel
theorem d_L_law_497 : decode code 497 = .ok (.iconst 1, 1) := by decide +kernel
theorem d_L_law_498 : decode code 498 = .ok (.iadd, 1) := by decide +kernel
theorem d_L_law_499 : decode code 499 = .ok (.iaload, 1) := by decide +kernel
theorem d_L_law_500 : decode code 500 = .ok (.aload_n 0, 1) := by decide +kernel
theorem d_L_law_501 : decode code 501 = .ok (.iload 4, 2) := by decide +kernel
theorem d_L_law_503 : decode code 503 = .ok (.iconst 2, 1) := by decide +kernel
theorem d_L_law_504 : decode code 504 = .ok (.iadd, 1) := by decide +kernel
theorem d_L_law_505 : decode code 505 = .ok (.iaload, 1) := by decide +kernel
theorem d_L_law_506 : decode code 506 = .ok (.aload_n 0, 1) := by decide +kernel
theorem d_L_law_507 : decode code 507 = .ok (.iload 4, 2) := by decide +kernel
theorem d_L_law_509 : decode code 509 = .ok (.iconst 3, 1) := by decide +kernel
theorem d_L_law_510 : decode code 510 = .ok (.iadd, 1) := by decide +kernel
theorem d_L_law_511 : decode code 511 = .ok (.iaload, 1) := by decide +kernel
theorem d_L_law_512 : decode code 512 = .ok (.invokevirtual 110, 3) := by decide +kernel
theorem d_L_law_515 : decode code 515 = .ok (.istore 6, 2) := by decide +kernel
theorem d_L_law_517 : decode code 517 = .ok (.aload_n 2, 1) := by decide +kernel
theorem d_L_law_518 : decode code 518 = .ok (.invokevirtual 93, 3) := by decide +kernel
theorem d_L_law_521 : decode code 521 = .ok (.iload 5, 2) := by decide +kernel
theorem d_L_law_523 : decode code 523 = .ok (.if_icmp .eq 5, 3) := by decide +kernel
theorem d_L_law_526 : decode code 526 = .ok (.iconst 0, 1) := by decide +kernel
theorem d_L_law_527 : decode code 527 = .ok (.ireturn, 1) := by decide +kernel
theorem d_L_law_528 : decode code 528 = .ok (.iload 5, 2) := by decide +kernel
theorem d_L_law_530 : decode code 530 = .ok (.ifCond .ne 15, 3) := by decide +kernel
theorem d_L_law_533 : decode code 533 = .ok (.aload_n 3, 1) := by decide +kernel
theorem d_L_law_534 : decode code 534 = .ok (.iconst 0, 1) := by decide +kernel
theorem d_L_law_535 : decode code 535 = .ok (.laload, 1) := by decide +kernel
theorem d_L_law_536 : decode code 536 = .ok (.iload 6, 2) := by decide +kernel
theorem d_L_law_538 : decode code 538 = .ok (.i2l, 1) := by decide +kernel
theorem d_L_law_539 : decode code 539 = .ok (.lcmp, 1) := by decide +kernel
theorem d_L_law_540 : decode code 540 = .ok (.ifCond .eq 5, 3) := by decide +kernel
theorem d_L_law_543 : decode code 543 = .ok (.iconst 0, 1) := by decide +kernel
theorem d_L_law_544 : decode code 544 = .ok (.ireturn, 1) := by decide +kernel
theorem d_L_law_545 : decode code 545 = .ok (.goto 1132, 3) := by decide +kernel
theorem d_L_law_548 : decode code 548 = .ok (.aload_n 1, 1) := by decide +kernel
theorem d_L_law_549 : decode code 549 = .ok (.aload_n 0, 1) := by decide +kernel
theorem d_L_law_550 : decode code 550 = .ok (.iload 4, 2) := by decide +kernel
theorem d_L_law_552 : decode code 552 = .ok (.iconst 1, 1) := by decide +kernel
theorem d_L_law_553 : decode code 553 = .ok (.iadd, 1) := by decide +kernel
theorem d_L_law_554 : decode code 554 = .ok (.iaload, 1) := by decide +kernel
theorem d_L_law_555 : decode code 555 = .ok (.aload_n 0, 1) := by decide +kernel
theorem d_L_law_556 : decode code 556 = .ok (.iload 4, 2) := by decide +kernel
theorem d_L_law_558 : decode code 558 = .ok (.iconst 2, 1) := by decide +kernel
theorem d_L_law_559 : decode code 559 = .ok (.iadd, 1) := by decide +kernel
theorem d_L_law_560 : decode code 560 = .ok (.iaload, 1) := by decide +kernel
theorem d_L_law_561 : decode code 561 = .ok (.aload_n 0, 1) := by decide +kernel
theorem d_L_law_562 : decode code 562 = .ok (.iload 4, 2) := by decide +kernel
theorem d_L_law_564 : decode code 564 = .ok (.iconst 3, 1) := by decide +kernel
theorem d_L_law_565 : decode code 565 = .ok (.iadd, 1) := by decide +kernel
theorem d_L_law_566 : decode code 566 = .ok (.iaload, 1) := by decide +kernel
theorem d_L_law_567 : decode code 567 = .ok (.aload_n 3, 1) := by decide +kernel
theorem d_L_law_568 : decode code 568 = .ok (.invokestatic 111, 3) := by decide +kernel
theorem d_L_law_571 : decode code 571 = .ok (.istore 5, 2) := by decide +kernel
theorem d_L_law_573 : decode code 573 = .ok (.aload_n 2, 1) := by decide +kernel
theorem d_L_law_574 : decode code 574 = .ok (.aload_n 0, 1) := by decide +kernel
theorem d_L_law_575 : decode code 575 = .ok (.iload 4, 2) := by decide +kernel
theorem d_L_law_577 : decode code 577 = .ok (.iconst 1, 1) := by decide +kernel
theorem d_L_law_578 : decode code 578 = .ok (.iadd, 1) := by decide +kernel
theorem d_L_law_579 : decode code 579 = .ok (.iaload, 1) := by decide +kernel
theorem d_L_law_580 : decode code 580 = .ok (.aload_n 0, 1) := by decide +kernel
theorem d_L_law_581 : decode code 581 = .ok (.iload 4, 2) := by decide +kernel
theorem d_L_law_583 : decode code 583 = .ok (.iconst 2, 1) := by decide +kernel
theorem d_L_law_584 : decode code 584 = .ok (.iadd, 1) := by decide +kernel
theorem d_L_law_585 : decode code 585 = .ok (.iaload, 1) := by decide +kernel
theorem d_L_law_586 : decode code 586 = .ok (.aload_n 0, 1) := by decide +kernel
theorem d_L_law_587 : decode code 587 = .ok (.iload 4, 2) := by decide +kernel
theorem d_L_law_589 : decode code 589 = .ok (.iconst 3, 1) := by decide +kernel
theorem d_L_law_590 : decode code 590 = .ok (.iadd, 1) := by decide +kernel
theorem d_L_law_591 : decode code 591 = .ok (.iaload, 1) := by decide +kernel
theorem d_L_law_592 : decode code 592 = .ok (.invokevirtual 113, 3) := by decide +kernel
theorem d_L_law_595 : decode code 595 = .ok (.istore 6, 2) := by decide +kernel
theorem d_L_law_597 : decode code 597 = .ok (.aload_n 2, 1) := by decide +kernel
theorem d_L_law_598 : decode code 598 = .ok (.invokevirtual 93, 3) := by decide +kernel
theorem d_L_law_601 : decode code 601 = .ok (.iload 5, 2) := by decide +kernel
theorem d_L_law_603 : decode code 603 = .ok (.if_icmp .eq 5, 3) := by decide +kernel
theorem d_L_law_606 : decode code 606 = .ok (.iconst 0, 1) := by decide +kernel
theorem d_L_law_607 : decode code 607 = .ok (.ireturn, 1) := by decide +kernel
theorem d_L_law_608 : decode code 608 = .ok (.iload 5, 2) := by decide +kernel
theorem d_L_law_610 : decode code 610 = .ok (.ifCond .ne 15, 3) := by decide +kernel
theorem d_L_law_613 : decode code 613 = .ok (.aload_n 3, 1) := by decide +kernel
theorem d_L_law_614 : decode code 614 = .ok (.iconst 0, 1) := by decide +kernel
theorem d_L_law_615 : decode code 615 = .ok (.laload, 1) := by decide +kernel
theorem d_L_law_616 : decode code 616 = .ok (.iload 6, 2) := by decide +kernel
theorem d_L_law_618 : decode code 618 = .ok (.i2l, 1) := by decide +kernel
theorem d_L_law_619 : decode code 619 = .ok (.lcmp, 1) := by decide +kernel
theorem d_L_law_620 : decode code 620 = .ok (.ifCond .eq 5, 3) := by decide +kernel
theorem d_L_law_623 : decode code 623 = .ok (.iconst 0, 1) := by decide +kernel
theorem d_L_law_624 : decode code 624 = .ok (.ireturn, 1) := by decide +kernel
theorem d_L_law_625 : decode code 625 = .ok (.goto 1052, 3) := by decide +kernel
theorem d_L_law_628 : decode code 628 = .ok (.aload_n 1, 1) := by decide +kernel
theorem d_L_law_629 : decode code 629 = .ok (.aload_n 0, 1) := by decide +kernel
theorem d_L_law_630 : decode code 630 = .ok (.iload 4, 2) := by decide +kernel
theorem d_L_law_632 : decode code 632 = .ok (.iconst 1, 1) := by decide +kernel
theorem d_L_law_633 : decode code 633 = .ok (.iadd, 1) := by decide +kernel
theorem d_L_law_634 : decode code 634 = .ok (.iaload, 1) := by decide +kernel
theorem d_L_law_635 : decode code 635 = .ok (.aload_n 0, 1) := by decide +kernel
theorem d_L_law_636 : decode code 636 = .ok (.iload 4, 2) := by decide +kernel
theorem d_L_law_638 : decode code 638 = .ok (.iconst 2, 1) := by decide +kernel
theorem d_L_law_639 : decode code 639 = .ok (.iadd, 1) := by decide +kernel
theorem d_L_law_640 : decode code 640 = .ok (.iaload, 1) := by decide +kernel
theorem d_L_law_641 : decode code 641 = .ok (.aload_n 0, 1) := by decide +kernel
theorem d_L_law_642 : decode code 642 = .ok (.iload 4, 2) := by decide +kernel
theorem d_L_law_644 : decode code 644 = .ok (.iconst 3, 1) := by decide +kernel
theorem d_L_law_645 : decode code 645 = .ok (.iadd, 1) := by decide +kernel
theorem d_L_law_646 : decode code 646 = .ok (.iaload, 1) := by decide +kernel
theorem d_L_law_647 : decode code 647 = .ok (.aload_n 0, 1) := by decide +kernel
theorem d_L_law_648 : decode code 648 = .ok (.iload 4, 2) := by decide +kernel
theorem d_L_law_650 : decode code 650 = .ok (.iconst 4, 1) := by decide +kernel
theorem d_L_law_651 : decode code 651 = .ok (.iadd, 1) := by decide +kernel
theorem d_L_law_652 : decode code 652 = .ok (.iaload, 1) := by decide +kernel
theorem d_L_law_653 : decode code 653 = .ok (.aload_n 3, 1) := by decide +kernel
theorem d_L_law_654 : decode code 654 = .ok (.invokestatic 114, 3) := by decide +kernel
theorem d_L_law_657 : decode code 657 = .ok (.istore 5, 2) := by decide +kernel
theorem d_L_law_659 : decode code 659 = .ok (.aload_n 2, 1) := by decide +kernel
theorem d_L_law_660 : decode code 660 = .ok (.aload_n 0, 1) := by decide +kernel
theorem d_L_law_661 : decode code 661 = .ok (.iload 4, 2) := by decide +kernel
theorem d_L_law_663 : decode code 663 = .ok (.iconst 1, 1) := by decide +kernel
theorem d_L_law_664 : decode code 664 = .ok (.iadd, 1) := by decide +kernel
theorem d_L_law_665 : decode code 665 = .ok (.iaload, 1) := by decide +kernel
theorem d_L_law_666 : decode code 666 = .ok (.aload_n 0, 1) := by decide +kernel
theorem d_L_law_667 : decode code 667 = .ok (.iload 4, 2) := by decide +kernel
theorem d_L_law_669 : decode code 669 = .ok (.iconst 2, 1) := by decide +kernel
theorem d_L_law_670 : decode code 670 = .ok (.iadd, 1) := by decide +kernel
theorem d_L_law_671 : decode code 671 = .ok (.iaload, 1) := by decide +kernel
theorem d_L_law_672 : decode code 672 = .ok (.aload_n 0, 1) := by decide +kernel
theorem d_L_law_673 : decode code 673 = .ok (.iload 4, 2) := by decide +kernel
theorem d_L_law_675 : decode code 675 = .ok (.iconst 3, 1) := by decide +kernel
theorem d_L_law_676 : decode code 676 = .ok (.iadd, 1) := by decide +kernel
theorem d_L_law_677 : decode code 677 = .ok (.iaload, 1) := by decide +kernel
theorem d_L_law_678 : decode code 678 = .ok (.aload_n 0, 1) := by decide +kernel
theorem d_L_law_679 : decode code 679 = .ok (.iload 4, 2) := by decide +kernel
theorem d_L_law_681 : decode code 681 = .ok (.iconst 4, 1) := by decide +kernel
theorem d_L_law_682 : decode code 682 = .ok (.iadd, 1) := by decide +kernel
theorem d_L_law_683 : decode code 683 = .ok (.iaload, 1) := by decide +kernel
theorem d_L_law_684 : decode code 684 = .ok (.invokevirtual 117, 3) := by decide +kernel
theorem d_L_law_687 : decode code 687 = .ok (.istore 6, 2) := by decide +kernel
theorem d_L_law_689 : decode code 689 = .ok (.aload_n 2, 1) := by decide +kernel
theorem d_L_law_690 : decode code 690 = .ok (.invokevirtual 93, 3) := by decide +kernel
theorem d_L_law_693 : decode code 693 = .ok (.iload 5, 2) := by decide +kernel
theorem d_L_law_695 : decode code 695 = .ok (.if_icmp .eq 5, 3) := by decide +kernel
theorem d_L_law_698 : decode code 698 = .ok (.iconst 0, 1) := by decide +kernel
theorem d_L_law_699 : decode code 699 = .ok (.ireturn, 1) := by decide +kernel
theorem d_L_law_700 : decode code 700 = .ok (.iload 5, 2) := by decide +kernel
theorem d_L_law_702 : decode code 702 = .ok (.ifCond .ne 15, 3) := by decide +kernel
theorem d_L_law_705 : decode code 705 = .ok (.aload_n 3, 1) := by decide +kernel
theorem d_L_law_706 : decode code 706 = .ok (.iconst 0, 1) := by decide +kernel
theorem d_L_law_707 : decode code 707 = .ok (.laload, 1) := by decide +kernel
theorem d_L_law_708 : decode code 708 = .ok (.iload 6, 2) := by decide +kernel
theorem d_L_law_710 : decode code 710 = .ok (.i2l, 1) := by decide +kernel
theorem d_L_law_711 : decode code 711 = .ok (.lcmp, 1) := by decide +kernel
theorem d_L_law_712 : decode code 712 = .ok (.ifCond .eq 5, 3) := by decide +kernel
theorem d_L_law_715 : decode code 715 = .ok (.iconst 0, 1) := by decide +kernel
theorem d_L_law_716 : decode code 716 = .ok (.ireturn, 1) := by decide +kernel
theorem d_L_law_717 : decode code 717 = .ok (.goto 960, 3) := by decide +kernel
theorem d_L_law_720 : decode code 720 = .ok (.aload_n 1, 1) := by decide +kernel
theorem d_L_law_721 : decode code 721 = .ok (.aload_n 0, 1) := by decide +kernel
theorem d_L_law_722 : decode code 722 = .ok (.iload 4, 2) := by decide +kernel
theorem d_L_law_724 : decode code 724 = .ok (.iconst 1, 1) := by decide +kernel
theorem d_L_law_725 : decode code 725 = .ok (.iadd, 1) := by decide +kernel
theorem d_L_law_726 : decode code 726 = .ok (.iaload, 1) := by decide +kernel
theorem d_L_law_727 : decode code 727 = .ok (.aload_n 0, 1) := by decide +kernel
theorem d_L_law_728 : decode code 728 = .ok (.iload 4, 2) := by decide +kernel
theorem d_L_law_730 : decode code 730 = .ok (.iconst 2, 1) := by decide +kernel
theorem d_L_law_731 : decode code 731 = .ok (.iadd, 1) := by decide +kernel
theorem d_L_law_732 : decode code 732 = .ok (.iaload, 1) := by decide +kernel
theorem d_L_law_733 : decode code 733 = .ok (.aload_n 3, 1) := by decide +kernel
theorem d_L_law_734 : decode code 734 = .ok (.invokestatic 118, 3) := by decide +kernel
theorem d_L_law_737 : decode code 737 = .ok (.istore 5, 2) := by decide +kernel
theorem d_L_law_739 : decode code 739 = .ok (.aload_n 2, 1) := by decide +kernel
theorem d_L_law_740 : decode code 740 = .ok (.aload_n 0, 1) := by decide +kernel
theorem d_L_law_741 : decode code 741 = .ok (.iload 4, 2) := by decide +kernel
theorem d_L_law_743 : decode code 743 = .ok (.iconst 1, 1) := by decide +kernel
theorem d_L_law_744 : decode code 744 = .ok (.iadd, 1) := by decide +kernel
theorem d_L_law_745 : decode code 745 = .ok (.iaload, 1) := by decide +kernel
theorem d_L_law_746 : decode code 746 = .ok (.aload_n 0, 1) := by decide +kernel
theorem d_L_law_747 : decode code 747 = .ok (.iload 4, 2) := by decide +kernel
theorem d_L_law_749 : decode code 749 = .ok (.iconst 2, 1) := by decide +kernel
theorem d_L_law_750 : decode code 750 = .ok (.iadd, 1) := by decide +kernel
theorem d_L_law_751 : decode code 751 = .ok (.iaload, 1) := by decide +kernel
theorem d_L_law_752 : decode code 752 = .ok (.invokevirtual 120, 3) := by decide +kernel
theorem d_L_law_755 : decode code 755 = .ok (.istore 6, 2) := by decide +kernel
theorem d_L_law_757 : decode code 757 = .ok (.aload_n 2, 1) := by decide +kernel
theorem d_L_law_758 : decode code 758 = .ok (.invokevirtual 93, 3) := by decide +kernel
theorem d_L_law_761 : decode code 761 = .ok (.iload 5, 2) := by decide +kernel
theorem d_L_law_763 : decode code 763 = .ok (.if_icmp .eq 5, 3) := by decide +kernel
theorem d_L_law_766 : decode code 766 = .ok (.iconst 0, 1) := by decide +kernel
theorem d_L_law_767 : decode code 767 = .ok (.ireturn, 1) := by decide +kernel
theorem d_L_law_768 : decode code 768 = .ok (.iload 5, 2) := by decide +kernel
theorem d_L_law_770 : decode code 770 = .ok (.ifCond .ne 15, 3) := by decide +kernel
theorem d_L_law_773 : decode code 773 = .ok (.aload_n 3, 1) := by decide +kernel
theorem d_L_law_774 : decode code 774 = .ok (.iconst 0, 1) := by decide +kernel
theorem d_L_law_775 : decode code 775 = .ok (.laload, 1) := by decide +kernel
theorem d_L_law_776 : decode code 776 = .ok (.iload 6, 2) := by decide +kernel
theorem d_L_law_778 : decode code 778 = .ok (.i2l, 1) := by decide +kernel
theorem d_L_law_779 : decode code 779 = .ok (.lcmp, 1) := by decide +kernel
theorem d_L_law_780 : decode code 780 = .ok (.ifCond .eq 5, 3) := by decide +kernel
theorem d_L_law_783 : decode code 783 = .ok (.iconst 0, 1) := by decide +kernel
theorem d_L_law_784 : decode code 784 = .ok (.ireturn, 1) := by decide +kernel
theorem d_L_law_785 : decode code 785 = .ok (.goto 892, 3) := by decide +kernel
theorem d_L_law_788 : decode code 788 = .ok (.aload_n 1, 1) := by decide +kernel
theorem d_L_law_789 : decode code 789 = .ok (.aload_n 0, 1) := by decide +kernel
theorem d_L_law_790 : decode code 790 = .ok (.iload 4, 2) := by decide +kernel
theorem d_L_law_792 : decode code 792 = .ok (.iconst 1, 1) := by decide +kernel
theorem d_L_law_793 : decode code 793 = .ok (.iadd, 1) := by decide +kernel
theorem d_L_law_794 : decode code 794 = .ok (.iaload, 1) := by decide +kernel
theorem d_L_law_795 : decode code 795 = .ok (.aload_n 0, 1) := by decide +kernel
theorem d_L_law_796 : decode code 796 = .ok (.iload 4, 2) := by decide +kernel
theorem d_L_law_798 : decode code 798 = .ok (.iconst 2, 1) := by decide +kernel
theorem d_L_law_799 : decode code 799 = .ok (.iadd, 1) := by decide +kernel
theorem d_L_law_800 : decode code 800 = .ok (.iaload, 1) := by decide +kernel
theorem d_L_law_801 : decode code 801 = .ok (.aload_n 3, 1) := by decide +kernel
theorem d_L_law_802 : decode code 802 = .ok (.invokestatic 121, 3) := by decide +kernel
theorem d_L_law_805 : decode code 805 = .ok (.istore 5, 2) := by decide +kernel
theorem d_L_law_807 : decode code 807 = .ok (.aload_n 2, 1) := by decide +kernel
theorem d_L_law_808 : decode code 808 = .ok (.aload_n 0, 1) := by decide +kernel
theorem d_L_law_809 : decode code 809 = .ok (.iload 4, 2) := by decide +kernel
theorem d_L_law_811 : decode code 811 = .ok (.iconst 1, 1) := by decide +kernel
theorem d_L_law_812 : decode code 812 = .ok (.iadd, 1) := by decide +kernel
theorem d_L_law_813 : decode code 813 = .ok (.iaload, 1) := by decide +kernel
theorem d_L_law_814 : decode code 814 = .ok (.aload_n 0, 1) := by decide +kernel
theorem d_L_law_815 : decode code 815 = .ok (.iload 4, 2) := by decide +kernel
theorem d_L_law_817 : decode code 817 = .ok (.iconst 2, 1) := by decide +kernel
theorem d_L_law_818 : decode code 818 = .ok (.iadd, 1) := by decide +kernel
theorem d_L_law_819 : decode code 819 = .ok (.iaload, 1) := by decide +kernel
theorem d_L_law_820 : decode code 820 = .ok (.invokevirtual 123, 3) := by decide +kernel
theorem d_L_law_823 : decode code 823 = .ok (.lstore 6, 2) := by decide +kernel
theorem d_L_law_825 : decode code 825 = .ok (.aload_n 2, 1) := by decide +kernel
theorem d_L_law_826 : decode code 826 = .ok (.invokevirtual 93, 3) := by decide +kernel
theorem d_L_law_829 : decode code 829 = .ok (.iload 5, 2) := by decide +kernel
theorem d_L_law_831 : decode code 831 = .ok (.if_icmp .eq 5, 3) := by decide +kernel
theorem d_L_law_834 : decode code 834 = .ok (.iconst 0, 1) := by decide +kernel
theorem d_L_law_835 : decode code 835 = .ok (.ireturn, 1) := by decide +kernel
theorem d_L_law_836 : decode code 836 = .ok (.iload 5, 2) := by decide +kernel
theorem d_L_law_838 : decode code 838 = .ok (.ifCond .ne 14, 3) := by decide +kernel
theorem d_L_law_841 : decode code 841 = .ok (.aload_n 3, 1) := by decide +kernel
theorem d_L_law_842 : decode code 842 = .ok (.iconst 0, 1) := by decide +kernel
theorem d_L_law_843 : decode code 843 = .ok (.laload, 1) := by decide +kernel
theorem d_L_law_844 : decode code 844 = .ok (.lload 6, 2) := by decide +kernel
theorem d_L_law_846 : decode code 846 = .ok (.lcmp, 1) := by decide +kernel
theorem d_L_law_847 : decode code 847 = .ok (.ifCond .eq 5, 3) := by decide +kernel
theorem d_L_law_850 : decode code 850 = .ok (.iconst 0, 1) := by decide +kernel
theorem d_L_law_851 : decode code 851 = .ok (.ireturn, 1) := by decide +kernel
theorem d_L_law_852 : decode code 852 = .ok (.goto 825, 3) := by decide +kernel
theorem d_L_law_855 : decode code 855 = .ok (.aload_n 1, 1) := by decide +kernel
theorem d_L_law_856 : decode code 856 = .ok (.aload_n 0, 1) := by decide +kernel
theorem d_L_law_857 : decode code 857 = .ok (.iload 4, 2) := by decide +kernel
theorem d_L_law_859 : decode code 859 = .ok (.iconst 1, 1) := by decide +kernel
theorem d_L_law_860 : decode code 860 = .ok (.iadd, 1) := by decide +kernel
theorem d_L_law_861 : decode code 861 = .ok (.iaload, 1) := by decide +kernel
theorem d_L_law_862 : decode code 862 = .ok (.aload_n 0, 1) := by decide +kernel
theorem d_L_law_863 : decode code 863 = .ok (.iload 4, 2) := by decide +kernel
theorem d_L_law_865 : decode code 865 = .ok (.iconst 2, 1) := by decide +kernel
theorem d_L_law_866 : decode code 866 = .ok (.iadd, 1) := by decide +kernel
theorem d_L_law_867 : decode code 867 = .ok (.iaload, 1) := by decide +kernel
theorem d_L_law_868 : decode code 868 = .ok (.aload_n 0, 1) := by decide +kernel
theorem d_L_law_869 : decode code 869 = .ok (.iload 4, 2) := by decide +kernel
theorem d_L_law_871 : decode code 871 = .ok (.iconst 3, 1) := by decide +kernel
theorem d_L_law_872 : decode code 872 = .ok (.iadd, 1) := by decide +kernel
theorem d_L_law_873 : decode code 873 = .ok (.iaload, 1) := by decide +kernel
theorem d_L_law_874 : decode code 874 = .ok (.i2l, 1) := by decide +kernel
theorem d_L_law_875 : decode code 875 = .ok (.bipush 32, 2) := by decide +kernel
theorem d_L_law_877 : decode code 877 = .ok (.lshl, 1) := by decide +kernel
theorem d_L_law_878 : decode code 878 = .ok (.aload_n 0, 1) := by decide +kernel
theorem d_L_law_879 : decode code 879 = .ok (.iload 4, 2) := by decide +kernel
theorem d_L_law_881 : decode code 881 = .ok (.iconst 4, 1) := by decide +kernel
theorem d_L_law_882 : decode code 882 = .ok (.iadd, 1) := by decide +kernel
theorem d_L_law_883 : decode code 883 = .ok (.iaload, 1) := by decide +kernel
theorem d_L_law_884 : decode code 884 = .ok (.i2l, 1) := by decide +kernel
theorem d_L_law_885 : decode code 885 = .ok (.ldc2_w 124, 3) := by decide +kernel
theorem d_L_law_888 : decode code 888 = .ok (.land, 1) := by decide +kernel
theorem d_L_law_889 : decode code 889 = .ok (.lor, 1) := by decide +kernel
theorem d_L_law_890 : decode code 890 = .ok (.aload_n 3, 1) := by decide +kernel
theorem d_L_law_891 : decode code 891 = .ok (.invokestatic 126, 3) := by decide +kernel
theorem d_L_law_894 : decode code 894 = .ok (.istore 5, 2) := by decide +kernel
theorem d_L_law_896 : decode code 896 = .ok (.aload_n 2, 1) := by decide +kernel
theorem d_L_law_897 : decode code 897 = .ok (.aload_n 0, 1) := by decide +kernel
theorem d_L_law_898 : decode code 898 = .ok (.iload 4, 2) := by decide +kernel
theorem d_L_law_900 : decode code 900 = .ok (.iconst 1, 1) := by decide +kernel
theorem d_L_law_901 : decode code 901 = .ok (.iadd, 1) := by decide +kernel
theorem d_L_law_902 : decode code 902 = .ok (.iaload, 1) := by decide +kernel
theorem d_L_law_903 : decode code 903 = .ok (.aload_n 0, 1) := by decide +kernel
theorem d_L_law_904 : decode code 904 = .ok (.iload 4, 2) := by decide +kernel
theorem d_L_law_906 : decode code 906 = .ok (.iconst 2, 1) := by decide +kernel
theorem d_L_law_907 : decode code 907 = .ok (.iadd, 1) := by decide +kernel
theorem d_L_law_908 : decode code 908 = .ok (.iaload, 1) := by decide +kernel
theorem d_L_law_909 : decode code 909 = .ok (.aload_n 0, 1) := by decide +kernel
theorem d_L_law_910 : decode code 910 = .ok (.iload 4, 2) := by decide +kernel
theorem d_L_law_912 : decode code 912 = .ok (.iconst 3, 1) := by decide +kernel
theorem d_L_law_913 : decode code 913 = .ok (.iadd, 1) := by decide +kernel
theorem d_L_law_914 : decode code 914 = .ok (.iaload, 1) := by decide +kernel
theorem d_L_law_915 : decode code 915 = .ok (.i2l, 1) := by decide +kernel
theorem d_L_law_916 : decode code 916 = .ok (.bipush 32, 2) := by decide +kernel
theorem d_L_law_918 : decode code 918 = .ok (.lshl, 1) := by decide +kernel
theorem d_L_law_919 : decode code 919 = .ok (.aload_n 0, 1) := by decide +kernel
theorem d_L_law_920 : decode code 920 = .ok (.iload 4, 2) := by decide +kernel
theorem d_L_law_922 : decode code 922 = .ok (.iconst 4, 1) := by decide +kernel
theorem d_L_law_923 : decode code 923 = .ok (.iadd, 1) := by decide +kernel
theorem d_L_law_924 : decode code 924 = .ok (.iaload, 1) := by decide +kernel
theorem d_L_law_925 : decode code 925 = .ok (.i2l, 1) := by decide +kernel
theorem d_L_law_926 : decode code 926 = .ok (.ldc2_w 124, 3) := by decide +kernel
theorem d_L_law_929 : decode code 929 = .ok (.land, 1) := by decide +kernel
theorem d_L_law_930 : decode code 930 = .ok (.lor, 1) := by decide +kernel
theorem d_L_law_931 : decode code 931 = .ok (.invokevirtual 129, 3) := by decide +kernel
theorem d_L_law_934 : decode code 934 = .ok (.lstore 6, 2) := by decide +kernel
theorem d_L_law_936 : decode code 936 = .ok (.aload_n 2, 1) := by decide +kernel
theorem d_L_law_937 : decode code 937 = .ok (.invokevirtual 93, 3) := by decide +kernel
theorem d_L_law_940 : decode code 940 = .ok (.iload 5, 2) := by decide +kernel
theorem d_L_law_942 : decode code 942 = .ok (.if_icmp .eq 5, 3) := by decide +kernel
theorem d_L_law_945 : decode code 945 = .ok (.iconst 0, 1) := by decide +kernel
theorem d_L_law_946 : decode code 946 = .ok (.ireturn, 1) := by decide +kernel
theorem d_L_law_947 : decode code 947 = .ok (.iload 5, 2) := by decide +kernel
theorem d_L_law_949 : decode code 949 = .ok (.ifCond .ne 14, 3) := by decide +kernel
theorem d_L_law_952 : decode code 952 = .ok (.aload_n 3, 1) := by decide +kernel
theorem d_L_law_953 : decode code 953 = .ok (.iconst 0, 1) := by decide +kernel
theorem d_L_law_954 : decode code 954 = .ok (.laload, 1) := by decide +kernel
theorem d_L_law_955 : decode code 955 = .ok (.lload 6, 2) := by decide +kernel
theorem d_L_law_957 : decode code 957 = .ok (.lcmp, 1) := by decide +kernel
theorem d_L_law_958 : decode code 958 = .ok (.ifCond .eq 5, 3) := by decide +kernel
theorem d_L_law_961 : decode code 961 = .ok (.iconst 0, 1) := by decide +kernel
theorem d_L_law_962 : decode code 962 = .ok (.ireturn, 1) := by decide +kernel
theorem d_L_law_963 : decode code 963 = .ok (.goto 714, 3) := by decide +kernel
theorem d_L_law_966 : decode code 966 = .ok (.aload_n 1, 1) := by decide +kernel
theorem d_L_law_967 : decode code 967 = .ok (.aload_n 0, 1) := by decide +kernel
theorem d_L_law_968 : decode code 968 = .ok (.iload 4, 2) := by decide +kernel
theorem d_L_law_970 : decode code 970 = .ok (.iconst 1, 1) := by decide +kernel
theorem d_L_law_971 : decode code 971 = .ok (.iadd, 1) := by decide +kernel
theorem d_L_law_972 : decode code 972 = .ok (.iaload, 1) := by decide +kernel
theorem d_L_law_973 : decode code 973 = .ok (.aload_n 0, 1) := by decide +kernel
theorem d_L_law_974 : decode code 974 = .ok (.iload 4, 2) := by decide +kernel
theorem d_L_law_976 : decode code 976 = .ok (.iconst 2, 1) := by decide +kernel
theorem d_L_law_977 : decode code 977 = .ok (.iadd, 1) := by decide +kernel
theorem d_L_law_978 : decode code 978 = .ok (.iaload, 1) := by decide +kernel
theorem d_L_law_979 : decode code 979 = .ok (.aload_n 3, 1) := by decide +kernel
theorem d_L_law_980 : decode code 980 = .ok (.invokestatic 130, 3) := by decide +kernel
theorem d_L_law_983 : decode code 983 = .ok (.istore 5, 2) := by decide +kernel
theorem d_L_law_985 : decode code 985 = .ok (.aload_n 2, 1) := by decide +kernel
theorem d_L_law_986 : decode code 986 = .ok (.aload_n 0, 1) := by decide +kernel
theorem d_L_law_987 : decode code 987 = .ok (.iload 4, 2) := by decide +kernel
theorem d_L_law_989 : decode code 989 = .ok (.iconst 1, 1) := by decide +kernel
theorem d_L_law_990 : decode code 990 = .ok (.iadd, 1) := by decide +kernel
theorem d_L_law_991 : decode code 991 = .ok (.iaload, 1) := by decide +kernel
theorem d_L_law_992 : decode code 992 = .ok (.aload_n 0, 1) := by decide +kernel
theorem d_L_law_993 : decode code 993 = .ok (.iload 4, 2) := by decide +kernel
theorem d_L_law_995 : decode code 995 = .ok (.iconst 2, 1) := by decide +kernel
theorem d_L_law_996 : decode code 996 = .ok (.iadd, 1) := by decide +kernel
theorem d_L_law_997 : decode code 997 = .ok (.iaload, 1) := by decide +kernel
theorem d_L_law_998 : decode code 998 = .ok (.invokevirtual 132, 3) := by decide +kernel
theorem d_L_law_1001 : decode code 1001 = .ok (.istore 6, 2) := by decide +kernel
theorem d_L_law_1003 : decode code 1003 = .ok (.aload_n 2, 1) := by decide +kernel
theorem d_L_law_1004 : decode code 1004 = .ok (.invokevirtual 93, 3) := by decide +kernel
theorem d_L_law_1007 : decode code 1007 = .ok (.iload 5, 2) := by decide +kernel
theorem d_L_law_1009 : decode code 1009 = .ok (.if_icmp .eq 5, 3) := by decide +kernel
theorem d_L_law_1012 : decode code 1012 = .ok (.iconst 0, 1) := by decide +kernel
theorem d_L_law_1013 : decode code 1013 = .ok (.ireturn, 1) := by decide +kernel
theorem d_L_law_1014 : decode code 1014 = .ok (.iload 5, 2) := by decide +kernel
theorem d_L_law_1016 : decode code 1016 = .ok (.ifCond .ne 15, 3) := by decide +kernel
theorem d_L_law_1019 : decode code 1019 = .ok (.aload_n 3, 1) := by decide +kernel
theorem d_L_law_1020 : decode code 1020 = .ok (.iconst 0, 1) := by decide +kernel
theorem d_L_law_1021 : decode code 1021 = .ok (.laload, 1) := by decide +kernel
theorem d_L_law_1022 : decode code 1022 = .ok (.iload 6, 2) := by decide +kernel
theorem d_L_law_1024 : decode code 1024 = .ok (.i2l, 1) := by decide +kernel
theorem d_L_law_1025 : decode code 1025 = .ok (.lcmp, 1) := by decide +kernel
theorem d_L_law_1026 : decode code 1026 = .ok (.ifCond .eq 5, 3) := by decide +kernel
theorem d_L_law_1029 : decode code 1029 = .ok (.iconst 0, 1) := by decide +kernel
theorem d_L_law_1030 : decode code 1030 = .ok (.ireturn, 1) := by decide +kernel
theorem d_L_law_1031 : decode code 1031 = .ok (.goto 646, 3) := by decide +kernel
theorem d_L_law_1034 : decode code 1034 = .ok (.aload_n 1, 1) := by decide +kernel
theorem d_L_law_1035 : decode code 1035 = .ok (.aload_n 0, 1) := by decide +kernel
theorem d_L_law_1036 : decode code 1036 = .ok (.iload 4, 2) := by decide +kernel
theorem d_L_law_1038 : decode code 1038 = .ok (.iconst 1, 1) := by decide +kernel
theorem d_L_law_1039 : decode code 1039 = .ok (.iadd, 1) := by decide +kernel
theorem d_L_law_1040 : decode code 1040 = .ok (.iaload, 1) := by decide +kernel
theorem d_L_law_1041 : decode code 1041 = .ok (.aload_n 0, 1) := by decide +kernel
theorem d_L_law_1042 : decode code 1042 = .ok (.iload 4, 2) := by decide +kernel
theorem d_L_law_1044 : decode code 1044 = .ok (.iconst 2, 1) := by decide +kernel
theorem d_L_law_1045 : decode code 1045 = .ok (.iadd, 1) := by decide +kernel
theorem d_L_law_1046 : decode code 1046 = .ok (.iaload, 1) := by decide +kernel
theorem d_L_law_1047 : decode code 1047 = .ok (.aload_n 0, 1) := by decide +kernel
theorem d_L_law_1048 : decode code 1048 = .ok (.iload 4, 2) := by decide +kernel
theorem d_L_law_1050 : decode code 1050 = .ok (.iconst 3, 1) := by decide +kernel
theorem d_L_law_1051 : decode code 1051 = .ok (.iadd, 1) := by decide +kernel
theorem d_L_law_1052 : decode code 1052 = .ok (.iaload, 1) := by decide +kernel
theorem d_L_law_1053 : decode code 1053 = .ok (.aload_n 0, 1) := by decide +kernel
theorem d_L_law_1054 : decode code 1054 = .ok (.iload 4, 2) := by decide +kernel
theorem d_L_law_1056 : decode code 1056 = .ok (.iconst 4, 1) := by decide +kernel
theorem d_L_law_1057 : decode code 1057 = .ok (.iadd, 1) := by decide +kernel
theorem d_L_law_1058 : decode code 1058 = .ok (.iaload, 1) := by decide +kernel
theorem d_L_law_1059 : decode code 1059 = .ok (.aload_n 3, 1) := by decide +kernel
theorem d_L_law_1060 : decode code 1060 = .ok (.invokestatic 133, 3) := by decide +kernel
theorem d_L_law_1063 : decode code 1063 = .ok (.istore 5, 2) := by decide +kernel
theorem d_L_law_1065 : decode code 1065 = .ok (.aload_n 2, 1) := by decide +kernel
theorem d_L_law_1066 : decode code 1066 = .ok (.aload_n 0, 1) := by decide +kernel
theorem d_L_law_1067 : decode code 1067 = .ok (.iload 4, 2) := by decide +kernel
theorem d_L_law_1069 : decode code 1069 = .ok (.iconst 1, 1) := by decide +kernel
theorem d_L_law_1070 : decode code 1070 = .ok (.iadd, 1) := by decide +kernel
theorem d_L_law_1071 : decode code 1071 = .ok (.iaload, 1) := by decide +kernel
theorem d_L_law_1072 : decode code 1072 = .ok (.aload_n 0, 1) := by decide +kernel
theorem d_L_law_1073 : decode code 1073 = .ok (.iload 4, 2) := by decide +kernel
theorem d_L_law_1075 : decode code 1075 = .ok (.iconst 2, 1) := by decide +kernel
theorem d_L_law_1076 : decode code 1076 = .ok (.iadd, 1) := by decide +kernel
theorem d_L_law_1077 : decode code 1077 = .ok (.iaload, 1) := by decide +kernel
theorem d_L_law_1078 : decode code 1078 = .ok (.aload_n 0, 1) := by decide +kernel
theorem d_L_law_1079 : decode code 1079 = .ok (.iload 4, 2) := by decide +kernel
theorem d_L_law_1081 : decode code 1081 = .ok (.iconst 3, 1) := by decide +kernel
theorem d_L_law_1082 : decode code 1082 = .ok (.iadd, 1) := by decide +kernel
theorem d_L_law_1083 : decode code 1083 = .ok (.iaload, 1) := by decide +kernel
theorem d_L_law_1084 : decode code 1084 = .ok (.aload_n 0, 1) := by decide +kernel
theorem d_L_law_1085 : decode code 1085 = .ok (.iload 4, 2) := by decide +kernel
theorem d_L_law_1087 : decode code 1087 = .ok (.iconst 4, 1) := by decide +kernel
theorem d_L_law_1088 : decode code 1088 = .ok (.iadd, 1) := by decide +kernel
theorem d_L_law_1089 : decode code 1089 = .ok (.iaload, 1) := by decide +kernel
theorem d_L_law_1090 : decode code 1090 = .ok (.invokevirtual 135, 3) := by decide +kernel
theorem d_L_law_1093 : decode code 1093 = .ok (.istore 6, 2) := by decide +kernel
theorem d_L_law_1095 : decode code 1095 = .ok (.aload_n 2, 1) := by decide +kernel
theorem d_L_law_1096 : decode code 1096 = .ok (.invokevirtual 93, 3) := by decide +kernel
theorem d_L_law_1099 : decode code 1099 = .ok (.iload 5, 2) := by decide +kernel
theorem d_L_law_1101 : decode code 1101 = .ok (.if_icmp .eq 5, 3) := by decide +kernel
theorem d_L_law_1104 : decode code 1104 = .ok (.iconst 0, 1) := by decide +kernel
theorem d_L_law_1105 : decode code 1105 = .ok (.ireturn, 1) := by decide +kernel
theorem d_L_law_1106 : decode code 1106 = .ok (.iload 5, 2) := by decide +kernel
theorem d_L_law_1108 : decode code 1108 = .ok (.ifCond .ne 15, 3) := by decide +kernel
theorem d_L_law_1111 : decode code 1111 = .ok (.aload_n 3, 1) := by decide +kernel
theorem d_L_law_1112 : decode code 1112 = .ok (.iconst 0, 1) := by decide +kernel
theorem d_L_law_1113 : decode code 1113 = .ok (.laload, 1) := by decide +kernel
theorem d_L_law_1114 : decode code 1114 = .ok (.iload 6, 2) := by decide +kernel
theorem d_L_law_1116 : decode code 1116 = .ok (.i2l, 1) := by decide +kernel
theorem d_L_law_1117 : decode code 1117 = .ok (.lcmp, 1) := by decide +kernel
theorem d_L_law_1118 : decode code 1118 = .ok (.ifCond .eq 5, 3) := by decide +kernel
theorem d_L_law_1121 : decode code 1121 = .ok (.iconst 0, 1) := by decide +kernel
theorem d_L_law_1122 : decode code 1122 = .ok (.ireturn, 1) := by decide +kernel
theorem d_L_law_1123 : decode code 1123 = .ok (.goto 554, 3) := by decide +kernel
theorem d_L_law_1126 : decode code 1126 = .ok (.aload_n 1, 1) := by decide +kernel
theorem d_L_law_1127 : decode code 1127 = .ok (.aload_n 0, 1) := by decide +kernel
theorem d_L_law_1128 : decode code 1128 = .ok (.iload 4, 2) := by decide +kernel
theorem d_L_law_1130 : decode code 1130 = .ok (.iconst 1, 1) := by decide +kernel
theorem d_L_law_1131 : decode code 1131 = .ok (.iadd, 1) := by decide +kernel
theorem d_L_law_1132 : decode code 1132 = .ok (.iaload, 1) := by decide +kernel
theorem d_L_law_1133 : decode code 1133 = .ok (.aload_n 0, 1) := by decide +kernel
theorem d_L_law_1134 : decode code 1134 = .ok (.iload 4, 2) := by decide +kernel
theorem d_L_law_1136 : decode code 1136 = .ok (.iconst 2, 1) := by decide +kernel
theorem d_L_law_1137 : decode code 1137 = .ok (.iadd, 1) := by decide +kernel
theorem d_L_law_1138 : decode code 1138 = .ok (.iaload, 1) := by decide +kernel
theorem d_L_law_1139 : decode code 1139 = .ok (.aload_n 0, 1) := by decide +kernel
theorem d_L_law_1140 : decode code 1140 = .ok (.iload 4, 2) := by decide +kernel
theorem d_L_law_1142 : decode code 1142 = .ok (.iconst 3, 1) := by decide +kernel
theorem d_L_law_1143 : decode code 1143 = .ok (.iadd, 1) := by decide +kernel
theorem d_L_law_1144 : decode code 1144 = .ok (.iaload, 1) := by decide +kernel
theorem d_L_law_1145 : decode code 1145 = .ok (.aload_n 3, 1) := by decide +kernel
theorem d_L_law_1146 : decode code 1146 = .ok (.invokestatic 136, 3) := by decide +kernel
theorem d_L_law_1149 : decode code 1149 = .ok (.istore 5, 2) := by decide +kernel
theorem d_L_law_1151 : decode code 1151 = .ok (.aload_n 2, 1) := by decide +kernel
theorem d_L_law_1152 : decode code 1152 = .ok (.aload_n 0, 1) := by decide +kernel
theorem d_L_law_1153 : decode code 1153 = .ok (.iload 4, 2) := by decide +kernel
theorem d_L_law_1155 : decode code 1155 = .ok (.iconst 1, 1) := by decide +kernel
theorem d_L_law_1156 : decode code 1156 = .ok (.iadd, 1) := by decide +kernel
theorem d_L_law_1157 : decode code 1157 = .ok (.iaload, 1) := by decide +kernel
theorem d_L_law_1158 : decode code 1158 = .ok (.aload_n 0, 1) := by decide +kernel
theorem d_L_law_1159 : decode code 1159 = .ok (.iload 4, 2) := by decide +kernel
theorem d_L_law_1161 : decode code 1161 = .ok (.iconst 2, 1) := by decide +kernel
theorem d_L_law_1162 : decode code 1162 = .ok (.iadd, 1) := by decide +kernel
theorem d_L_law_1163 : decode code 1163 = .ok (.iaload, 1) := by decide +kernel
theorem d_L_law_1164 : decode code 1164 = .ok (.aload_n 0, 1) := by decide +kernel
theorem d_L_law_1165 : decode code 1165 = .ok (.iload 4, 2) := by decide +kernel
theorem d_L_law_1167 : decode code 1167 = .ok (.iconst 3, 1) := by decide +kernel
theorem d_L_law_1168 : decode code 1168 = .ok (.iadd, 1) := by decide +kernel
theorem d_L_law_1169 : decode code 1169 = .ok (.iaload, 1) := by decide +kernel
theorem d_L_law_1170 : decode code 1170 = .ok (.invokevirtual 138, 3) := by decide +kernel
theorem d_L_law_1173 : decode code 1173 = .ok (.istore 6, 2) := by decide +kernel
theorem d_L_law_1175 : decode code 1175 = .ok (.aload_n 2, 1) := by decide +kernel
theorem d_L_law_1176 : decode code 1176 = .ok (.invokevirtual 93, 3) := by decide +kernel
theorem d_L_law_1179 : decode code 1179 = .ok (.iload 5, 2) := by decide +kernel
theorem d_L_law_1181 : decode code 1181 = .ok (.if_icmp .eq 5, 3) := by decide +kernel
theorem d_L_law_1184 : decode code 1184 = .ok (.iconst 0, 1) := by decide +kernel
theorem d_L_law_1185 : decode code 1185 = .ok (.ireturn, 1) := by decide +kernel
theorem d_L_law_1186 : decode code 1186 = .ok (.iload 5, 2) := by decide +kernel
theorem d_L_law_1188 : decode code 1188 = .ok (.ifCond .ne 15, 3) := by decide +kernel
theorem d_L_law_1191 : decode code 1191 = .ok (.aload_n 3, 1) := by decide +kernel
theorem d_L_law_1192 : decode code 1192 = .ok (.iconst 0, 1) := by decide +kernel
theorem d_L_law_1193 : decode code 1193 = .ok (.laload, 1) := by decide +kernel
theorem d_L_law_1194 : decode code 1194 = .ok (.iload 6, 2) := by decide +kernel
theorem d_L_law_1196 : decode code 1196 = .ok (.i2l, 1) := by decide +kernel
theorem d_L_law_1197 : decode code 1197 = .ok (.lcmp, 1) := by decide +kernel
theorem d_L_law_1198 : decode code 1198 = .ok (.ifCond .eq 5, 3) := by decide +kernel
theorem d_L_law_1201 : decode code 1201 = .ok (.iconst 0, 1) := by decide +kernel
theorem d_L_law_1202 : decode code 1202 = .ok (.ireturn, 1) := by decide +kernel
theorem d_L_law_1203 : decode code 1203 = .ok (.goto 474, 3) := by decide +kernel
theorem d_L_law_1206 : decode code 1206 = .ok (.aload_n 1, 1) := by decide +kernel
theorem d_L_law_1207 : decode code 1207 = .ok (.aload_n 0, 1) := by decide +kernel
theorem d_L_law_1208 : decode code 1208 = .ok (.iload 4, 2) := by decide +kernel
theorem d_L_law_1210 : decode code 1210 = .ok (.iconst 1, 1) := by decide +kernel
theorem d_L_law_1211 : decode code 1211 = .ok (.iadd, 1) := by decide +kernel
theorem d_L_law_1212 : decode code 1212 = .ok (.iaload, 1) := by decide +kernel
theorem d_L_law_1213 : decode code 1213 = .ok (.aload_n 0, 1) := by decide +kernel
theorem d_L_law_1214 : decode code 1214 = .ok (.iload 4, 2) := by decide +kernel
theorem d_L_law_1216 : decode code 1216 = .ok (.iconst 2, 1) := by decide +kernel
theorem d_L_law_1217 : decode code 1217 = .ok (.iadd, 1) := by decide +kernel
theorem d_L_law_1218 : decode code 1218 = .ok (.iaload, 1) := by decide +kernel
theorem d_L_law_1219 : decode code 1219 = .ok (.aload_n 3, 1) := by decide +kernel
theorem d_L_law_1220 : decode code 1220 = .ok (.invokestatic 139, 3) := by decide +kernel
theorem d_L_law_1223 : decode code 1223 = .ok (.istore 5, 2) := by decide +kernel
theorem d_L_law_1225 : decode code 1225 = .ok (.aload_n 2, 1) := by decide +kernel
theorem d_L_law_1226 : decode code 1226 = .ok (.aload_n 0, 1) := by decide +kernel
theorem d_L_law_1227 : decode code 1227 = .ok (.iload 4, 2) := by decide +kernel
theorem d_L_law_1229 : decode code 1229 = .ok (.iconst 1, 1) := by decide +kernel
theorem d_L_law_1230 : decode code 1230 = .ok (.iadd, 1) := by decide +kernel
theorem d_L_law_1231 : decode code 1231 = .ok (.iaload, 1) := by decide +kernel
theorem d_L_law_1232 : decode code 1232 = .ok (.aload_n 0, 1) := by decide +kernel
theorem d_L_law_1233 : decode code 1233 = .ok (.iload 4, 2) := by decide +kernel
theorem d_L_law_1235 : decode code 1235 = .ok (.iconst 2, 1) := by decide +kernel
theorem d_L_law_1236 : decode code 1236 = .ok (.iadd, 1) := by decide +kernel
theorem d_L_law_1237 : decode code 1237 = .ok (.iaload, 1) := by decide +kernel
theorem d_L_law_1238 : decode code 1238 = .ok (.invokevirtual 141, 3) := by decide +kernel
theorem d_L_law_1241 : decode code 1241 = .ok (.istore 6, 2) := by decide +kernel
theorem d_L_law_1243 : decode code 1243 = .ok (.aload_n 2, 1) := by decide +kernel
theorem d_L_law_1244 : decode code 1244 = .ok (.invokevirtual 93, 3) := by decide +kernel
theorem d_L_law_1247 : decode code 1247 = .ok (.iload 5, 2) := by decide +kernel
theorem d_L_law_1249 : decode code 1249 = .ok (.if_icmp .eq 5, 3) := by decide +kernel
theorem d_L_law_1252 : decode code 1252 = .ok (.iconst 0, 1) := by decide +kernel
theorem d_L_law_1253 : decode code 1253 = .ok (.ireturn, 1) := by decide +kernel
theorem d_L_law_1254 : decode code 1254 = .ok (.iload 5, 2) := by decide +kernel
theorem d_L_law_1256 : decode code 1256 = .ok (.ifCond .ne 15, 3) := by decide +kernel
theorem d_L_law_1259 : decode code 1259 = .ok (.aload_n 3, 1) := by decide +kernel
theorem d_L_law_1260 : decode code 1260 = .ok (.iconst 0, 1) := by decide +kernel
theorem d_L_law_1261 : decode code 1261 = .ok (.laload, 1) := by decide +kernel
theorem d_L_law_1262 : decode code 1262 = .ok (.iload 6, 2) := by decide +kernel
theorem d_L_law_1264 : decode code 1264 = .ok (.i2l, 1) := by decide +kernel
theorem d_L_law_1265 : decode code 1265 = .ok (.lcmp, 1) := by decide +kernel
theorem d_L_law_1266 : decode code 1266 = .ok (.ifCond .eq 5, 3) := by decide +kernel
theorem d_L_law_1269 : decode code 1269 = .ok (.iconst 0, 1) := by decide +kernel
theorem d_L_law_1270 : decode code 1270 = .ok (.ireturn, 1) := by decide +kernel
theorem d_L_law_1271 : decode code 1271 = .ok (.goto 406, 3) := by decide +kernel
theorem d_L_law_1274 : decode code 1274 = .ok (.aload_n 1, 1) := by decide +kernel
theorem d_L_law_1275 : decode code 1275 = .ok (.aload_n 0, 1) := by decide +kernel
theorem d_L_law_1276 : decode code 1276 = .ok (.iload 4, 2) := by decide +kernel
theorem d_L_law_1278 : decode code 1278 = .ok (.iconst 1, 1) := by decide +kernel
theorem d_L_law_1279 : decode code 1279 = .ok (.iadd, 1) := by decide +kernel
theorem d_L_law_1280 : decode code 1280 = .ok (.iaload, 1) := by decide +kernel
theorem d_L_law_1281 : decode code 1281 = .ok (.aload_n 0, 1) := by decide +kernel
theorem d_L_law_1282 : decode code 1282 = .ok (.iload 4, 2) := by decide +kernel
theorem d_L_law_1284 : decode code 1284 = .ok (.iconst 2, 1) := by decide +kernel
theorem d_L_law_1285 : decode code 1285 = .ok (.iadd, 1) := by decide +kernel
theorem d_L_law_1286 : decode code 1286 = .ok (.iaload, 1) := by decide +kernel
theorem d_L_law_1287 : decode code 1287 = .ok (.aload_n 3, 1) := by decide +kernel
theorem d_L_law_1288 : decode code 1288 = .ok (.invokestatic 142, 3) := by decide +kernel
theorem d_L_law_1291 : decode code 1291 = .ok (.istore 5, 2) := by decide +kernel
theorem d_L_law_1293 : decode code 1293 = .ok (.aload_n 2, 1) := by decide +kernel
theorem d_L_law_1294 : decode code 1294 = .ok (.aload_n 0, 1) := by decide +kernel
theorem d_L_law_1295 : decode code 1295 = .ok (.iload 4, 2) := by decide +kernel
theorem d_L_law_1297 : decode code 1297 = .ok (.iconst 1, 1) := by decide +kernel
theorem d_L_law_1298 : decode code 1298 = .ok (.iadd, 1) := by decide +kernel
theorem d_L_law_1299 : decode code 1299 = .ok (.iaload, 1) := by decide +kernel
theorem d_L_law_1300 : decode code 1300 = .ok (.aload_n 0, 1) := by decide +kernel
theorem d_L_law_1301 : decode code 1301 = .ok (.iload 4, 2) := by decide +kernel
theorem d_L_law_1303 : decode code 1303 = .ok (.iconst 2, 1) := by decide +kernel
theorem d_L_law_1304 : decode code 1304 = .ok (.iadd, 1) := by decide +kernel
theorem d_L_law_1305 : decode code 1305 = .ok (.iaload, 1) := by decide +kernel
theorem d_L_law_1306 : decode code 1306 = .ok (.invokevirtual 144, 3) := by decide +kernel
theorem d_L_law_1309 : decode code 1309 = .ok (.istore 6, 2) := by decide +kernel
theorem d_L_law_1311 : decode code 1311 = .ok (.aload_n 2, 1) := by decide +kernel
theorem d_L_law_1312 : decode code 1312 = .ok (.invokevirtual 93, 3) := by decide +kernel
theorem d_L_law_1315 : decode code 1315 = .ok (.iload 5, 2) := by decide +kernel
theorem d_L_law_1317 : decode code 1317 = .ok (.if_icmp .eq 5, 3) := by decide +kernel
theorem d_L_law_1320 : decode code 1320 = .ok (.iconst 0, 1) := by decide +kernel
theorem d_L_law_1321 : decode code 1321 = .ok (.ireturn, 1) := by decide +kernel
theorem d_L_law_1322 : decode code 1322 = .ok (.iload 5, 2) := by decide +kernel
theorem d_L_law_1324 : decode code 1324 = .ok (.ifCond .ne 22, 3) := by decide +kernel
theorem d_L_law_1327 : decode code 1327 = .ok (.aload_n 3, 1) := by decide +kernel
theorem d_L_law_1328 : decode code 1328 = .ok (.iconst 0, 1) := by decide +kernel
theorem d_L_law_1329 : decode code 1329 = .ok (.laload, 1) := by decide +kernel
theorem d_L_law_1330 : decode code 1330 = .ok (.iload 6, 2) := by decide +kernel
theorem d_L_law_1332 : decode code 1332 = .ok (.ifCond .eq 7, 3) := by decide +kernel
theorem d_L_law_1335 : decode code 1335 = .ok (.lconst 1, 1) := by decide +kernel
theorem d_L_law_1336 : decode code 1336 = .ok (.goto 4, 3) := by decide +kernel
theorem d_L_law_1339 : decode code 1339 = .ok (.lconst 0, 1) := by decide +kernel
theorem d_L_law_1340 : decode code 1340 = .ok (.lcmp, 1) := by decide +kernel
theorem d_L_law_1341 : decode code 1341 = .ok (.ifCond .eq 5, 3) := by decide +kernel
theorem d_L_law_1344 : decode code 1344 = .ok (.iconst 0, 1) := by decide +kernel
theorem d_L_law_1345 : decode code 1345 = .ok (.ireturn, 1) := by decide +kernel
theorem d_L_law_1346 : decode code 1346 = .ok (.goto 331, 3) := by decide +kernel
theorem d_L_law_1349 : decode code 1349 = .ok (.aload_n 1, 1) := by decide +kernel
theorem d_L_law_1350 : decode code 1350 = .ok (.aload_n 0, 1) := by decide +kernel
theorem d_L_law_1351 : decode code 1351 = .ok (.iload 4, 2) := by decide +kernel
theorem d_L_law_1353 : decode code 1353 = .ok (.iconst 1, 1) := by decide +kernel
theorem d_L_law_1354 : decode code 1354 = .ok (.iadd, 1) := by decide +kernel
theorem d_L_law_1355 : decode code 1355 = .ok (.iaload, 1) := by decide +kernel
theorem d_L_law_1356 : decode code 1356 = .ok (.aload_n 3, 1) := by decide +kernel
theorem d_L_law_1357 : decode code 1357 = .ok (.invokestatic 145, 3) := by decide +kernel
theorem d_L_law_1360 : decode code 1360 = .ok (.istore 5, 2) := by decide +kernel
theorem d_L_law_1362 : decode code 1362 = .ok (.aload_n 2, 1) := by decide +kernel
theorem d_L_law_1363 : decode code 1363 = .ok (.aload_n 0, 1) := by decide +kernel
theorem d_L_law_1364 : decode code 1364 = .ok (.iload 4, 2) := by decide +kernel
theorem d_L_law_1366 : decode code 1366 = .ok (.iconst 1, 1) := by decide +kernel
theorem d_L_law_1367 : decode code 1367 = .ok (.iadd, 1) := by decide +kernel
theorem d_L_law_1368 : decode code 1368 = .ok (.iaload, 1) := by decide +kernel
theorem d_L_law_1369 : decode code 1369 = .ok (.invokevirtual 148, 3) := by decide +kernel
theorem d_L_law_1372 : decode code 1372 = .ok (.istore 6, 2) := by decide +kernel
theorem d_L_law_1374 : decode code 1374 = .ok (.aload_n 2, 1) := by decide +kernel
theorem d_L_law_1375 : decode code 1375 = .ok (.invokevirtual 93, 3) := by decide +kernel
theorem d_L_law_1378 : decode code 1378 = .ok (.iload 5, 2) := by decide +kernel
theorem d_L_law_1380 : decode code 1380 = .ok (.if_icmp .eq 5, 3) := by decide +kernel
theorem d_L_law_1383 : decode code 1383 = .ok (.iconst 0, 1) := by decide +kernel
theorem d_L_law_1384 : decode code 1384 = .ok (.ireturn, 1) := by decide +kernel
theorem d_L_law_1385 : decode code 1385 = .ok (.iload 5, 2) := by decide +kernel
theorem d_L_law_1387 : decode code 1387 = .ok (.ifCond .ne 15, 3) := by decide +kernel
theorem d_L_law_1390 : decode code 1390 = .ok (.aload_n 3, 1) := by decide +kernel
theorem d_L_law_1391 : decode code 1391 = .ok (.iconst 0, 1) := by decide +kernel
theorem d_L_law_1392 : decode code 1392 = .ok (.laload, 1) := by decide +kernel
theorem d_L_law_1393 : decode code 1393 = .ok (.iload 6, 2) := by decide +kernel
theorem d_L_law_1395 : decode code 1395 = .ok (.i2l, 1) := by decide +kernel
theorem d_L_law_1396 : decode code 1396 = .ok (.lcmp, 1) := by decide +kernel
theorem d_L_law_1397 : decode code 1397 = .ok (.ifCond .eq 5, 3) := by decide +kernel
theorem d_L_law_1400 : decode code 1400 = .ok (.iconst 0, 1) := by decide +kernel
theorem d_L_law_1401 : decode code 1401 = .ok (.ireturn, 1) := by decide +kernel
theorem d_L_law_1402 : decode code 1402 = .ok (.goto 275, 3) := by decide +kernel
theorem d_L_law_1405 : decode code 1405 = .ok (.aload_n 1, 1) := by decide +kernel
theorem d_L_law_1406 : decode code 1406 = .ok (.aload_n 0, 1) := by decide +kernel
theorem d_L_law_1407 : decode code 1407 = .ok (.iload 4, 2) := by decide +kernel
theorem d_L_law_1409 : decode code 1409 = .ok (.iconst 1, 1) := by decide +kernel
theorem d_L_law_1410 : decode code 1410 = .ok (.iadd, 1) := by decide +kernel
theorem d_L_law_1411 : decode code 1411 = .ok (.iaload, 1) := by decide +kernel
theorem d_L_law_1412 : decode code 1412 = .ok (.aload_n 0, 1) := by decide +kernel
theorem d_L_law_1413 : decode code 1413 = .ok (.iload 4, 2) := by decide +kernel
theorem d_L_law_1415 : decode code 1415 = .ok (.iconst 2, 1) := by decide +kernel
theorem d_L_law_1416 : decode code 1416 = .ok (.iadd, 1) := by decide +kernel
theorem d_L_law_1417 : decode code 1417 = .ok (.iaload, 1) := by decide +kernel
theorem d_L_law_1418 : decode code 1418 = .ok (.aload_n 3, 1) := by decide +kernel
theorem d_L_law_1419 : decode code 1419 = .ok (.invokestatic 149, 3) := by decide +kernel
theorem d_L_law_1422 : decode code 1422 = .ok (.istore 5, 2) := by decide +kernel
theorem d_L_law_1424 : decode code 1424 = .ok (.aload_n 2, 1) := by decide +kernel
theorem d_L_law_1425 : decode code 1425 = .ok (.aload_n 0, 1) := by decide +kernel
theorem d_L_law_1426 : decode code 1426 = .ok (.iload 4, 2) := by decide +kernel
theorem d_L_law_1428 : decode code 1428 = .ok (.iconst 1, 1) := by decide +kernel
theorem d_L_law_1429 : decode code 1429 = .ok (.iadd, 1) := by decide +kernel
theorem d_L_law_1430 : decode code 1430 = .ok (.iaload, 1) := by decide +kernel
theorem d_L_law_1431 : decode code 1431 = .ok (.aload_n 0, 1) := by decide +kernel
theorem d_L_law_1432 : decode code 1432 = .ok (.iload 4, 2) := by decide +kernel
theorem d_L_law_1434 : decode code 1434 = .ok (.iconst 2, 1) := by decide +kernel
theorem d_L_law_1435 : decode code 1435 = .ok (.iadd, 1) := by decide +kernel
theorem d_L_law_1436 : decode code 1436 = .ok (.iaload, 1) := by decide +kernel
theorem d_L_law_1437 : decode code 1437 = .ok (.invokevirtual 151, 3) := by decide +kernel
theorem d_L_law_1440 : decode code 1440 = .ok (.istore 6, 2) := by decide +kernel
theorem d_L_law_1442 : decode code 1442 = .ok (.aload_n 2, 1) := by decide +kernel
theorem d_L_law_1443 : decode code 1443 = .ok (.invokevirtual 93, 3) := by decide +kernel
theorem d_L_law_1446 : decode code 1446 = .ok (.iload 5, 2) := by decide +kernel
theorem d_L_law_1448 : decode code 1448 = .ok (.if_icmp .eq 5, 3) := by decide +kernel
theorem d_L_law_1451 : decode code 1451 = .ok (.iconst 0, 1) := by decide +kernel
theorem d_L_law_1452 : decode code 1452 = .ok (.ireturn, 1) := by decide +kernel
theorem d_L_law_1453 : decode code 1453 = .ok (.iload 5, 2) := by decide +kernel
theorem d_L_law_1455 : decode code 1455 = .ok (.ifCond .ne 15, 3) := by decide +kernel
theorem d_L_law_1458 : decode code 1458 = .ok (.aload_n 3, 1) := by decide +kernel
theorem d_L_law_1459 : decode code 1459 = .ok (.iconst 0, 1) := by decide +kernel
theorem d_L_law_1460 : decode code 1460 = .ok (.laload, 1) := by decide +kernel
theorem d_L_law_1461 : decode code 1461 = .ok (.iload 6, 2) := by decide +kernel
theorem d_L_law_1463 : decode code 1463 = .ok (.i2l, 1) := by decide +kernel
theorem d_L_law_1464 : decode code 1464 = .ok (.lcmp, 1) := by decide +kernel
theorem d_L_law_1465 : decode code 1465 = .ok (.ifCond .eq 5, 3) := by decide +kernel
theorem d_L_law_1468 : decode code 1468 = .ok (.iconst 0, 1) := by decide +kernel
theorem d_L_law_1469 : decode code 1469 = .ok (.ireturn, 1) := by decide +kernel
theorem d_L_law_1470 : decode code 1470 = .ok (.goto 207, 3) := by decide +kernel
theorem d_L_law_1473 : decode code 1473 = .ok (.aload_n 1, 1) := by decide +kernel
theorem d_L_law_1474 : decode code 1474 = .ok (.aload_n 0, 1) := by decide +kernel
theorem d_L_law_1475 : decode code 1475 = .ok (.iload 4, 2) := by decide +kernel
theorem d_L_law_1477 : decode code 1477 = .ok (.iconst 1, 1) := by decide +kernel
theorem d_L_law_1478 : decode code 1478 = .ok (.iadd, 1) := by decide +kernel
theorem d_L_law_1479 : decode code 1479 = .ok (.iaload, 1) := by decide +kernel
theorem d_L_law_1480 : decode code 1480 = .ok (.aload_n 0, 1) := by decide +kernel
theorem d_L_law_1481 : decode code 1481 = .ok (.iload 4, 2) := by decide +kernel
theorem d_L_law_1483 : decode code 1483 = .ok (.iconst 2, 1) := by decide +kernel
theorem d_L_law_1484 : decode code 1484 = .ok (.iadd, 1) := by decide +kernel
theorem d_L_law_1485 : decode code 1485 = .ok (.iaload, 1) := by decide +kernel
theorem d_L_law_1486 : decode code 1486 = .ok (.aload_n 0, 1) := by decide +kernel
theorem d_L_law_1487 : decode code 1487 = .ok (.iload 4, 2) := by decide +kernel
theorem d_L_law_1489 : decode code 1489 = .ok (.iconst 3, 1) := by decide +kernel
theorem d_L_law_1490 : decode code 1490 = .ok (.iadd, 1) := by decide +kernel
theorem d_L_law_1491 : decode code 1491 = .ok (.iaload, 1) := by decide +kernel
theorem d_L_law_1492 : decode code 1492 = .ok (.aload_n 3, 1) := by decide +kernel
theorem d_L_law_1493 : decode code 1493 = .ok (.invokestatic 152, 3) := by decide +kernel
theorem d_L_law_1496 : decode code 1496 = .ok (.istore 5, 2) := by decide +kernel
theorem d_L_law_1498 : decode code 1498 = .ok (.aload_n 2, 1) := by decide +kernel
theorem d_L_law_1499 : decode code 1499 = .ok (.aload_n 0, 1) := by decide +kernel
theorem d_L_law_1500 : decode code 1500 = .ok (.iload 4, 2) := by decide +kernel
theorem d_L_law_1502 : decode code 1502 = .ok (.iconst 1, 1) := by decide +kernel
theorem d_L_law_1503 : decode code 1503 = .ok (.iadd, 1) := by decide +kernel
theorem d_L_law_1504 : decode code 1504 = .ok (.iaload, 1) := by decide +kernel
theorem d_L_law_1505 : decode code 1505 = .ok (.aload_n 0, 1) := by decide +kernel
theorem d_L_law_1506 : decode code 1506 = .ok (.iload 4, 2) := by decide +kernel
theorem d_L_law_1508 : decode code 1508 = .ok (.iconst 2, 1) := by decide +kernel
theorem d_L_law_1509 : decode code 1509 = .ok (.iadd, 1) := by decide +kernel
theorem d_L_law_1510 : decode code 1510 = .ok (.iaload, 1) := by decide +kernel
theorem d_L_law_1511 : decode code 1511 = .ok (.aload_n 0, 1) := by decide +kernel
theorem d_L_law_1512 : decode code 1512 = .ok (.iload 4, 2) := by decide +kernel
theorem d_L_law_1514 : decode code 1514 = .ok (.iconst 3, 1) := by decide +kernel
theorem d_L_law_1515 : decode code 1515 = .ok (.iadd, 1) := by decide +kernel
theorem d_L_law_1516 : decode code 1516 = .ok (.iaload, 1) := by decide +kernel
theorem d_L_law_1517 : decode code 1517 = .ok (.invokevirtual 154, 3) := by decide +kernel
theorem d_L_law_1520 : decode code 1520 = .ok (.istore 6, 2) := by decide +kernel
theorem d_L_law_1522 : decode code 1522 = .ok (.aload_n 2, 1) := by decide +kernel
theorem d_L_law_1523 : decode code 1523 = .ok (.invokevirtual 93, 3) := by decide +kernel
theorem d_L_law_1526 : decode code 1526 = .ok (.iload 5, 2) := by decide +kernel
theorem d_L_law_1528 : decode code 1528 = .ok (.if_icmp .eq 5, 3) := by decide +kernel
theorem d_L_law_1531 : decode code 1531 = .ok (.iconst 0, 1) := by decide +kernel
theorem d_L_law_1532 : decode code 1532 = .ok (.ireturn, 1) := by decide +kernel
theorem d_L_law_1533 : decode code 1533 = .ok (.iload 5, 2) := by decide +kernel
theorem d_L_law_1535 : decode code 1535 = .ok (.ifCond .ne 15, 3) := by decide +kernel
theorem d_L_law_1538 : decode code 1538 = .ok (.aload_n 3, 1) := by decide +kernel
theorem d_L_law_1539 : decode code 1539 = .ok (.iconst 0, 1) := by decide +kernel
theorem d_L_law_1540 : decode code 1540 = .ok (.laload, 1) := by decide +kernel
theorem d_L_law_1541 : decode code 1541 = .ok (.iload 6, 2) := by decide +kernel
theorem d_L_law_1543 : decode code 1543 = .ok (.i2l, 1) := by decide +kernel
theorem d_L_law_1544 : decode code 1544 = .ok (.lcmp, 1) := by decide +kernel
theorem d_L_law_1545 : decode code 1545 = .ok (.ifCond .eq 5, 3) := by decide +kernel
theorem d_L_law_1548 : decode code 1548 = .ok (.iconst 0, 1) := by decide +kernel
theorem d_L_law_1549 : decode code 1549 = .ok (.ireturn, 1) := by decide +kernel
theorem d_L_law_1550 : decode code 1550 = .ok (.goto 127, 3) := by decide +kernel
theorem d_L_law_1553 : decode code 1553 = .ok (.aload_n 1, 1) := by decide +kernel
theorem d_L_law_1554 : decode code 1554 = .ok (.aload_n 0, 1) := by decide +kernel
theorem d_L_law_1555 : decode code 1555 = .ok (.iload 4, 2) := by decide +kernel
theorem d_L_law_1557 : decode code 1557 = .ok (.iconst 1, 1) := by decide +kernel
theorem d_L_law_1558 : decode code 1558 = .ok (.iadd, 1) := by decide +kernel
theorem d_L_law_1559 : decode code 1559 = .ok (.iaload, 1) := by decide +kernel
theorem d_L_law_1560 : decode code 1560 = .ok (.aload_n 0, 1) := by decide +kernel
theorem d_L_law_1561 : decode code 1561 = .ok (.iload 4, 2) := by decide +kernel
theorem d_L_law_1563 : decode code 1563 = .ok (.iconst 2, 1) := by decide +kernel
theorem d_L_law_1564 : decode code 1564 = .ok (.iadd, 1) := by decide +kernel
theorem d_L_law_1565 : decode code 1565 = .ok (.iaload, 1) := by decide +kernel
theorem d_L_law_1566 : decode code 1566 = .ok (.aload_n 3, 1) := by decide +kernel
theorem d_L_law_1567 : decode code 1567 = .ok (.invokestatic 155, 3) := by decide +kernel
theorem d_L_law_1570 : decode code 1570 = .ok (.istore 5, 2) := by decide +kernel
theorem d_L_law_1572 : decode code 1572 = .ok (.aload_n 2, 1) := by decide +kernel
theorem d_L_law_1573 : decode code 1573 = .ok (.aload_n 0, 1) := by decide +kernel
theorem d_L_law_1574 : decode code 1574 = .ok (.iload 4, 2) := by decide +kernel
theorem d_L_law_1576 : decode code 1576 = .ok (.iconst 1, 1) := by decide +kernel
theorem d_L_law_1577 : decode code 1577 = .ok (.iadd, 1) := by decide +kernel
theorem d_L_law_1578 : decode code 1578 = .ok (.iaload, 1) := by decide +kernel
theorem d_L_law_1579 : decode code 1579 = .ok (.aload_n 0, 1) := by decide +kernel
theorem d_L_law_1580 : decode code 1580 = .ok (.iload 4, 2) := by decide +kernel
theorem d_L_law_1582 : decode code 1582 = .ok (.iconst 2, 1) := by decide +kernel
theorem d_L_law_1583 : decode code 1583 = .ok (.iadd, 1) := by decide +kernel
theorem d_L_law_1584 : decode code 1584 = .ok (.iaload, 1) := by decide +kernel
theorem d_L_law_1585 : decode code 1585 = .ok (.invokevirtual 157, 3) := by decide +kernel
theorem d_L_law_1588 : decode code 1588 = .ok (.istore 6, 2) := by decide +kernel
theorem d_L_law_1590 : decode code 1590 = .ok (.aload_n 2, 1) := by decide +kernel
theorem d_L_law_1591 : decode code 1591 = .ok (.invokevirtual 93, 3) := by decide +kernel
theorem d_L_law_1594 : decode code 1594 = .ok (.iload 5, 2) := by decide +kernel
theorem d_L_law_1596 : decode code 1596 = .ok (.if_icmp .eq 5, 3) := by decide +kernel
theorem d_L_law_1599 : decode code 1599 = .ok (.iconst 0, 1) := by decide +kernel
theorem d_L_law_1600 : decode code 1600 = .ok (.ireturn, 1) := by decide +kernel
theorem d_L_law_1601 : decode code 1601 = .ok (.iload 5, 2) := by decide +kernel
theorem d_L_law_1603 : decode code 1603 = .ok (.ifCond .ne 15, 3) := by decide +kernel
theorem d_L_law_1606 : decode code 1606 = .ok (.aload_n 3, 1) := by decide +kernel
theorem d_L_law_1607 : decode code 1607 = .ok (.iconst 0, 1) := by decide +kernel
theorem d_L_law_1608 : decode code 1608 = .ok (.laload, 1) := by decide +kernel
theorem d_L_law_1609 : decode code 1609 = .ok (.iload 6, 2) := by decide +kernel
theorem d_L_law_1611 : decode code 1611 = .ok (.i2l, 1) := by decide +kernel
theorem d_L_law_1612 : decode code 1612 = .ok (.lcmp, 1) := by decide +kernel
theorem d_L_law_1613 : decode code 1613 = .ok (.ifCond .eq 5, 3) := by decide +kernel
theorem d_L_law_1616 : decode code 1616 = .ok (.iconst 0, 1) := by decide +kernel
theorem d_L_law_1617 : decode code 1617 = .ok (.ireturn, 1) := by decide +kernel
theorem d_L_law_1618 : decode code 1618 = .ok (.goto 59, 3) := by decide +kernel
theorem d_L_law_1621 : decode code 1621 = .ok (.aload_n 1, 1) := by decide +kernel
theorem d_L_law_1622 : decode code 1622 = .ok (.aload_n 0, 1) := by decide +kernel
theorem d_L_law_1623 : decode code 1623 = .ok (.iload 4, 2) := by decide +kernel
theorem d_L_law_1625 : decode code 1625 = .ok (.iconst 1, 1) := by decide +kernel
theorem d_L_law_1626 : decode code 1626 = .ok (.iadd, 1) := by decide +kernel
theorem d_L_law_1627 : decode code 1627 = .ok (.iaload, 1) := by decide +kernel
theorem d_L_law_1628 : decode code 1628 = .ok (.aload_n 3, 1) := by decide +kernel
theorem d_L_law_1629 : decode code 1629 = .ok (.invokestatic 158, 3) := by decide +kernel
theorem d_L_law_1632 : decode code 1632 = .ok (.istore 5, 2) := by decide +kernel
theorem d_L_law_1634 : decode code 1634 = .ok (.aload_n 2, 1) := by decide +kernel
theorem d_L_law_1635 : decode code 1635 = .ok (.aload_n 0, 1) := by decide +kernel
theorem d_L_law_1636 : decode code 1636 = .ok (.iload 4, 2) := by decide +kernel
theorem d_L_law_1638 : decode code 1638 = .ok (.iconst 1, 1) := by decide +kernel
theorem d_L_law_1639 : decode code 1639 = .ok (.iadd, 1) := by decide +kernel
theorem d_L_law_1640 : decode code 1640 = .ok (.iaload, 1) := by decide +kernel
theorem d_L_law_1641 : decode code 1641 = .ok (.invokevirtual 160, 3) := by decide +kernel
theorem d_L_law_1644 : decode code 1644 = .ok (.istore 6, 2) := by decide +kernel
theorem d_L_law_1646 : decode code 1646 = .ok (.aload_n 2, 1) := by decide +kernel
theorem d_L_law_1647 : decode code 1647 = .ok (.invokevirtual 93, 3) := by decide +kernel
theorem d_L_law_1650 : decode code 1650 = .ok (.iload 5, 2) := by decide +kernel
theorem d_L_law_1652 : decode code 1652 = .ok (.if_icmp .eq 5, 3) := by decide +kernel
theorem d_L_law_1655 : decode code 1655 = .ok (.iconst 0, 1) := by decide +kernel
theorem d_L_law_1656 : decode code 1656 = .ok (.ireturn, 1) := by decide +kernel
theorem d_L_law_1657 : decode code 1657 = .ok (.iload 5, 2) := by decide +kernel
theorem d_L_law_1659 : decode code 1659 = .ok (.ifCond .ne 15, 3) := by decide +kernel
theorem d_L_law_1662 : decode code 1662 = .ok (.aload_n 3, 1) := by decide +kernel
theorem d_L_law_1663 : decode code 1663 = .ok (.iconst 0, 1) := by decide +kernel
theorem d_L_law_1664 : decode code 1664 = .ok (.laload, 1) := by decide +kernel
theorem d_L_law_1665 : decode code 1665 = .ok (.iload 6, 2) := by decide +kernel
theorem d_L_law_1667 : decode code 1667 = .ok (.i2l, 1) := by decide +kernel
theorem d_L_law_1668 : decode code 1668 = .ok (.lcmp, 1) := by decide +kernel
theorem d_L_law_1669 : decode code 1669 = .ok (.ifCond .eq 5, 3) := by decide +kernel
theorem d_L_law_1672 : decode code 1672 = .ok (.iconst 0, 1) := by decide +kernel
theorem d_L_law_1673 : decode code 1673 = .ok (.ireturn, 1) := by decide +kernel
theorem d_L_law_1674 : decode code 1674 = .ok (.goto 3, 3) := by decide +kernel
theorem d_L_law_1677 : decode code 1677 = .ok (.iinc 4 6, 3) := by decide +kernel
theorem d_L_law_1680 : decode code 1680 = .ok (.goto (-1657), 3) := by decide +kernel
theorem d_L_law_1683 : decode code 1683 = .ok (.iconst 1, 1) := by decide +kernel
theorem d_L_law_1684 : decode code 1684 = .ok (.ireturn, 1) := by decide +kernel
