/-! decode rows -/
theorem d_M_compact_0 : decode prog_5_method_30_code 0 = .ok (.aload_n 0, 1) := by decide +kernel
theorem d_M_compact_1 : decode prog_5_method_30_code 1 = .ok (.iload_n 1, 1) := by decide +kernel
theorem d_M_compact_2 : decode prog_5_method_30_code 2 = .ok (.invokevirtual 55, 3) := by decide +kernel
theorem d_M_compact_5 : decode prog_5_method_30_code 5 = .ok (.istore_n 3, 1) := by decide +kernel
theorem d_M_compact_6 : decode prog_5_method_30_code 6 = .ok (.iload_n 3, 1) := by decide +kernel
theorem d_M_compact_7 : decode prog_5_method_30_code 7 = .ok (.ifCond .eq 36, 3) := by decide +kernel
theorem d_M_compact_10 : decode prog_5_method_30_code 10 = .ok (.aload_n 0, 1) := by decide +kernel
theorem d_M_compact_11 : decode prog_5_method_30_code 11 = .ok (.iload_n 1, 1) := by decide +kernel
theorem d_M_compact_12 : decode prog_5_method_30_code 12 = .ok (.invokevirtual 117, 3) := by decide +kernel
theorem d_M_compact_15 : decode prog_5_method_30_code 15 = .ok (.sipush 300, 3) := by decide +kernel
theorem d_M_compact_18 : decode prog_5_method_30_code 18 = .ok (.if_icmp .gt 25, 3) := by decide +kernel
theorem d_M_compact_21 : decode prog_5_method_30_code 21 = .ok (.aload_n 0, 1) := by decide +kernel
theorem d_M_compact_22 : decode prog_5_method_30_code 22 = .ok (.getfield 84, 3) := by decide +kernel
theorem d_M_compact_25 : decode prog_5_method_30_code 25 = .ok (.bipush 12, 2) := by decide +kernel
theorem d_M_compact_27 : decode prog_5_method_30_code 27 = .ok (.if_icmp .ge 16, 3) := by decide +kernel
theorem d_M_compact_30 : decode prog_5_method_30_code 30 = .ok (.aload_n 0, 1) := by decide +kernel
theorem d_M_compact_31 : decode prog_5_method_30_code 31 = .ok (.getfield 52, 3) := by decide +kernel
theorem d_M_compact_34 : decode prog_5_method_30_code 34 = .ok (.bipush 80, 2) := by decide +kernel
theorem d_M_compact_36 : decode prog_5_method_30_code 36 = .ok (.if_icmp .ge 7, 3) := by decide +kernel
theorem d_M_compact_39 : decode prog_5_method_30_code 39 = .ok (.iconst 1, 1) := by decide +kernel
theorem d_M_compact_40 : decode prog_5_method_30_code 40 = .ok (.goto 4, 3) := by decide +kernel
theorem d_M_compact_43 : decode prog_5_method_30_code 43 = .ok (.iconst 0, 1) := by decide +kernel
theorem d_M_compact_44 : decode prog_5_method_30_code 44 = .ok (.istore 4, 2) := by decide +kernel
theorem d_M_compact_46 : decode prog_5_method_30_code 46 = .ok (.aload_n 0, 1) := by decide +kernel
theorem d_M_compact_47 : decode prog_5_method_30_code 47 = .ok (.iload_n 3, 1) := by decide +kernel
theorem d_M_compact_48 : decode prog_5_method_30_code 48 = .ok (.iload_n 2, 1) := by decide +kernel
theorem d_M_compact_49 : decode prog_5_method_30_code 49 = .ok (.invokestatic 87, 3) := by decide +kernel
theorem d_M_compact_52 : decode prog_5_method_30_code 52 = .ok (.iload 4, 2) := by decide +kernel
theorem d_M_compact_54 : decode prog_5_method_30_code 54 = .ok (.invokevirtual 109, 3) := by decide +kernel
theorem d_M_compact_57 : decode prog_5_method_30_code 57 = .ok (.ifCond .ne 5, 3) := by decide +kernel
theorem d_M_compact_60 : decode prog_5_method_30_code 60 = .ok (.iconst 0, 1) := by decide +kernel
theorem d_M_compact_61 : decode prog_5_method_30_code 61 = .ok (.ireturn, 1) := by decide +kernel
theorem d_M_compact_62 : decode prog_5_method_30_code 62 = .ok (.aload_n 0, 1) := by decide +kernel
theorem d_M_compact_63 : decode prog_5_method_30_code 63 = .ok (.iload_n 1, 1) := by decide +kernel
theorem d_M_compact_64 : decode prog_5_method_30_code 64 = .ok (.invokevirtual 117, 3) := by decide +kernel
theorem d_M_compact_67 : decode prog_5_method_30_code 67 = .ok (.istore 5, 2) := by decide +kernel
theorem d_M_compact_69 : decode prog_5_method_30_code 69 = .ok (.aload_n 0, 1) := by decide +kernel
theorem d_M_compact_70 : decode prog_5_method_30_code 70 = .ok (.iload_n 2, 1) := by decide +kernel
theorem d_M_compact_71 : decode prog_5_method_30_code 71 = .ok (.iload 5, 2) := by decide +kernel
theorem d_M_compact_73 : decode prog_5_method_30_code 73 = .ok (.invokevirtual 98, 3) := by decide +kernel
theorem d_M_compact_76 : decode prog_5_method_30_code 76 = .ok (.istore 6, 2) := by decide +kernel
theorem d_M_compact_78 : decode prog_5_method_30_code 78 = .ok (.iconst 0, 1) := by decide +kernel
theorem d_M_compact_79 : decode prog_5_method_30_code 79 = .ok (.istore 7, 2) := by decide +kernel
theorem d_M_compact_81 : decode prog_5_method_30_code 81 = .ok (.iload 7, 2) := by decide +kernel
theorem d_M_compact_83 : decode prog_5_method_30_code 83 = .ok (.iload 5, 2) := by decide +kernel
theorem d_M_compact_85 : decode prog_5_method_30_code 85 = .ok (.if_icmp .ge 34, 3) := by decide +kernel
theorem d_M_compact_88 : decode prog_5_method_30_code 88 = .ok (.aload_n 0, 1) := by decide +kernel
theorem d_M_compact_89 : decode prog_5_method_30_code 89 = .ok (.getfield 16, 3) := by decide +kernel
theorem d_M_compact_92 : decode prog_5_method_30_code 92 = .ok (.sipush 300, 3) := by decide +kernel
theorem d_M_compact_95 : decode prog_5_method_30_code 95 = .ok (.iload 6, 2) := by decide +kernel
theorem d_M_compact_97 : decode prog_5_method_30_code 97 = .ok (.imul, 1) := by decide +kernel
theorem d_M_compact_98 : decode prog_5_method_30_code 98 = .ok (.iload 7, 2) := by decide +kernel
theorem d_M_compact_100 : decode prog_5_method_30_code 100 = .ok (.iadd, 1) := by decide +kernel
theorem d_M_compact_101 : decode prog_5_method_30_code 101 = .ok (.iload_n 2, 1) := by decide +kernel
theorem d_M_compact_102 : decode prog_5_method_30_code 102 = .ok (.aload_n 0, 1) := by decide +kernel
theorem d_M_compact_103 : decode prog_5_method_30_code 103 = .ok (.iload_n 1, 1) := by decide +kernel
theorem d_M_compact_104 : decode prog_5_method_30_code 104 = .ok (.iload 7, 2) := by decide +kernel
theorem d_M_compact_106 : decode prog_5_method_30_code 106 = .ok (.invokevirtual 128, 3) := by decide +kernel
theorem d_M_compact_109 : decode prog_5_method_30_code 109 = .ok (.invokestatic 74, 3) := by decide +kernel
theorem d_M_compact_112 : decode prog_5_method_30_code 112 = .ok (.lastore, 1) := by decide +kernel
theorem d_M_compact_113 : decode prog_5_method_30_code 113 = .ok (.iinc 7 1, 3) := by decide +kernel
theorem d_M_compact_116 : decode prog_5_method_30_code 116 = .ok (.goto (-35), 3) := by decide +kernel
theorem d_M_compact_119 : decode prog_5_method_30_code 119 = .ok (.aload_n 0, 1) := by decide +kernel
theorem d_M_compact_120 : decode prog_5_method_30_code 120 = .ok (.iload_n 1, 1) := by decide +kernel
theorem d_M_compact_121 : decode prog_5_method_30_code 121 = .ok (.iconst (-1), 1) := by decide +kernel
theorem d_M_compact_122 : decode prog_5_method_30_code 122 = .ok (.iconst (-1), 1) := by decide +kernel
theorem d_M_compact_123 : decode prog_5_method_30_code 123 = .ok (.invokevirtual 113, 3) := by decide +kernel
theorem d_M_compact_126 : decode prog_5_method_30_code 126 = .ok (.aload_n 0, 1) := by decide +kernel
theorem d_M_compact_127 : decode prog_5_method_30_code 127 = .ok (.invokevirtual 132, 3) := by decide +kernel
theorem d_M_compact_130 : decode prog_5_method_30_code 130 = .ok (.aload_n 0, 1) := by decide +kernel
theorem d_M_compact_131 : decode prog_5_method_30_code 131 = .ok (.iload 6, 2) := by decide +kernel
theorem d_M_compact_133 : decode prog_5_method_30_code 133 = .ok (.lconst 0, 1) := by decide +kernel
theorem d_M_compact_134 : decode prog_5_method_30_code 134 = .ok (.invokevirtual 101, 3) := by decide +kernel
theorem d_M_compact_137 : decode prog_5_method_30_code 137 = .ok (.ireturn, 1) := by decide +kernel
theorem d_M_item_0 : decode prog_5_method_11_code 0 = .ok (.aload_n 0, 1) := by decide +kernel
theorem d_M_item_1 : decode prog_5_method_11_code 1 = .ok (.getfield 16, 3) := by decide +kernel
theorem d_M_item_4 : decode prog_5_method_11_code 4 = .ok (.sipush 300, 3) := by decide +kernel
theorem d_M_item_7 : decode prog_5_method_11_code 7 = .ok (.aload_n 0, 1) := by decide +kernel
theorem d_M_item_8 : decode prog_5_method_11_code 8 = .ok (.getfield 20, 3) := by decide +kernel
theorem d_M_item_11 : decode prog_5_method_11_code 11 = .ok (.iload_n 1, 1) := by decide +kernel
theorem d_M_item_12 : decode prog_5_method_11_code 12 = .ok (.iaload, 1) := by decide +kernel
theorem d_M_item_13 : decode prog_5_method_11_code 13 = .ok (.imul, 1) := by decide +kernel
theorem d_M_item_14 : decode prog_5_method_11_code 14 = .ok (.aload_n 0, 1) := by decide +kernel
theorem d_M_item_15 : decode prog_5_method_11_code 15 = .ok (.iload_n 1, 1) := by decide +kernel
theorem d_M_item_16 : decode prog_5_method_11_code 16 = .ok (.iload_n 2, 1) := by decide +kernel
theorem d_M_item_17 : decode prog_5_method_11_code 17 = .ok (.invokevirtual 70, 3) := by decide +kernel
theorem d_M_item_20 : decode prog_5_method_11_code 20 = .ok (.iadd, 1) := by decide +kernel
theorem d_M_item_21 : decode prog_5_method_11_code 21 = .ok (.laload, 1) := by decide +kernel
theorem d_M_item_22 : decode prog_5_method_11_code 22 = .ok (.lreturn, 1) := by decide +kernel
theorem d_M_kept_0 : decode prog_5_method_12_code 0 = .ok (.iload_n 0, 1) := by decide +kernel
theorem d_M_kept_1 : decode prog_5_method_12_code 1 = .ok (.ifCond .ne 8, 3) := by decide +kernel
theorem d_M_kept_4 : decode prog_5_method_12_code 4 = .ok (.bipush 56, 2) := by decide +kernel
theorem d_M_kept_6 : decode prog_5_method_12_code 6 = .ok (.goto 24, 3) := by decide +kernel
theorem d_M_kept_9 : decode prog_5_method_12_code 9 = .ok (.iload_n 0, 1) := by decide +kernel
theorem d_M_kept_10 : decode prog_5_method_12_code 10 = .ok (.iconst 1, 1) := by decide +kernel
theorem d_M_kept_11 : decode prog_5_method_12_code 11 = .ok (.if_icmp .ne 8, 3) := by decide +kernel
theorem d_M_kept_14 : decode prog_5_method_12_code 14 = .ok (.bipush 48, 2) := by decide +kernel
theorem d_M_kept_16 : decode prog_5_method_12_code 16 = .ok (.goto 14, 3) := by decide +kernel
theorem d_M_kept_19 : decode prog_5_method_12_code 19 = .ok (.iload_n 0, 1) := by decide +kernel
theorem d_M_kept_20 : decode prog_5_method_12_code 20 = .ok (.iconst 2, 1) := by decide +kernel
theorem d_M_kept_21 : decode prog_5_method_12_code 21 = .ok (.if_icmp .ne 8, 3) := by decide +kernel
theorem d_M_kept_24 : decode prog_5_method_12_code 24 = .ok (.bipush 32, 2) := by decide +kernel
theorem d_M_kept_26 : decode prog_5_method_12_code 26 = .ok (.goto 4, 3) := by decide +kernel
theorem d_M_kept_29 : decode prog_5_method_12_code 29 = .ok (.iconst 0, 1) := by decide +kernel
theorem d_M_kept_30 : decode prog_5_method_12_code 30 = .ok (.istore_n 3, 1) := by decide +kernel
theorem d_M_kept_31 : decode prog_5_method_12_code 31 = .ok (.lload_n 1, 1) := by decide +kernel
theorem d_M_kept_32 : decode prog_5_method_12_code 32 = .ok (.iload_n 3, 1) := by decide +kernel
theorem d_M_kept_33 : decode prog_5_method_12_code 33 = .ok (.lshl, 1) := by decide +kernel
theorem d_M_kept_34 : decode prog_5_method_12_code 34 = .ok (.iload_n 3, 1) := by decide +kernel
theorem d_M_kept_35 : decode prog_5_method_12_code 35 = .ok (.lshr, 1) := by decide +kernel
theorem d_M_kept_36 : decode prog_5_method_12_code 36 = .ok (.lreturn, 1) := by decide +kernel
theorem d_M_inOrder_0 : decode prog_5_method_18_code 0 = .ok (.lconst 1, 1) := by decide +kernel
theorem d_M_inOrder_1 : decode prog_5_method_18_code 1 = .ok (.lstore_n 1, 1) := by decide +kernel
theorem d_M_inOrder_2 : decode prog_5_method_18_code 2 = .ok (.aload_n 0, 1) := by decide +kernel
theorem d_M_inOrder_3 : decode prog_5_method_18_code 3 = .ok (.getfield 59, 3) := by decide +kernel
theorem d_M_inOrder_6 : decode prog_5_method_18_code 6 = .ok (.iconst 1, 1) := by decide +kernel
theorem d_M_inOrder_7 : decode prog_5_method_18_code 7 = .ok (.isub, 1) := by decide +kernel
theorem d_M_inOrder_8 : decode prog_5_method_18_code 8 = .ok (.istore_n 3, 1) := by decide +kernel
theorem d_M_inOrder_9 : decode prog_5_method_18_code 9 = .ok (.iload_n 3, 1) := by decide +kernel
theorem d_M_inOrder_10 : decode prog_5_method_18_code 10 = .ok (.ifCond .lt 25, 3) := by decide +kernel
theorem d_M_inOrder_13 : decode prog_5_method_18_code 13 = .ok (.aload_n 0, 1) := by decide +kernel
theorem d_M_inOrder_14 : decode prog_5_method_18_code 14 = .ok (.getfield 38, 3) := by decide +kernel
theorem d_M_inOrder_17 : decode prog_5_method_18_code 17 = .ok (.iload_n 3, 1) := by decide +kernel
theorem d_M_inOrder_18 : decode prog_5_method_18_code 18 = .ok (.lload_n 1, 1) := by decide +kernel
theorem d_M_inOrder_19 : decode prog_5_method_18_code 19 = .ok (.lastore, 1) := by decide +kernel
theorem d_M_inOrder_20 : decode prog_5_method_18_code 20 = .ok (.lload_n 1, 1) := by decide +kernel
theorem d_M_inOrder_21 : decode prog_5_method_18_code 21 = .ok (.aload_n 0, 1) := by decide +kernel
theorem d_M_inOrder_22 : decode prog_5_method_18_code 22 = .ok (.getfield 35, 3) := by decide +kernel
theorem d_M_inOrder_25 : decode prog_5_method_18_code 25 = .ok (.iload_n 3, 1) := by decide +kernel
theorem d_M_inOrder_26 : decode prog_5_method_18_code 26 = .ok (.laload, 1) := by decide +kernel
theorem d_M_inOrder_27 : decode prog_5_method_18_code 27 = .ok (.lmul, 1) := by decide +kernel
theorem d_M_inOrder_28 : decode prog_5_method_18_code 28 = .ok (.lstore_n 1, 1) := by decide +kernel
theorem d_M_inOrder_29 : decode prog_5_method_18_code 29 = .ok (.iinc 3 (-1), 3) := by decide +kernel
theorem d_M_inOrder_32 : decode prog_5_method_18_code 32 = .ok (.goto (-23), 3) := by decide +kernel
theorem d_M_inOrder_35 : decode prog_5_method_18_code 35 = .ok (.return_, 1) := by decide +kernel
theorem d_M_at_0 : decode prog_5_method_31_code 0 = .ok (.aload_n 0, 1) := by decide +kernel
theorem d_M_at_1 : decode prog_5_method_31_code 1 = .ok (.aload_n 0, 1) := by decide +kernel
theorem d_M_at_2 : decode prog_5_method_31_code 2 = .ok (.iload_n 1, 1) := by decide +kernel
theorem d_M_at_3 : decode prog_5_method_31_code 3 = .ok (.invokevirtual 55, 3) := by decide +kernel
theorem d_M_at_6 : decode prog_5_method_31_code 6 = .ok (.ifCond .eq 20, 3) := by decide +kernel
theorem d_M_at_9 : decode prog_5_method_31_code 9 = .ok (.iload_n 2, 1) := by decide +kernel
theorem d_M_at_10 : decode prog_5_method_31_code 10 = .ok (.ifCond .lt 16, 3) := by decide +kernel
theorem d_M_at_13 : decode prog_5_method_31_code 13 = .ok (.iload_n 2, 1) := by decide +kernel
theorem d_M_at_14 : decode prog_5_method_31_code 14 = .ok (.aload_n 0, 1) := by decide +kernel
theorem d_M_at_15 : decode prog_5_method_31_code 15 = .ok (.iload_n 1, 1) := by decide +kernel
theorem d_M_at_16 : decode prog_5_method_31_code 16 = .ok (.invokevirtual 117, 3) := by decide +kernel
theorem d_M_at_19 : decode prog_5_method_31_code 19 = .ok (.if_icmp .ge 7, 3) := by decide +kernel
theorem d_M_at_22 : decode prog_5_method_31_code 22 = .ok (.iconst 0, 1) := by decide +kernel
theorem d_M_at_23 : decode prog_5_method_31_code 23 = .ok (.goto 4, 3) := by decide +kernel
theorem d_M_at_26 : decode prog_5_method_31_code 26 = .ok (.iconst 1, 1) := by decide +kernel
theorem d_M_at_27 : decode prog_5_method_31_code 27 = .ok (.putfield 48, 3) := by decide +kernel
theorem d_M_at_30 : decode prog_5_method_31_code 30 = .ok (.aload_n 0, 1) := by decide +kernel
theorem d_M_at_31 : decode prog_5_method_31_code 31 = .ok (.getfield 48, 3) := by decide +kernel
theorem d_M_at_34 : decode prog_5_method_31_code 34 = .ok (.ifCond .le 7, 3) := by decide +kernel
theorem d_M_at_37 : decode prog_5_method_31_code 37 = .ok (.lconst 0, 1) := by decide +kernel
theorem d_M_at_38 : decode prog_5_method_31_code 38 = .ok (.goto 9, 3) := by decide +kernel
theorem d_M_at_41 : decode prog_5_method_31_code 41 = .ok (.aload_n 0, 1) := by decide +kernel
theorem d_M_at_42 : decode prog_5_method_31_code 42 = .ok (.iload_n 1, 1) := by decide +kernel
theorem d_M_at_43 : decode prog_5_method_31_code 43 = .ok (.iload_n 2, 1) := by decide +kernel
theorem d_M_at_44 : decode prog_5_method_31_code 44 = .ok (.invokevirtual 128, 3) := by decide +kernel
theorem d_M_at_47 : decode prog_5_method_31_code 47 = .ok (.lreturn, 1) := by decide +kernel
theorem d_M_put_0 : decode prog_5_method_32_code 0 = .ok (.aload_n 0, 1) := by decide +kernel
theorem d_M_put_1 : decode prog_5_method_32_code 1 = .ok (.iload_n 1, 1) := by decide +kernel
theorem d_M_put_2 : decode prog_5_method_32_code 2 = .ok (.invokevirtual 55, 3) := by decide +kernel
theorem d_M_put_5 : decode prog_5_method_32_code 5 = .ok (.ifCond .eq 20, 3) := by decide +kernel
theorem d_M_put_8 : decode prog_5_method_32_code 8 = .ok (.iload_n 2, 1) := by decide +kernel
theorem d_M_put_9 : decode prog_5_method_32_code 9 = .ok (.ifCond .lt 16, 3) := by decide +kernel
theorem d_M_put_12 : decode prog_5_method_32_code 12 = .ok (.iload_n 2, 1) := by decide +kernel
theorem d_M_put_13 : decode prog_5_method_32_code 13 = .ok (.aload_n 0, 1) := by decide +kernel
theorem d_M_put_14 : decode prog_5_method_32_code 14 = .ok (.iload_n 1, 1) := by decide +kernel
theorem d_M_put_15 : decode prog_5_method_32_code 15 = .ok (.invokevirtual 117, 3) := by decide +kernel
theorem d_M_put_18 : decode prog_5_method_32_code 18 = .ok (.if_icmp .ge 7, 3) := by decide +kernel
theorem d_M_put_21 : decode prog_5_method_32_code 21 = .ok (.iconst 1, 1) := by decide +kernel
theorem d_M_put_22 : decode prog_5_method_32_code 22 = .ok (.goto 4, 3) := by decide +kernel
theorem d_M_put_25 : decode prog_5_method_32_code 25 = .ok (.iconst 0, 1) := by decide +kernel
theorem d_M_put_26 : decode prog_5_method_32_code 26 = .ok (.istore 5, 2) := by decide +kernel
theorem d_M_put_28 : decode prog_5_method_32_code 28 = .ok (.aload_n 0, 1) := by decide +kernel
theorem d_M_put_29 : decode prog_5_method_32_code 29 = .ok (.iload 5, 2) := by decide +kernel
theorem d_M_put_31 : decode prog_5_method_32_code 31 = .ok (.iload 5, 2) := by decide +kernel
theorem d_M_put_33 : decode prog_5_method_32_code 33 = .ok (.ifCond .eq 15, 3) := by decide +kernel
theorem d_M_put_36 : decode prog_5_method_32_code 36 = .ok (.aload_n 0, 1) := by decide +kernel
theorem d_M_put_37 : decode prog_5_method_32_code 37 = .ok (.iload_n 1, 1) := by decide +kernel
theorem d_M_put_38 : decode prog_5_method_32_code 38 = .ok (.invokevirtual 135, 3) := by decide +kernel
theorem d_M_put_41 : decode prog_5_method_32_code 41 = .ok (.ifCond .ne 7, 3) := by decide +kernel
theorem d_M_put_44 : decode prog_5_method_32_code 44 = .ok (.iconst 1, 1) := by decide +kernel
theorem d_M_put_45 : decode prog_5_method_32_code 45 = .ok (.goto 4, 3) := by decide +kernel
theorem d_M_put_48 : decode prog_5_method_32_code 48 = .ok (.iconst 0, 1) := by decide +kernel
theorem d_M_put_49 : decode prog_5_method_32_code 49 = .ok (.invokevirtual 90, 3) := by decide +kernel
theorem d_M_put_52 : decode prog_5_method_32_code 52 = .ok (.ifCond .ne 5, 3) := by decide +kernel
theorem d_M_put_55 : decode prog_5_method_32_code 55 = .ok (.lconst 0, 1) := by decide +kernel
theorem d_M_put_56 : decode prog_5_method_32_code 56 = .ok (.lreturn, 1) := by decide +kernel
theorem d_M_put_57 : decode prog_5_method_32_code 57 = .ok (.aload_n 0, 1) := by decide +kernel
theorem d_M_put_58 : decode prog_5_method_32_code 58 = .ok (.iload_n 1, 1) := by decide +kernel
theorem d_M_put_59 : decode prog_5_method_32_code 59 = .ok (.iload_n 2, 1) := by decide +kernel
theorem d_M_put_60 : decode prog_5_method_32_code 60 = .ok (.invokevirtual 128, 3) := by decide +kernel
theorem d_M_put_63 : decode prog_5_method_32_code 63 = .ok (.lstore 6, 2) := by decide +kernel
theorem d_M_put_65 : decode prog_5_method_32_code 65 = .ok (.aload_n 0, 1) := by decide +kernel
theorem d_M_put_66 : decode prog_5_method_32_code 66 = .ok (.iload_n 1, 1) := by decide +kernel
theorem d_M_put_67 : decode prog_5_method_32_code 67 = .ok (.iload_n 2, 1) := by decide +kernel
theorem d_M_put_68 : decode prog_5_method_32_code 68 = .ok (.lload_n 3, 1) := by decide +kernel
theorem d_M_put_69 : decode prog_5_method_32_code 69 = .ok (.invokevirtual 138, 3) := by decide +kernel
theorem d_M_put_72 : decode prog_5_method_32_code 72 = .ok (.lload 6, 2) := by decide +kernel
theorem d_M_put_74 : decode prog_5_method_32_code 74 = .ok (.lreturn, 1) := by decide +kernel
theorem d_M_isFixed_0 : decode prog_5_method_14_code 0 = .ok (.iconst 0, 1) := by decide +kernel
theorem d_M_isFixed_1 : decode prog_5_method_14_code 1 = .ok (.istore_n 2, 1) := by decide +kernel
theorem d_M_isFixed_2 : decode prog_5_method_14_code 2 = .ok (.iconst 0, 1) := by decide +kernel
theorem d_M_isFixed_3 : decode prog_5_method_14_code 3 = .ok (.istore_n 3, 1) := by decide +kernel
theorem d_M_isFixed_4 : decode prog_5_method_14_code 4 = .ok (.iload_n 3, 1) := by decide +kernel
theorem d_M_isFixed_5 : decode prog_5_method_14_code 5 = .ok (.aload_n 0, 1) := by decide +kernel
theorem d_M_isFixed_6 : decode prog_5_method_14_code 6 = .ok (.getfield 26, 3) := by decide +kernel
theorem d_M_isFixed_9 : decode prog_5_method_14_code 9 = .ok (.iload_n 1, 1) := by decide +kernel
theorem d_M_isFixed_10 : decode prog_5_method_14_code 10 = .ok (.iaload, 1) := by decide +kernel
theorem d_M_isFixed_11 : decode prog_5_method_14_code 11 = .ok (.if_icmp .ge 46, 3) := by decide +kernel
theorem d_M_isFixed_14 : decode prog_5_method_14_code 14 = .ok (.iload_n 2, 1) := by decide +kernel
theorem d_M_isFixed_15 : decode prog_5_method_14_code 15 = .ok (.ifCond .ne 30, 3) := by decide +kernel
theorem d_M_isFixed_18 : decode prog_5_method_14_code 18 = .ok (.aload_n 0, 1) := by decide +kernel
theorem d_M_isFixed_19 : decode prog_5_method_14_code 19 = .ok (.getfield 29, 3) := by decide +kernel
theorem d_M_isFixed_22 : decode prog_5_method_14_code 22 = .ok (.iconst 4, 1) := by decide +kernel
theorem d_M_isFixed_23 : decode prog_5_method_14_code 23 = .ok (.iload_n 1, 1) := by decide +kernel
theorem d_M_isFixed_24 : decode prog_5_method_14_code 24 = .ok (.imul, 1) := by decide +kernel
theorem d_M_isFixed_25 : decode prog_5_method_14_code 25 = .ok (.iload_n 3, 1) := by decide +kernel
theorem d_M_isFixed_26 : decode prog_5_method_14_code 26 = .ok (.iadd, 1) := by decide +kernel
theorem d_M_isFixed_27 : decode prog_5_method_14_code 27 = .ok (.iaload, 1) := by decide +kernel
theorem d_M_isFixed_28 : decode prog_5_method_14_code 28 = .ok (.iconst 1, 1) := by decide +kernel
theorem d_M_isFixed_29 : decode prog_5_method_14_code 29 = .ok (.if_icmp .le 20, 3) := by decide +kernel
theorem d_M_isFixed_32 : decode prog_5_method_14_code 32 = .ok (.aload_n 0, 1) := by decide +kernel
theorem d_M_isFixed_33 : decode prog_5_method_14_code 33 = .ok (.getfield 32, 3) := by decide +kernel
theorem d_M_isFixed_36 : decode prog_5_method_14_code 36 = .ok (.iconst 4, 1) := by decide +kernel
theorem d_M_isFixed_37 : decode prog_5_method_14_code 37 = .ok (.iload_n 1, 1) := by decide +kernel
theorem d_M_isFixed_38 : decode prog_5_method_14_code 38 = .ok (.imul, 1) := by decide +kernel
theorem d_M_isFixed_39 : decode prog_5_method_14_code 39 = .ok (.iload_n 3, 1) := by decide +kernel
theorem d_M_isFixed_40 : decode prog_5_method_14_code 40 = .ok (.iadd, 1) := by decide +kernel
theorem d_M_isFixed_41 : decode prog_5_method_14_code 41 = .ok (.iaload, 1) := by decide +kernel
theorem d_M_isFixed_42 : decode prog_5_method_14_code 42 = .ok (.ifCond .ne 7, 3) := by decide +kernel
theorem d_M_isFixed_45 : decode prog_5_method_14_code 45 = .ok (.iconst 1, 1) := by decide +kernel
theorem d_M_isFixed_46 : decode prog_5_method_14_code 46 = .ok (.goto 4, 3) := by decide +kernel
theorem d_M_isFixed_49 : decode prog_5_method_14_code 49 = .ok (.iconst 0, 1) := by decide +kernel
theorem d_M_isFixed_50 : decode prog_5_method_14_code 50 = .ok (.istore_n 2, 1) := by decide +kernel
theorem d_M_isFixed_51 : decode prog_5_method_14_code 51 = .ok (.iinc 3 1, 3) := by decide +kernel
theorem d_M_isFixed_54 : decode prog_5_method_14_code 54 = .ok (.goto (-50), 3) := by decide +kernel
theorem d_M_isFixed_57 : decode prog_5_method_14_code 57 = .ok (.iload_n 2, 1) := by decide +kernel
theorem d_M_isFixed_58 : decode prog_5_method_14_code 58 = .ok (.ireturn, 1) := by decide +kernel
theorem d_M_setItem_0 : decode prog_5_method_13_code 0 = .ok (.aload_n 0, 1) := by decide +kernel
theorem d_M_setItem_1 : decode prog_5_method_13_code 1 = .ok (.getfield 16, 3) := by decide +kernel
theorem d_M_setItem_4 : decode prog_5_method_13_code 4 = .ok (.sipush 300, 3) := by decide +kernel
theorem d_M_setItem_7 : decode prog_5_method_13_code 7 = .ok (.aload_n 0, 1) := by decide +kernel
theorem d_M_setItem_8 : decode prog_5_method_13_code 8 = .ok (.getfield 20, 3) := by decide +kernel
theorem d_M_setItem_11 : decode prog_5_method_13_code 11 = .ok (.iload_n 1, 1) := by decide +kernel
theorem d_M_setItem_12 : decode prog_5_method_13_code 12 = .ok (.iaload, 1) := by decide +kernel
theorem d_M_setItem_13 : decode prog_5_method_13_code 13 = .ok (.imul, 1) := by decide +kernel
theorem d_M_setItem_14 : decode prog_5_method_13_code 14 = .ok (.aload_n 0, 1) := by decide +kernel
theorem d_M_setItem_15 : decode prog_5_method_13_code 15 = .ok (.iload_n 1, 1) := by decide +kernel
theorem d_M_setItem_16 : decode prog_5_method_13_code 16 = .ok (.iload_n 2, 1) := by decide +kernel
theorem d_M_setItem_17 : decode prog_5_method_13_code 17 = .ok (.invokevirtual 70, 3) := by decide +kernel
theorem d_M_setItem_20 : decode prog_5_method_13_code 20 = .ok (.iadd, 1) := by decide +kernel
theorem d_M_setItem_21 : decode prog_5_method_13_code 21 = .ok (.aload_n 0, 1) := by decide +kernel
theorem d_M_setItem_22 : decode prog_5_method_13_code 22 = .ok (.getfield 7, 3) := by decide +kernel
theorem d_M_setItem_25 : decode prog_5_method_13_code 25 = .ok (.aload_n 0, 1) := by decide +kernel
theorem d_M_setItem_26 : decode prog_5_method_13_code 26 = .ok (.getfield 20, 3) := by decide +kernel
theorem d_M_setItem_29 : decode prog_5_method_13_code 29 = .ok (.iload_n 1, 1) := by decide +kernel
theorem d_M_setItem_30 : decode prog_5_method_13_code 30 = .ok (.iaload, 1) := by decide +kernel
theorem d_M_setItem_31 : decode prog_5_method_13_code 31 = .ok (.iaload, 1) := by decide +kernel
theorem d_M_setItem_32 : decode prog_5_method_13_code 32 = .ok (.lload_n 3, 1) := by decide +kernel
theorem d_M_setItem_33 : decode prog_5_method_13_code 33 = .ok (.invokestatic 74, 3) := by decide +kernel
theorem d_M_setItem_36 : decode prog_5_method_13_code 36 = .ok (.lastore, 1) := by decide +kernel
theorem d_M_setItem_37 : decode prog_5_method_13_code 37 = .ok (.return_, 1) := by decide +kernel
theorem d_M_copy_0 : decode prog_5_method_36_code 0 = .ok (.aload_n 0, 1) := by decide +kernel
theorem d_M_copy_1 : decode prog_5_method_36_code 1 = .ok (.iload_n 1, 1) := by decide +kernel
theorem d_M_copy_2 : decode prog_5_method_36_code 2 = .ok (.invokevirtual 55, 3) := by decide +kernel
theorem d_M_copy_5 : decode prog_5_method_36_code 5 = .ok (.ifCond .eq 15, 3) := by decide +kernel
theorem d_M_copy_8 : decode prog_5_method_36_code 8 = .ok (.aload_n 0, 1) := by decide +kernel
theorem d_M_copy_9 : decode prog_5_method_36_code 9 = .ok (.iload_n 2, 1) := by decide +kernel
theorem d_M_copy_10 : decode prog_5_method_36_code 10 = .ok (.invokevirtual 55, 3) := by decide +kernel
theorem d_M_copy_13 : decode prog_5_method_36_code 13 = .ok (.ifCond .eq 7, 3) := by decide +kernel
theorem d_M_copy_16 : decode prog_5_method_36_code 16 = .ok (.iconst 1, 1) := by decide +kernel
theorem d_M_copy_17 : decode prog_5_method_36_code 17 = .ok (.goto 4, 3) := by decide +kernel
theorem d_M_copy_20 : decode prog_5_method_36_code 20 = .ok (.iconst 0, 1) := by decide +kernel
theorem d_M_copy_21 : decode prog_5_method_36_code 21 = .ok (.istore_n 3, 1) := by decide +kernel
theorem d_M_copy_22 : decode prog_5_method_36_code 22 = .ok (.aload_n 0, 1) := by decide +kernel
theorem d_M_copy_23 : decode prog_5_method_36_code 23 = .ok (.iload_n 3, 1) := by decide +kernel
theorem d_M_copy_24 : decode prog_5_method_36_code 24 = .ok (.iload_n 3, 1) := by decide +kernel
theorem d_M_copy_25 : decode prog_5_method_36_code 25 = .ok (.ifCond .eq 16, 3) := by decide +kernel
theorem d_M_copy_28 : decode prog_5_method_36_code 28 = .ok (.aload_n 0, 1) := by decide +kernel
theorem d_M_copy_29 : decode prog_5_method_36_code 29 = .ok (.iload_n 1, 1) := by decide +kernel
theorem d_M_copy_30 : decode prog_5_method_36_code 30 = .ok (.iload_n 2, 1) := by decide +kernel
theorem d_M_copy_31 : decode prog_5_method_36_code 31 = .ok (.invokevirtual 142, 3) := by decide +kernel
theorem d_M_copy_34 : decode prog_5_method_36_code 34 = .ok (.ifCond .eq 7, 3) := by decide +kernel
theorem d_M_copy_37 : decode prog_5_method_36_code 37 = .ok (.iconst 1, 1) := by decide +kernel
theorem d_M_copy_38 : decode prog_5_method_36_code 38 = .ok (.goto 4, 3) := by decide +kernel
theorem d_M_copy_41 : decode prog_5_method_36_code 41 = .ok (.iconst 0, 1) := by decide +kernel
theorem d_M_copy_42 : decode prog_5_method_36_code 42 = .ok (.iload_n 3, 1) := by decide +kernel
theorem d_M_copy_43 : decode prog_5_method_36_code 43 = .ok (.ifCond .eq 15, 3) := by decide +kernel
theorem d_M_copy_46 : decode prog_5_method_36_code 46 = .ok (.aload_n 0, 1) := by decide +kernel
theorem d_M_copy_47 : decode prog_5_method_36_code 47 = .ok (.iload_n 2, 1) := by decide +kernel
theorem d_M_copy_48 : decode prog_5_method_36_code 48 = .ok (.invokevirtual 135, 3) := by decide +kernel
theorem d_M_copy_51 : decode prog_5_method_36_code 51 = .ok (.ifCond .ne 7, 3) := by decide +kernel
theorem d_M_copy_54 : decode prog_5_method_36_code 54 = .ok (.iconst 1, 1) := by decide +kernel
theorem d_M_copy_55 : decode prog_5_method_36_code 55 = .ok (.goto 4, 3) := by decide +kernel
theorem d_M_copy_58 : decode prog_5_method_36_code 58 = .ok (.iconst 0, 1) := by decide +kernel
theorem d_M_copy_59 : decode prog_5_method_36_code 59 = .ok (.invokevirtual 109, 3) := by decide +kernel
theorem d_M_copy_62 : decode prog_5_method_36_code 62 = .ok (.ifCond .ne 5, 3) := by decide +kernel
theorem d_M_copy_65 : decode prog_5_method_36_code 65 = .ok (.iconst 0, 1) := by decide +kernel
theorem d_M_copy_66 : decode prog_5_method_36_code 66 = .ok (.ireturn, 1) := by decide +kernel
theorem d_M_copy_67 : decode prog_5_method_36_code 67 = .ok (.aload_n 0, 1) := by decide +kernel
theorem d_M_copy_68 : decode prog_5_method_36_code 68 = .ok (.iload_n 2, 1) := by decide +kernel
theorem d_M_copy_69 : decode prog_5_method_36_code 69 = .ok (.invokevirtual 117, 3) := by decide +kernel
theorem d_M_copy_72 : decode prog_5_method_36_code 72 = .ok (.istore 4, 2) := by decide +kernel
theorem d_M_copy_74 : decode prog_5_method_36_code 74 = .ok (.iconst 0, 1) := by decide +kernel
theorem d_M_copy_75 : decode prog_5_method_36_code 75 = .ok (.istore 5, 2) := by decide +kernel
theorem d_M_copy_77 : decode prog_5_method_36_code 77 = .ok (.iload 5, 2) := by decide +kernel
theorem d_M_copy_79 : decode prog_5_method_36_code 79 = .ok (.iload 4, 2) := by decide +kernel
theorem d_M_copy_81 : decode prog_5_method_36_code 81 = .ok (.if_icmp .ge 24, 3) := by decide +kernel
theorem d_M_copy_84 : decode prog_5_method_36_code 84 = .ok (.aload_n 0, 1) := by decide +kernel
theorem d_M_copy_85 : decode prog_5_method_36_code 85 = .ok (.getfield 41, 3) := by decide +kernel
theorem d_M_copy_88 : decode prog_5_method_36_code 88 = .ok (.iload 5, 2) := by decide +kernel
theorem d_M_copy_90 : decode prog_5_method_36_code 90 = .ok (.aload_n 0, 1) := by decide +kernel
theorem d_M_copy_91 : decode prog_5_method_36_code 91 = .ok (.iload_n 1, 1) := by decide +kernel
theorem d_M_copy_92 : decode prog_5_method_36_code 92 = .ok (.iload_n 2, 1) := by decide +kernel
theorem d_M_copy_93 : decode prog_5_method_36_code 93 = .ok (.iload 5, 2) := by decide +kernel
theorem d_M_copy_95 : decode prog_5_method_36_code 95 = .ok (.invokevirtual 145, 3) := by decide +kernel
theorem d_M_copy_98 : decode prog_5_method_36_code 98 = .ok (.lastore, 1) := by decide +kernel
theorem d_M_copy_99 : decode prog_5_method_36_code 99 = .ok (.iinc 5 1, 3) := by decide +kernel
theorem d_M_copy_102 : decode prog_5_method_36_code 102 = .ok (.goto (-25), 3) := by decide +kernel
theorem d_M_copy_105 : decode prog_5_method_36_code 105 = .ok (.aload_n 0, 1) := by decide +kernel
theorem d_M_copy_106 : decode prog_5_method_36_code 106 = .ok (.iload_n 2, 1) := by decide +kernel
theorem d_M_copy_107 : decode prog_5_method_36_code 107 = .ok (.invokevirtual 149, 3) := by decide +kernel
theorem d_M_copy_110 : decode prog_5_method_36_code 110 = .ok (.ireturn, 1) := by decide +kernel
theorem d_M_goesTo_0 : decode prog_5_method_33_code 0 = .ok (.aload_n 0, 1) := by decide +kernel
theorem d_M_goesTo_1 : decode prog_5_method_33_code 1 = .ok (.getfield 26, 3) := by decide +kernel
theorem d_M_goesTo_4 : decode prog_5_method_33_code 4 = .ok (.iload_n 1, 1) := by decide +kernel
theorem d_M_goesTo_5 : decode prog_5_method_33_code 5 = .ok (.iaload, 1) := by decide +kernel
theorem d_M_goesTo_6 : decode prog_5_method_33_code 6 = .ok (.aload_n 0, 1) := by decide +kernel
theorem d_M_goesTo_7 : decode prog_5_method_33_code 7 = .ok (.getfield 26, 3) := by decide +kernel
theorem d_M_goesTo_10 : decode prog_5_method_33_code 10 = .ok (.iload_n 2, 1) := by decide +kernel
theorem d_M_goesTo_11 : decode prog_5_method_33_code 11 = .ok (.iaload, 1) := by decide +kernel
theorem d_M_goesTo_12 : decode prog_5_method_33_code 12 = .ok (.if_icmp .gt 7, 3) := by decide +kernel
theorem d_M_goesTo_15 : decode prog_5_method_33_code 15 = .ok (.iconst 1, 1) := by decide +kernel
theorem d_M_goesTo_16 : decode prog_5_method_33_code 16 = .ok (.goto 4, 3) := by decide +kernel
theorem d_M_goesTo_19 : decode prog_5_method_33_code 19 = .ok (.iconst 0, 1) := by decide +kernel
theorem d_M_goesTo_20 : decode prog_5_method_33_code 20 = .ok (.istore_n 3, 1) := by decide +kernel
theorem d_M_goesTo_21 : decode prog_5_method_33_code 21 = .ok (.iconst 1, 1) := by decide +kernel
theorem d_M_goesTo_22 : decode prog_5_method_33_code 22 = .ok (.istore 4, 2) := by decide +kernel
theorem d_M_goesTo_24 : decode prog_5_method_33_code 24 = .ok (.iload 4, 2) := by decide +kernel
theorem d_M_goesTo_26 : decode prog_5_method_33_code 26 = .ok (.aload_n 0, 1) := by decide +kernel
theorem d_M_goesTo_27 : decode prog_5_method_33_code 27 = .ok (.getfield 26, 3) := by decide +kernel
theorem d_M_goesTo_30 : decode prog_5_method_33_code 30 = .ok (.iload_n 1, 1) := by decide +kernel
theorem d_M_goesTo_31 : decode prog_5_method_33_code 31 = .ok (.iaload, 1) := by decide +kernel
theorem d_M_goesTo_32 : decode prog_5_method_33_code 32 = .ok (.if_icmp .gt 68, 3) := by decide +kernel
theorem d_M_goesTo_35 : decode prog_5_method_33_code 35 = .ok (.iload_n 3, 1) := by decide +kernel
theorem d_M_goesTo_36 : decode prog_5_method_33_code 36 = .ok (.ifCond .eq 64, 3) := by decide +kernel
theorem d_M_goesTo_39 : decode prog_5_method_33_code 39 = .ok (.aload_n 0, 1) := by decide +kernel
theorem d_M_goesTo_40 : decode prog_5_method_33_code 40 = .ok (.getfield 29, 3) := by decide +kernel
theorem d_M_goesTo_43 : decode prog_5_method_33_code 43 = .ok (.iconst 4, 1) := by decide +kernel
theorem d_M_goesTo_44 : decode prog_5_method_33_code 44 = .ok (.iload_n 1, 1) := by decide +kernel
theorem d_M_goesTo_45 : decode prog_5_method_33_code 45 = .ok (.imul, 1) := by decide +kernel
theorem d_M_goesTo_46 : decode prog_5_method_33_code 46 = .ok (.aload_n 0, 1) := by decide +kernel
theorem d_M_goesTo_47 : decode prog_5_method_33_code 47 = .ok (.getfield 26, 3) := by decide +kernel
theorem d_M_goesTo_50 : decode prog_5_method_33_code 50 = .ok (.iload_n 1, 1) := by decide +kernel
theorem d_M_goesTo_51 : decode prog_5_method_33_code 51 = .ok (.iaload, 1) := by decide +kernel
theorem d_M_goesTo_52 : decode prog_5_method_33_code 52 = .ok (.iadd, 1) := by decide +kernel
theorem d_M_goesTo_53 : decode prog_5_method_33_code 53 = .ok (.iload 4, 2) := by decide +kernel
theorem d_M_goesTo_55 : decode prog_5_method_33_code 55 = .ok (.isub, 1) := by decide +kernel
theorem d_M_goesTo_56 : decode prog_5_method_33_code 56 = .ok (.iaload, 1) := by decide +kernel
theorem d_M_goesTo_57 : decode prog_5_method_33_code 57 = .ok (.istore 5, 2) := by decide +kernel
theorem d_M_goesTo_59 : decode prog_5_method_33_code 59 = .ok (.iload 5, 2) := by decide +kernel
theorem d_M_goesTo_61 : decode prog_5_method_33_code 61 = .ok (.iconst 1, 1) := by decide +kernel
theorem d_M_goesTo_62 : decode prog_5_method_33_code 62 = .ok (.if_icmp .eq 26, 3) := by decide +kernel
theorem d_M_goesTo_65 : decode prog_5_method_33_code 65 = .ok (.iload 5, 2) := by decide +kernel
theorem d_M_goesTo_67 : decode prog_5_method_33_code 67 = .ok (.aload_n 0, 1) := by decide +kernel
theorem d_M_goesTo_68 : decode prog_5_method_33_code 68 = .ok (.getfield 29, 3) := by decide +kernel
theorem d_M_goesTo_71 : decode prog_5_method_33_code 71 = .ok (.iconst 4, 1) := by decide +kernel
theorem d_M_goesTo_72 : decode prog_5_method_33_code 72 = .ok (.iload_n 2, 1) := by decide +kernel
theorem d_M_goesTo_73 : decode prog_5_method_33_code 73 = .ok (.imul, 1) := by decide +kernel
theorem d_M_goesTo_74 : decode prog_5_method_33_code 74 = .ok (.aload_n 0, 1) := by decide +kernel
theorem d_M_goesTo_75 : decode prog_5_method_33_code 75 = .ok (.getfield 26, 3) := by decide +kernel
theorem d_M_goesTo_78 : decode prog_5_method_33_code 78 = .ok (.iload_n 2, 1) := by decide +kernel
theorem d_M_goesTo_79 : decode prog_5_method_33_code 79 = .ok (.iaload, 1) := by decide +kernel
theorem d_M_goesTo_80 : decode prog_5_method_33_code 80 = .ok (.iadd, 1) := by decide +kernel
theorem d_M_goesTo_81 : decode prog_5_method_33_code 81 = .ok (.iload 4, 2) := by decide +kernel
theorem d_M_goesTo_83 : decode prog_5_method_33_code 83 = .ok (.isub, 1) := by decide +kernel
theorem d_M_goesTo_84 : decode prog_5_method_33_code 84 = .ok (.iaload, 1) := by decide +kernel
theorem d_M_goesTo_85 : decode prog_5_method_33_code 85 = .ok (.if_icmp .ne 7, 3) := by decide +kernel
theorem d_M_goesTo_88 : decode prog_5_method_33_code 88 = .ok (.iconst 1, 1) := by decide +kernel
theorem d_M_goesTo_89 : decode prog_5_method_33_code 89 = .ok (.goto 4, 3) := by decide +kernel
theorem d_M_goesTo_92 : decode prog_5_method_33_code 92 = .ok (.iconst 0, 1) := by decide +kernel
theorem d_M_goesTo_93 : decode prog_5_method_33_code 93 = .ok (.istore_n 3, 1) := by decide +kernel
theorem d_M_goesTo_94 : decode prog_5_method_33_code 94 = .ok (.iinc 4 1, 3) := by decide +kernel
theorem d_M_goesTo_97 : decode prog_5_method_33_code 97 = .ok (.goto (-73), 3) := by decide +kernel
theorem d_M_goesTo_100 : decode prog_5_method_33_code 100 = .ok (.iload_n 3, 1) := by decide +kernel
theorem d_M_goesTo_101 : decode prog_5_method_33_code 101 = .ok (.ireturn, 1) := by decide +kernel
theorem d_M_gone_0 : decode prog_5_method_34_code 0 = .ok (.iconst 0, 1) := by decide +kernel
theorem d_M_gone_1 : decode prog_5_method_34_code 1 = .ok (.istore 4, 2) := by decide +kernel
theorem d_M_gone_3 : decode prog_5_method_34_code 3 = .ok (.aload_n 0, 1) := by decide +kernel
theorem d_M_gone_4 : decode prog_5_method_34_code 4 = .ok (.getfield 26, 3) := by decide +kernel
theorem d_M_gone_7 : decode prog_5_method_34_code 7 = .ok (.iload_n 2, 1) := by decide +kernel
theorem d_M_gone_8 : decode prog_5_method_34_code 8 = .ok (.iaload, 1) := by decide +kernel
theorem d_M_gone_9 : decode prog_5_method_34_code 9 = .ok (.aload_n 0, 1) := by decide +kernel
theorem d_M_gone_10 : decode prog_5_method_34_code 10 = .ok (.getfield 26, 3) := by decide +kernel
theorem d_M_gone_13 : decode prog_5_method_34_code 13 = .ok (.iload_n 1, 1) := by decide +kernel
theorem d_M_gone_14 : decode prog_5_method_34_code 14 = .ok (.iaload, 1) := by decide +kernel
theorem d_M_gone_15 : decode prog_5_method_34_code 15 = .ok (.isub, 1) := by decide +kernel
theorem d_M_gone_16 : decode prog_5_method_34_code 16 = .ok (.istore 5, 2) := by decide +kernel
theorem d_M_gone_18 : decode prog_5_method_34_code 18 = .ok (.iconst 0, 1) := by decide +kernel
theorem d_M_gone_19 : decode prog_5_method_34_code 19 = .ok (.istore 6, 2) := by decide +kernel
theorem d_M_gone_21 : decode prog_5_method_34_code 21 = .ok (.iload 6, 2) := by decide +kernel
theorem d_M_gone_23 : decode prog_5_method_34_code 23 = .ok (.aload_n 0, 1) := by decide +kernel
theorem d_M_gone_24 : decode prog_5_method_34_code 24 = .ok (.getfield 26, 3) := by decide +kernel
theorem d_M_gone_27 : decode prog_5_method_34_code 27 = .ok (.iload_n 1, 1) := by decide +kernel
theorem d_M_gone_28 : decode prog_5_method_34_code 28 = .ok (.iaload, 1) := by decide +kernel
theorem d_M_gone_29 : decode prog_5_method_34_code 29 = .ok (.if_icmp .ge 51, 3) := by decide +kernel
theorem d_M_gone_32 : decode prog_5_method_34_code 32 = .ok (.aload_n 0, 1) := by decide +kernel
theorem d_M_gone_33 : decode prog_5_method_34_code 33 = .ok (.getfield 29, 3) := by decide +kernel
theorem d_M_gone_36 : decode prog_5_method_34_code 36 = .ok (.iconst 4, 1) := by decide +kernel
theorem d_M_gone_37 : decode prog_5_method_34_code 37 = .ok (.iload_n 1, 1) := by decide +kernel
theorem d_M_gone_38 : decode prog_5_method_34_code 38 = .ok (.imul, 1) := by decide +kernel
theorem d_M_gone_39 : decode prog_5_method_34_code 39 = .ok (.iload 6, 2) := by decide +kernel
theorem d_M_gone_41 : decode prog_5_method_34_code 41 = .ok (.iadd, 1) := by decide +kernel
theorem d_M_gone_42 : decode prog_5_method_34_code 42 = .ok (.iaload, 1) := by decide +kernel
theorem d_M_gone_43 : decode prog_5_method_34_code 43 = .ok (.istore 7, 2) := by decide +kernel
theorem d_M_gone_45 : decode prog_5_method_34_code 45 = .ok (.iload 4, 2) := by decide +kernel
theorem d_M_gone_47 : decode prog_5_method_34_code 47 = .ok (.iload 7, 2) := by decide +kernel
theorem d_M_gone_49 : decode prog_5_method_34_code 49 = .ok (.imul, 1) := by decide +kernel
theorem d_M_gone_50 : decode prog_5_method_34_code 50 = .ok (.iload 7, 2) := by decide +kernel
theorem d_M_gone_52 : decode prog_5_method_34_code 52 = .ok (.iconst 1, 1) := by decide +kernel
theorem d_M_gone_53 : decode prog_5_method_34_code 53 = .ok (.if_icmp .ne 7, 3) := by decide +kernel
theorem d_M_gone_56 : decode prog_5_method_34_code 56 = .ok (.iconst 0, 1) := by decide +kernel
theorem d_M_gone_57 : decode prog_5_method_34_code 57 = .ok (.goto 14, 3) := by decide +kernel
theorem d_M_gone_60 : decode prog_5_method_34_code 60 = .ok (.aload_n 0, 1) := by decide +kernel
theorem d_M_gone_61 : decode prog_5_method_34_code 61 = .ok (.iload_n 2, 1) := by decide +kernel
theorem d_M_gone_62 : decode prog_5_method_34_code 62 = .ok (.iload 5, 2) := by decide +kernel
theorem d_M_gone_64 : decode prog_5_method_34_code 64 = .ok (.iload 6, 2) := by decide +kernel
theorem d_M_gone_66 : decode prog_5_method_34_code 66 = .ok (.iadd, 1) := by decide +kernel
theorem d_M_gone_67 : decode prog_5_method_34_code 67 = .ok (.iload_n 3, 1) := by decide +kernel
theorem d_M_gone_68 : decode prog_5_method_34_code 68 = .ok (.invokevirtual 66, 3) := by decide +kernel
theorem d_M_gone_71 : decode prog_5_method_34_code 71 = .ok (.iadd, 1) := by decide +kernel
theorem d_M_gone_72 : decode prog_5_method_34_code 72 = .ok (.istore 4, 2) := by decide +kernel
theorem d_M_gone_74 : decode prog_5_method_34_code 74 = .ok (.iinc 6 1, 3) := by decide +kernel
theorem d_M_gone_77 : decode prog_5_method_34_code 77 = .ok (.goto (-56), 3) := by decide +kernel
theorem d_M_gone_80 : decode prog_5_method_34_code 80 = .ok (.aload_n 0, 1) := by decide +kernel
theorem d_M_gone_81 : decode prog_5_method_34_code 81 = .ok (.iload_n 1, 1) := by decide +kernel
theorem d_M_gone_82 : decode prog_5_method_34_code 82 = .ok (.iload 4, 2) := by decide +kernel
theorem d_M_gone_84 : decode prog_5_method_34_code 84 = .ok (.invokevirtual 128, 3) := by decide +kernel
theorem d_M_gone_87 : decode prog_5_method_34_code 87 = .ok (.lreturn, 1) := by decide +kernel
theorem d_M_putAll_0 : decode prog_5_method_35_code 0 = .ok (.iconst 0, 1) := by decide +kernel
theorem d_M_putAll_1 : decode prog_5_method_35_code 1 = .ok (.istore_n 2, 1) := by decide +kernel
theorem d_M_putAll_2 : decode prog_5_method_35_code 2 = .ok (.aload_n 0, 1) := by decide +kernel
theorem d_M_putAll_3 : decode prog_5_method_35_code 3 = .ok (.iload_n 1, 1) := by decide +kernel
theorem d_M_putAll_4 : decode prog_5_method_35_code 4 = .ok (.invokevirtual 117, 3) := by decide +kernel
theorem d_M_putAll_7 : decode prog_5_method_35_code 7 = .ok (.istore_n 3, 1) := by decide +kernel
theorem d_M_putAll_8 : decode prog_5_method_35_code 8 = .ok (.iconst 0, 1) := by decide +kernel
theorem d_M_putAll_9 : decode prog_5_method_35_code 9 = .ok (.istore 4, 2) := by decide +kernel
theorem d_M_putAll_11 : decode prog_5_method_35_code 11 = .ok (.iload 4, 2) := by decide +kernel
theorem d_M_putAll_13 : decode prog_5_method_35_code 13 = .ok (.iload_n 3, 1) := by decide +kernel
theorem d_M_putAll_14 : decode prog_5_method_35_code 14 = .ok (.if_icmp .ge 53, 3) := by decide +kernel
theorem d_M_putAll_17 : decode prog_5_method_35_code 17 = .ok (.aload_n 0, 1) := by decide +kernel
theorem d_M_putAll_18 : decode prog_5_method_35_code 18 = .ok (.iload_n 1, 1) := by decide +kernel
theorem d_M_putAll_19 : decode prog_5_method_35_code 19 = .ok (.iload 4, 2) := by decide +kernel
theorem d_M_putAll_21 : decode prog_5_method_35_code 21 = .ok (.invokevirtual 128, 3) := by decide +kernel
theorem d_M_putAll_24 : decode prog_5_method_35_code 24 = .ok (.lstore 5, 2) := by decide +kernel
theorem d_M_putAll_26 : decode prog_5_method_35_code 26 = .ok (.aload_n 0, 1) := by decide +kernel
theorem d_M_putAll_27 : decode prog_5_method_35_code 27 = .ok (.iload_n 1, 1) := by decide +kernel
theorem d_M_putAll_28 : decode prog_5_method_35_code 28 = .ok (.iload 4, 2) := by decide +kernel
theorem d_M_putAll_30 : decode prog_5_method_35_code 30 = .ok (.aload_n 0, 1) := by decide +kernel
theorem d_M_putAll_31 : decode prog_5_method_35_code 31 = .ok (.getfield 41, 3) := by decide +kernel
theorem d_M_putAll_34 : decode prog_5_method_35_code 34 = .ok (.iload 4, 2) := by decide +kernel
theorem d_M_putAll_36 : decode prog_5_method_35_code 36 = .ok (.laload, 1) := by decide +kernel
theorem d_M_putAll_37 : decode prog_5_method_35_code 37 = .ok (.invokevirtual 138, 3) := by decide +kernel
theorem d_M_putAll_40 : decode prog_5_method_35_code 40 = .ok (.iload_n 2, 1) := by decide +kernel
theorem d_M_putAll_41 : decode prog_5_method_35_code 41 = .ok (.aload_n 0, 1) := by decide +kernel
theorem d_M_putAll_42 : decode prog_5_method_35_code 42 = .ok (.iload_n 1, 1) := by decide +kernel
theorem d_M_putAll_43 : decode prog_5_method_35_code 43 = .ok (.iload 4, 2) := by decide +kernel
theorem d_M_putAll_45 : decode prog_5_method_35_code 45 = .ok (.invokevirtual 128, 3) := by decide +kernel
theorem d_M_putAll_48 : decode prog_5_method_35_code 48 = .ok (.lload 5, 2) := by decide +kernel
theorem d_M_putAll_50 : decode prog_5_method_35_code 50 = .ok (.lcmp, 1) := by decide +kernel
theorem d_M_putAll_51 : decode prog_5_method_35_code 51 = .ok (.ifCond .ne 7, 3) := by decide +kernel
theorem d_M_putAll_54 : decode prog_5_method_35_code 54 = .ok (.iconst 0, 1) := by decide +kernel
theorem d_M_putAll_55 : decode prog_5_method_35_code 55 = .ok (.goto 4, 3) := by decide +kernel
theorem d_M_putAll_58 : decode prog_5_method_35_code 58 = .ok (.iconst 1, 1) := by decide +kernel
theorem d_M_putAll_59 : decode prog_5_method_35_code 59 = .ok (.iadd, 1) := by decide +kernel
theorem d_M_putAll_60 : decode prog_5_method_35_code 60 = .ok (.istore_n 2, 1) := by decide +kernel
theorem d_M_putAll_61 : decode prog_5_method_35_code 61 = .ok (.iinc 4 1, 3) := by decide +kernel
theorem d_M_putAll_64 : decode prog_5_method_35_code 64 = .ok (.goto (-53), 3) := by decide +kernel
theorem d_M_putAll_67 : decode prog_5_method_35_code 67 = .ok (.iload_n 2, 1) := by decide +kernel
theorem d_M_putAll_68 : decode prog_5_method_35_code 68 = .ok (.ireturn, 1) := by decide +kernel
theorem d_M_act_0 : decode prog_5_method_38_code 0 = .ok (.aload_n 0, 1) := by decide +kernel
theorem d_M_act_1 : decode prog_5_method_38_code 1 = .ok (.iload_n 2, 1) := by decide +kernel
theorem d_M_act_2 : decode prog_5_method_38_code 2 = .ok (.invokevirtual 55, 3) := by decide +kernel
theorem d_M_act_5 : decode prog_5_method_38_code 5 = .ok (.ifCond .eq 24, 3) := by decide +kernel
theorem d_M_act_8 : decode prog_5_method_38_code 8 = .ok (.aload_n 0, 1) := by decide +kernel
theorem d_M_act_9 : decode prog_5_method_38_code 9 = .ok (.iload_n 3, 1) := by decide +kernel
theorem d_M_act_10 : decode prog_5_method_38_code 10 = .ok (.invokevirtual 55, 3) := by decide +kernel
theorem d_M_act_13 : decode prog_5_method_38_code 13 = .ok (.ifCond .eq 16, 3) := by decide +kernel
theorem d_M_act_16 : decode prog_5_method_38_code 16 = .ok (.aload_n 0, 1) := by decide +kernel
theorem d_M_act_17 : decode prog_5_method_38_code 17 = .ok (.iload 4, 2) := by decide +kernel
theorem d_M_act_19 : decode prog_5_method_38_code 19 = .ok (.invokevirtual 55, 3) := by decide +kernel
theorem d_M_act_22 : decode prog_5_method_38_code 22 = .ok (.ifCond .eq 7, 3) := by decide +kernel
theorem d_M_act_25 : decode prog_5_method_38_code 25 = .ok (.iconst 1, 1) := by decide +kernel
theorem d_M_act_26 : decode prog_5_method_38_code 26 = .ok (.goto 4, 3) := by decide +kernel
theorem d_M_act_29 : decode prog_5_method_38_code 29 = .ok (.iconst 0, 1) := by decide +kernel
theorem d_M_act_30 : decode prog_5_method_38_code 30 = .ok (.istore 5, 2) := by decide +kernel
theorem d_M_act_32 : decode prog_5_method_38_code 32 = .ok (.iload 5, 2) := by decide +kernel
theorem d_M_act_34 : decode prog_5_method_38_code 34 = .ok (.ifCond .eq 36, 3) := by decide +kernel
theorem d_M_act_37 : decode prog_5_method_38_code 37 = .ok (.iload_n 1, 1) := by decide +kernel
theorem d_M_act_38 : decode prog_5_method_38_code 38 = .ok (.ifCond .lt 32, 3) := by decide +kernel
theorem d_M_act_41 : decode prog_5_method_38_code 41 = .ok (.iload_n 1, 1) := by decide +kernel
theorem d_M_act_42 : decode prog_5_method_38_code 42 = .ok (.iconst 5, 1) := by decide +kernel
theorem d_M_act_43 : decode prog_5_method_38_code 43 = .ok (.if_icmp .ge 27, 3) := by decide +kernel
theorem d_M_act_46 : decode prog_5_method_38_code 46 = .ok (.aload_n 0, 1) := by decide +kernel
theorem d_M_act_47 : decode prog_5_method_38_code 47 = .ok (.iload_n 2, 1) := by decide +kernel
theorem d_M_act_48 : decode prog_5_method_38_code 48 = .ok (.iload 4, 2) := by decide +kernel
theorem d_M_act_50 : decode prog_5_method_38_code 50 = .ok (.invokevirtual 142, 3) := by decide +kernel
theorem d_M_act_53 : decode prog_5_method_38_code 53 = .ok (.ifCond .eq 17, 3) := by decide +kernel
theorem d_M_act_56 : decode prog_5_method_38_code 56 = .ok (.aload_n 0, 1) := by decide +kernel
theorem d_M_act_57 : decode prog_5_method_38_code 57 = .ok (.iload_n 3, 1) := by decide +kernel
theorem d_M_act_58 : decode prog_5_method_38_code 58 = .ok (.iload 4, 2) := by decide +kernel
theorem d_M_act_60 : decode prog_5_method_38_code 60 = .ok (.invokevirtual 142, 3) := by decide +kernel
theorem d_M_act_63 : decode prog_5_method_38_code 63 = .ok (.ifCond .eq 7, 3) := by decide +kernel
theorem d_M_act_66 : decode prog_5_method_38_code 66 = .ok (.iconst 1, 1) := by decide +kernel
theorem d_M_act_67 : decode prog_5_method_38_code 67 = .ok (.goto 4, 3) := by decide +kernel
theorem d_M_act_70 : decode prog_5_method_38_code 70 = .ok (.iconst 0, 1) := by decide +kernel
theorem d_M_act_71 : decode prog_5_method_38_code 71 = .ok (.istore 6, 2) := by decide +kernel
theorem d_M_act_73 : decode prog_5_method_38_code 73 = .ok (.aload_n 0, 1) := by decide +kernel
theorem d_M_act_74 : decode prog_5_method_38_code 74 = .ok (.iload 5, 2) := by decide +kernel
theorem d_M_act_76 : decode prog_5_method_38_code 76 = .ok (.iload 6, 2) := by decide +kernel
theorem d_M_act_78 : decode prog_5_method_38_code 78 = .ok (.iload 5, 2) := by decide +kernel
theorem d_M_act_80 : decode prog_5_method_38_code 80 = .ok (.ifCond .eq 16, 3) := by decide +kernel
theorem d_M_act_83 : decode prog_5_method_38_code 83 = .ok (.aload_n 0, 1) := by decide +kernel
theorem d_M_act_84 : decode prog_5_method_38_code 84 = .ok (.iload 4, 2) := by decide +kernel
theorem d_M_act_86 : decode prog_5_method_38_code 86 = .ok (.invokevirtual 135, 3) := by decide +kernel
theorem d_M_act_89 : decode prog_5_method_38_code 89 = .ok (.ifCond .ne 7, 3) := by decide +kernel
theorem d_M_act_92 : decode prog_5_method_38_code 92 = .ok (.iconst 1, 1) := by decide +kernel
theorem d_M_act_93 : decode prog_5_method_38_code 93 = .ok (.goto 4, 3) := by decide +kernel
theorem d_M_act_96 : decode prog_5_method_38_code 96 = .ok (.iconst 0, 1) := by decide +kernel
theorem d_M_act_97 : decode prog_5_method_38_code 97 = .ok (.invokevirtual 109, 3) := by decide +kernel
theorem d_M_act_100 : decode prog_5_method_38_code 100 = .ok (.ifCond .ne 5, 3) := by decide +kernel
theorem d_M_act_103 : decode prog_5_method_38_code 103 = .ok (.iconst 0, 1) := by decide +kernel
theorem d_M_act_104 : decode prog_5_method_38_code 104 = .ok (.ireturn, 1) := by decide +kernel
theorem d_M_act_105 : decode prog_5_method_38_code 105 = .ok (.aload_n 0, 1) := by decide +kernel
theorem d_M_act_106 : decode prog_5_method_38_code 106 = .ok (.iload 4, 2) := by decide +kernel
theorem d_M_act_108 : decode prog_5_method_38_code 108 = .ok (.invokevirtual 117, 3) := by decide +kernel
theorem d_M_act_111 : decode prog_5_method_38_code 111 = .ok (.istore 7, 2) := by decide +kernel
theorem d_M_act_113 : decode prog_5_method_38_code 113 = .ok (.iconst 0, 1) := by decide +kernel
theorem d_M_act_114 : decode prog_5_method_38_code 114 = .ok (.istore 8, 2) := by decide +kernel
theorem d_M_act_116 : decode prog_5_method_38_code 116 = .ok (.iload 8, 2) := by decide +kernel
theorem d_M_act_118 : decode prog_5_method_38_code 118 = .ok (.iload 7, 2) := by decide +kernel
theorem d_M_act_120 : decode prog_5_method_38_code 120 = .ok (.if_icmp .ge 38, 3) := by decide +kernel
theorem d_M_act_123 : decode prog_5_method_38_code 123 = .ok (.aload_n 0, 1) := by decide +kernel
theorem d_M_act_124 : decode prog_5_method_38_code 124 = .ok (.getfield 41, 3) := by decide +kernel
theorem d_M_act_127 : decode prog_5_method_38_code 127 = .ok (.iload 8, 2) := by decide +kernel
theorem d_M_act_129 : decode prog_5_method_38_code 129 = .ok (.iload_n 1, 1) := by decide +kernel
theorem d_M_act_130 : decode prog_5_method_38_code 130 = .ok (.aload_n 0, 1) := by decide +kernel
theorem d_M_act_131 : decode prog_5_method_38_code 131 = .ok (.iload_n 2, 1) := by decide +kernel
theorem d_M_act_132 : decode prog_5_method_38_code 132 = .ok (.iload 4, 2) := by decide +kernel
theorem d_M_act_134 : decode prog_5_method_38_code 134 = .ok (.iload 8, 2) := by decide +kernel
theorem d_M_act_136 : decode prog_5_method_38_code 136 = .ok (.invokevirtual 145, 3) := by decide +kernel
theorem d_M_act_139 : decode prog_5_method_38_code 139 = .ok (.aload_n 0, 1) := by decide +kernel
theorem d_M_act_140 : decode prog_5_method_38_code 140 = .ok (.iload_n 3, 1) := by decide +kernel
theorem d_M_act_141 : decode prog_5_method_38_code 141 = .ok (.iload 4, 2) := by decide +kernel
theorem d_M_act_143 : decode prog_5_method_38_code 143 = .ok (.iload 8, 2) := by decide +kernel
theorem d_M_act_145 : decode prog_5_method_38_code 145 = .ok (.invokevirtual 145, 3) := by decide +kernel
theorem d_M_act_148 : decode prog_5_method_38_code 148 = .ok (.invokestatic 152, 3) := by decide +kernel
theorem d_M_act_151 : decode prog_5_method_38_code 151 = .ok (.lastore, 1) := by decide +kernel
theorem d_M_act_152 : decode prog_5_method_38_code 152 = .ok (.iinc 8 1, 3) := by decide +kernel
theorem d_M_act_155 : decode prog_5_method_38_code 155 = .ok (.goto (-39), 3) := by decide +kernel
theorem d_M_act_158 : decode prog_5_method_38_code 158 = .ok (.aload_n 0, 1) := by decide +kernel
theorem d_M_act_159 : decode prog_5_method_38_code 159 = .ok (.iload 4, 2) := by decide +kernel
theorem d_M_act_161 : decode prog_5_method_38_code 161 = .ok (.invokevirtual 149, 3) := by decide +kernel
theorem d_M_act_164 : decode prog_5_method_38_code 164 = .ok (.ireturn, 1) := by decide +kernel
theorem d_M_acted_0 : decode prog_5_method_37_code 0 = .ok (.iload_n 0, 1) := by decide +kernel
theorem d_M_acted_1 : decode prog_5_method_37_code 1 = .ok (.tableswitch 55 0 3 #[31, 35, 39, 43], 31) := by decide +kernel
theorem d_M_acted_32 : decode prog_5_method_37_code 32 = .ok (.lload_n 1, 1) := by decide +kernel
theorem d_M_acted_33 : decode prog_5_method_37_code 33 = .ok (.lload_n 3, 1) := by decide +kernel
theorem d_M_acted_34 : decode prog_5_method_37_code 34 = .ok (.ladd, 1) := by decide +kernel
theorem d_M_acted_35 : decode prog_5_method_37_code 35 = .ok (.lreturn, 1) := by decide +kernel
theorem d_M_acted_36 : decode prog_5_method_37_code 36 = .ok (.lload_n 1, 1) := by decide +kernel
theorem d_M_acted_37 : decode prog_5_method_37_code 37 = .ok (.lload_n 3, 1) := by decide +kernel
theorem d_M_acted_38 : decode prog_5_method_37_code 38 = .ok (.lsub, 1) := by decide +kernel
theorem d_M_acted_39 : decode prog_5_method_37_code 39 = .ok (.lreturn, 1) := by decide +kernel
theorem d_M_acted_40 : decode prog_5_method_37_code 40 = .ok (.lload_n 1, 1) := by decide +kernel
theorem d_M_acted_41 : decode prog_5_method_37_code 41 = .ok (.lload_n 3, 1) := by decide +kernel
theorem d_M_acted_42 : decode prog_5_method_37_code 42 = .ok (.lmul, 1) := by decide +kernel
theorem d_M_acted_43 : decode prog_5_method_37_code 43 = .ok (.lreturn, 1) := by decide +kernel
theorem d_M_acted_44 : decode prog_5_method_37_code 44 = .ok (.lload_n 1, 1) := by decide +kernel
theorem d_M_acted_45 : decode prog_5_method_37_code 45 = .ok (.lload_n 3, 1) := by decide +kernel
theorem d_M_acted_46 : decode prog_5_method_37_code 46 = .ok (.lcmp, 1) := by decide +kernel
theorem d_M_acted_47 : decode prog_5_method_37_code 47 = .ok (.ifCond .le 7, 3) := by decide +kernel
theorem d_M_acted_50 : decode prog_5_method_37_code 50 = .ok (.lload_n 1, 1) := by decide +kernel
theorem d_M_acted_51 : decode prog_5_method_37_code 51 = .ok (.goto 4, 3) := by decide +kernel
theorem d_M_acted_54 : decode prog_5_method_37_code 54 = .ok (.lload_n 3, 1) := by decide +kernel
theorem d_M_acted_55 : decode prog_5_method_37_code 55 = .ok (.lreturn, 1) := by decide +kernel
theorem d_M_acted_56 : decode prog_5_method_37_code 56 = .ok (.lload_n 1, 1) := by decide +kernel
theorem d_M_acted_57 : decode prog_5_method_37_code 57 = .ok (.lload_n 3, 1) := by decide +kernel
theorem d_M_acted_58 : decode prog_5_method_37_code 58 = .ok (.lcmp, 1) := by decide +kernel
theorem d_M_acted_59 : decode prog_5_method_37_code 59 = .ok (.ifCond .ge 7, 3) := by decide +kernel
theorem d_M_acted_62 : decode prog_5_method_37_code 62 = .ok (.lload_n 1, 1) := by decide +kernel
theorem d_M_acted_63 : decode prog_5_method_37_code 63 = .ok (.goto 4, 3) := by decide +kernel
theorem d_M_acted_66 : decode prog_5_method_37_code 66 = .ok (.lload_n 3, 1) := by decide +kernel
theorem d_M_acted_67 : decode prog_5_method_37_code 67 = .ok (.lreturn, 1) := by decide +kernel
theorem d_M_fold_0 : decode prog_5_method_39_code 0 = .ok (.aload_n 0, 1) := by decide +kernel
theorem d_M_fold_1 : decode prog_5_method_39_code 1 = .ok (.iload_n 2, 1) := by decide +kernel
theorem d_M_fold_2 : decode prog_5_method_39_code 2 = .ok (.iload_n 3, 1) := by decide +kernel
theorem d_M_fold_3 : decode prog_5_method_39_code 3 = .ok (.invokevirtual 105, 3) := by decide +kernel
theorem d_M_fold_6 : decode prog_5_method_39_code 6 = .ok (.istore 4, 2) := by decide +kernel
theorem d_M_fold_8 : decode prog_5_method_39_code 8 = .ok (.iload_n 1, 1) := by decide +kernel
theorem d_M_fold_9 : decode prog_5_method_39_code 9 = .ok (.ifCond .eq 13, 3) := by decide +kernel
theorem d_M_fold_12 : decode prog_5_method_39_code 12 = .ok (.iload_n 1, 1) := by decide +kernel
theorem d_M_fold_13 : decode prog_5_method_39_code 13 = .ok (.iconst 1, 1) := by decide +kernel
theorem d_M_fold_14 : decode prog_5_method_39_code 14 = .ok (.if_icmp .le 12, 3) := by decide +kernel
theorem d_M_fold_17 : decode prog_5_method_39_code 17 = .ok (.iload_n 1, 1) := by decide +kernel
theorem d_M_fold_18 : decode prog_5_method_39_code 18 = .ok (.iconst 5, 1) := by decide +kernel
theorem d_M_fold_19 : decode prog_5_method_39_code 19 = .ok (.if_icmp .ge 7, 3) := by decide +kernel
theorem d_M_fold_22 : decode prog_5_method_39_code 22 = .ok (.iconst 1, 1) := by decide +kernel
theorem d_M_fold_23 : decode prog_5_method_39_code 23 = .ok (.goto 4, 3) := by decide +kernel
theorem d_M_fold_26 : decode prog_5_method_39_code 26 = .ok (.iconst 0, 1) := by decide +kernel
theorem d_M_fold_27 : decode prog_5_method_39_code 27 = .ok (.istore 5, 2) := by decide +kernel
theorem d_M_fold_29 : decode prog_5_method_39_code 29 = .ok (.aload_n 0, 1) := by decide +kernel
theorem d_M_fold_30 : decode prog_5_method_39_code 30 = .ok (.getfield 84, 3) := by decide +kernel
theorem d_M_fold_33 : decode prog_5_method_39_code 33 = .ok (.bipush 12, 2) := by decide +kernel
theorem d_M_fold_35 : decode prog_5_method_39_code 35 = .ok (.if_icmp .ge 16, 3) := by decide +kernel
theorem d_M_fold_38 : decode prog_5_method_39_code 38 = .ok (.aload_n 0, 1) := by decide +kernel
theorem d_M_fold_39 : decode prog_5_method_39_code 39 = .ok (.getfield 52, 3) := by decide +kernel
theorem d_M_fold_42 : decode prog_5_method_39_code 42 = .ok (.bipush 80, 2) := by decide +kernel
theorem d_M_fold_44 : decode prog_5_method_39_code 44 = .ok (.if_icmp .ge 7, 3) := by decide +kernel
theorem d_M_fold_47 : decode prog_5_method_39_code 47 = .ok (.iconst 1, 1) := by decide +kernel
theorem d_M_fold_48 : decode prog_5_method_39_code 48 = .ok (.goto 4, 3) := by decide +kernel
theorem d_M_fold_51 : decode prog_5_method_39_code 51 = .ok (.iconst 0, 1) := by decide +kernel
theorem d_M_fold_52 : decode prog_5_method_39_code 52 = .ok (.istore 6, 2) := by decide +kernel
theorem d_M_fold_54 : decode prog_5_method_39_code 54 = .ok (.iload 4, 2) := by decide +kernel
theorem d_M_fold_56 : decode prog_5_method_39_code 56 = .ok (.ifCond .eq 33, 3) := by decide +kernel
theorem d_M_fold_59 : decode prog_5_method_39_code 59 = .ok (.aload_n 0, 1) := by decide +kernel
theorem d_M_fold_60 : decode prog_5_method_39_code 60 = .ok (.iload_n 2, 1) := by decide +kernel
theorem d_M_fold_61 : decode prog_5_method_39_code 61 = .ok (.iload_n 3, 1) := by decide +kernel
theorem d_M_fold_62 : decode prog_5_method_39_code 62 = .ok (.iconst (-1), 1) := by decide +kernel
theorem d_M_fold_63 : decode prog_5_method_39_code 63 = .ok (.invokevirtual 113, 3) := by decide +kernel
theorem d_M_fold_66 : decode prog_5_method_39_code 66 = .ok (.iload 6, 2) := by decide +kernel
theorem d_M_fold_68 : decode prog_5_method_39_code 68 = .ok (.ifCond .eq 18, 3) := by decide +kernel
theorem d_M_fold_71 : decode prog_5_method_39_code 71 = .ok (.aload_n 0, 1) := by decide +kernel
theorem d_M_fold_72 : decode prog_5_method_39_code 72 = .ok (.invokevirtual 78, 3) := by decide +kernel
theorem d_M_fold_75 : decode prog_5_method_39_code 75 = .ok (.ldc2_w 156, 3) := by decide +kernel
theorem d_M_fold_78 : decode prog_5_method_39_code 78 = .ok (.lcmp, 1) := by decide +kernel
theorem d_M_fold_79 : decode prog_5_method_39_code 79 = .ok (.ifCond .gt 7, 3) := by decide +kernel
theorem d_M_fold_82 : decode prog_5_method_39_code 82 = .ok (.iconst 1, 1) := by decide +kernel
theorem d_M_fold_83 : decode prog_5_method_39_code 83 = .ok (.goto 4, 3) := by decide +kernel
theorem d_M_fold_86 : decode prog_5_method_39_code 86 = .ok (.iconst 0, 1) := by decide +kernel
theorem d_M_fold_87 : decode prog_5_method_39_code 87 = .ok (.istore 6, 2) := by decide +kernel
theorem d_M_fold_89 : decode prog_5_method_39_code 89 = .ok (.aload_n 0, 1) := by decide +kernel
theorem d_M_fold_90 : decode prog_5_method_39_code 90 = .ok (.iload 4, 2) := by decide +kernel
theorem d_M_fold_92 : decode prog_5_method_39_code 92 = .ok (.iload 5, 2) := by decide +kernel
theorem d_M_fold_94 : decode prog_5_method_39_code 94 = .ok (.iload 6, 2) := by decide +kernel
theorem d_M_fold_96 : decode prog_5_method_39_code 96 = .ok (.invokevirtual 109, 3) := by decide +kernel
theorem d_M_fold_99 : decode prog_5_method_39_code 99 = .ok (.ifCond .ne 5, 3) := by decide +kernel
theorem d_M_fold_102 : decode prog_5_method_39_code 102 = .ok (.iconst 0, 1) := by decide +kernel
theorem d_M_fold_103 : decode prog_5_method_39_code 103 = .ok (.ireturn, 1) := by decide +kernel
theorem d_M_fold_104 : decode prog_5_method_39_code 104 = .ok (.aload_n 0, 1) := by decide +kernel
theorem d_M_fold_105 : decode prog_5_method_39_code 105 = .ok (.invokevirtual 78, 3) := by decide +kernel
theorem d_M_fold_108 : decode prog_5_method_39_code 108 = .ok (.l2i, 1) := by decide +kernel
theorem d_M_fold_109 : decode prog_5_method_39_code 109 = .ok (.istore 7, 2) := by decide +kernel
theorem d_M_fold_111 : decode prog_5_method_39_code 111 = .ok (.aload_n 0, 1) := by decide +kernel
theorem d_M_fold_112 : decode prog_5_method_39_code 112 = .ok (.iconst 3, 1) := by decide +kernel
theorem d_M_fold_113 : decode prog_5_method_39_code 113 = .ok (.iload 7, 2) := by decide +kernel
theorem d_M_fold_115 : decode prog_5_method_39_code 115 = .ok (.invokevirtual 98, 3) := by decide +kernel
theorem d_M_fold_118 : decode prog_5_method_39_code 118 = .ok (.istore 8, 2) := by decide +kernel
theorem d_M_fold_120 : decode prog_5_method_39_code 120 = .ok (.iconst 0, 1) := by decide +kernel
theorem d_M_fold_121 : decode prog_5_method_39_code 121 = .ok (.istore 9, 2) := by decide +kernel
theorem d_M_fold_123 : decode prog_5_method_39_code 123 = .ok (.iload 9, 2) := by decide +kernel
theorem d_M_fold_125 : decode prog_5_method_39_code 125 = .ok (.iload 7, 2) := by decide +kernel
theorem d_M_fold_127 : decode prog_5_method_39_code 127 = .ok (.if_icmp .ge 54, 3) := by decide +kernel
theorem d_M_fold_130 : decode prog_5_method_39_code 130 = .ok (.aload_n 0, 1) := by decide +kernel
theorem d_M_fold_131 : decode prog_5_method_39_code 131 = .ok (.getfield 16, 3) := by decide +kernel
theorem d_M_fold_134 : decode prog_5_method_39_code 134 = .ok (.sipush 300, 3) := by decide +kernel
theorem d_M_fold_137 : decode prog_5_method_39_code 137 = .ok (.iload 8, 2) := by decide +kernel
theorem d_M_fold_139 : decode prog_5_method_39_code 139 = .ok (.imul, 1) := by decide +kernel
theorem d_M_fold_140 : decode prog_5_method_39_code 140 = .ok (.iload 9, 2) := by decide +kernel
theorem d_M_fold_142 : decode prog_5_method_39_code 142 = .ok (.iadd, 1) := by decide +kernel
theorem d_M_fold_143 : decode prog_5_method_39_code 143 = .ok (.iload_n 1, 1) := by decide +kernel
theorem d_M_fold_144 : decode prog_5_method_39_code 144 = .ok (.ifCond .ne 7, 3) := by decide +kernel
theorem d_M_fold_147 : decode prog_5_method_39_code 147 = .ok (.lconst 0, 1) := by decide +kernel
theorem d_M_fold_148 : decode prog_5_method_39_code 148 = .ok (.goto 26, 3) := by decide +kernel
theorem d_M_fold_151 : decode prog_5_method_39_code 151 = .ok (.iload_n 1, 1) := by decide +kernel
theorem d_M_fold_152 : decode prog_5_method_39_code 152 = .ok (.iconst 2, 1) := by decide +kernel
theorem d_M_fold_153 : decode prog_5_method_39_code 153 = .ok (.if_icmp .ne 7, 3) := by decide +kernel
theorem d_M_fold_156 : decode prog_5_method_39_code 156 = .ok (.lconst 1, 1) := by decide +kernel
theorem d_M_fold_157 : decode prog_5_method_39_code 157 = .ok (.goto 17, 3) := by decide +kernel
theorem d_M_fold_160 : decode prog_5_method_39_code 160 = .ok (.iload_n 1, 1) := by decide +kernel
theorem d_M_fold_161 : decode prog_5_method_39_code 161 = .ok (.iconst 3, 1) := by decide +kernel
theorem d_M_fold_162 : decode prog_5_method_39_code 162 = .ok (.if_icmp .ne 9, 3) := by decide +kernel
theorem d_M_fold_165 : decode prog_5_method_39_code 165 = .ok (.ldc2_w 158, 3) := by decide +kernel
theorem d_M_fold_168 : decode prog_5_method_39_code 168 = .ok (.goto 6, 3) := by decide +kernel
theorem d_M_fold_171 : decode prog_5_method_39_code 171 = .ok (.ldc2_w 160, 3) := by decide +kernel
theorem d_M_fold_174 : decode prog_5_method_39_code 174 = .ok (.lastore, 1) := by decide +kernel
theorem d_M_fold_175 : decode prog_5_method_39_code 175 = .ok (.iinc 9 1, 3) := by decide +kernel
theorem d_M_fold_178 : decode prog_5_method_39_code 178 = .ok (.goto (-55), 3) := by decide +kernel
theorem d_M_fold_181 : decode prog_5_method_39_code 181 = .ok (.aload_n 0, 1) := by decide +kernel
theorem d_M_fold_182 : decode prog_5_method_39_code 182 = .ok (.iload_n 2, 1) := by decide +kernel
theorem d_M_fold_183 : decode prog_5_method_39_code 183 = .ok (.invokevirtual 117, 3) := by decide +kernel
theorem d_M_fold_186 : decode prog_5_method_39_code 186 = .ok (.istore 9, 2) := by decide +kernel
theorem d_M_fold_188 : decode prog_5_method_39_code 188 = .ok (.iconst 0, 1) := by decide +kernel
theorem d_M_fold_189 : decode prog_5_method_39_code 189 = .ok (.istore 10, 2) := by decide +kernel
theorem d_M_fold_191 : decode prog_5_method_39_code 191 = .ok (.iload 10, 2) := by decide +kernel
theorem d_M_fold_193 : decode prog_5_method_39_code 193 = .ok (.iload 9, 2) := by decide +kernel
theorem d_M_fold_195 : decode prog_5_method_39_code 195 = .ok (.if_icmp .ge 108, 3) := by decide +kernel
theorem d_M_fold_198 : decode prog_5_method_39_code 198 = .ok (.iconst 0, 1) := by decide +kernel
theorem d_M_fold_199 : decode prog_5_method_39_code 199 = .ok (.istore 11, 2) := by decide +kernel
theorem d_M_fold_201 : decode prog_5_method_39_code 201 = .ok (.iconst 0, 1) := by decide +kernel
theorem d_M_fold_202 : decode prog_5_method_39_code 202 = .ok (.istore 12, 2) := by decide +kernel
theorem d_M_fold_204 : decode prog_5_method_39_code 204 = .ok (.iload 12, 2) := by decide +kernel
theorem d_M_fold_206 : decode prog_5_method_39_code 206 = .ok (.aload_n 0, 1) := by decide +kernel
theorem d_M_fold_207 : decode prog_5_method_39_code 207 = .ok (.getfield 26, 3) := by decide +kernel
theorem d_M_fold_210 : decode prog_5_method_39_code 210 = .ok (.iload_n 2, 1) := by decide +kernel
theorem d_M_fold_211 : decode prog_5_method_39_code 211 = .ok (.iaload, 1) := by decide +kernel
theorem d_M_fold_212 : decode prog_5_method_39_code 212 = .ok (.if_icmp .ge 46, 3) := by decide +kernel
theorem d_M_fold_215 : decode prog_5_method_39_code 215 = .ok (.iload 12, 2) := by decide +kernel
theorem d_M_fold_217 : decode prog_5_method_39_code 217 = .ok (.iload_n 3, 1) := by decide +kernel
theorem d_M_fold_218 : decode prog_5_method_39_code 218 = .ok (.if_icmp .ne 8, 3) := by decide +kernel
theorem d_M_fold_221 : decode prog_5_method_39_code 221 = .ok (.iload 11, 2) := by decide +kernel
theorem d_M_fold_223 : decode prog_5_method_39_code 223 = .ok (.goto 27, 3) := by decide +kernel
theorem d_M_fold_226 : decode prog_5_method_39_code 226 = .ok (.iload 11, 2) := by decide +kernel
theorem d_M_fold_228 : decode prog_5_method_39_code 228 = .ok (.aload_n 0, 1) := by decide +kernel
theorem d_M_fold_229 : decode prog_5_method_39_code 229 = .ok (.getfield 29, 3) := by decide +kernel
theorem d_M_fold_232 : decode prog_5_method_39_code 232 = .ok (.iconst 4, 1) := by decide +kernel
theorem d_M_fold_233 : decode prog_5_method_39_code 233 = .ok (.iload_n 2, 1) := by decide +kernel
theorem d_M_fold_234 : decode prog_5_method_39_code 234 = .ok (.imul, 1) := by decide +kernel
theorem d_M_fold_235 : decode prog_5_method_39_code 235 = .ok (.iload 12, 2) := by decide +kernel
theorem d_M_fold_237 : decode prog_5_method_39_code 237 = .ok (.iadd, 1) := by decide +kernel
theorem d_M_fold_238 : decode prog_5_method_39_code 238 = .ok (.iaload, 1) := by decide +kernel
theorem d_M_fold_239 : decode prog_5_method_39_code 239 = .ok (.imul, 1) := by decide +kernel
theorem d_M_fold_240 : decode prog_5_method_39_code 240 = .ok (.aload_n 0, 1) := by decide +kernel
theorem d_M_fold_241 : decode prog_5_method_39_code 241 = .ok (.iload_n 2, 1) := by decide +kernel
theorem d_M_fold_242 : decode prog_5_method_39_code 242 = .ok (.iload 12, 2) := by decide +kernel
theorem d_M_fold_244 : decode prog_5_method_39_code 244 = .ok (.iload 10, 2) := by decide +kernel
theorem d_M_fold_246 : decode prog_5_method_39_code 246 = .ok (.invokevirtual 66, 3) := by decide +kernel
theorem d_M_fold_249 : decode prog_5_method_39_code 249 = .ok (.iadd, 1) := by decide +kernel
theorem d_M_fold_250 : decode prog_5_method_39_code 250 = .ok (.istore 11, 2) := by decide +kernel
theorem d_M_fold_252 : decode prog_5_method_39_code 252 = .ok (.iinc 12 1, 3) := by decide +kernel
theorem d_M_fold_255 : decode prog_5_method_39_code 255 = .ok (.goto (-51), 3) := by decide +kernel
theorem d_M_fold_258 : decode prog_5_method_39_code 258 = .ok (.aload_n 0, 1) := by decide +kernel
theorem d_M_fold_259 : decode prog_5_method_39_code 259 = .ok (.getfield 16, 3) := by decide +kernel
theorem d_M_fold_262 : decode prog_5_method_39_code 262 = .ok (.sipush 300, 3) := by decide +kernel
theorem d_M_fold_265 : decode prog_5_method_39_code 265 = .ok (.iload 8, 2) := by decide +kernel
theorem d_M_fold_267 : decode prog_5_method_39_code 267 = .ok (.imul, 1) := by decide +kernel
theorem d_M_fold_268 : decode prog_5_method_39_code 268 = .ok (.iload 11, 2) := by decide +kernel
theorem d_M_fold_270 : decode prog_5_method_39_code 270 = .ok (.iadd, 1) := by decide +kernel
theorem d_M_fold_271 : decode prog_5_method_39_code 271 = .ok (.iload_n 1, 1) := by decide +kernel
theorem d_M_fold_272 : decode prog_5_method_39_code 272 = .ok (.aload_n 0, 1) := by decide +kernel
theorem d_M_fold_273 : decode prog_5_method_39_code 273 = .ok (.getfield 16, 3) := by decide +kernel
theorem d_M_fold_276 : decode prog_5_method_39_code 276 = .ok (.sipush 300, 3) := by decide +kernel
theorem d_M_fold_279 : decode prog_5_method_39_code 279 = .ok (.iload 8, 2) := by decide +kernel
theorem d_M_fold_281 : decode prog_5_method_39_code 281 = .ok (.imul, 1) := by decide +kernel
theorem d_M_fold_282 : decode prog_5_method_39_code 282 = .ok (.iload 11, 2) := by decide +kernel
theorem d_M_fold_284 : decode prog_5_method_39_code 284 = .ok (.iadd, 1) := by decide +kernel
theorem d_M_fold_285 : decode prog_5_method_39_code 285 = .ok (.laload, 1) := by decide +kernel
theorem d_M_fold_286 : decode prog_5_method_39_code 286 = .ok (.aload_n 0, 1) := by decide +kernel
theorem d_M_fold_287 : decode prog_5_method_39_code 287 = .ok (.iload_n 2, 1) := by decide +kernel
theorem d_M_fold_288 : decode prog_5_method_39_code 288 = .ok (.iload 10, 2) := by decide +kernel
theorem d_M_fold_290 : decode prog_5_method_39_code 290 = .ok (.invokevirtual 128, 3) := by decide +kernel
theorem d_M_fold_293 : decode prog_5_method_39_code 293 = .ok (.invokestatic 152, 3) := by decide +kernel
theorem d_M_fold_296 : decode prog_5_method_39_code 296 = .ok (.lastore, 1) := by decide +kernel
theorem d_M_fold_297 : decode prog_5_method_39_code 297 = .ok (.iinc 10 1, 3) := by decide +kernel
theorem d_M_fold_300 : decode prog_5_method_39_code 300 = .ok (.goto (-109), 3) := by decide +kernel
theorem d_M_fold_303 : decode prog_5_method_39_code 303 = .ok (.aload_n 0, 1) := by decide +kernel
theorem d_M_fold_304 : decode prog_5_method_39_code 304 = .ok (.invokevirtual 132, 3) := by decide +kernel
theorem d_M_fold_307 : decode prog_5_method_39_code 307 = .ok (.aload_n 0, 1) := by decide +kernel
theorem d_M_fold_308 : decode prog_5_method_39_code 308 = .ok (.iload 8, 2) := by decide +kernel
theorem d_M_fold_310 : decode prog_5_method_39_code 310 = .ok (.lconst 0, 1) := by decide +kernel
theorem d_M_fold_311 : decode prog_5_method_39_code 311 = .ok (.invokevirtual 101, 3) := by decide +kernel
theorem d_M_fold_314 : decode prog_5_method_39_code 314 = .ok (.ireturn, 1) := by decide +kernel
theorem d_M_shared_0 : decode prog_5_method_40_code 0 = .ok (.aload_n 0, 1) := by decide +kernel
theorem d_M_shared_1 : decode prog_5_method_40_code 1 = .ok (.aload_n 0, 1) := by decide +kernel
theorem d_M_shared_2 : decode prog_5_method_40_code 2 = .ok (.iload_n 1, 1) := by decide +kernel
theorem d_M_shared_3 : decode prog_5_method_40_code 3 = .ok (.invokevirtual 55, 3) := by decide +kernel
theorem d_M_shared_6 : decode prog_5_method_40_code 6 = .ok (.ifCond .eq 15, 3) := by decide +kernel
theorem d_M_shared_9 : decode prog_5_method_40_code 9 = .ok (.aload_n 0, 1) := by decide +kernel
theorem d_M_shared_10 : decode prog_5_method_40_code 10 = .ok (.iload_n 2, 1) := by decide +kernel
theorem d_M_shared_11 : decode prog_5_method_40_code 11 = .ok (.invokevirtual 55, 3) := by decide +kernel
theorem d_M_shared_14 : decode prog_5_method_40_code 14 = .ok (.ifCond .eq 7, 3) := by decide +kernel
theorem d_M_shared_17 : decode prog_5_method_40_code 17 = .ok (.iconst 0, 1) := by decide +kernel
theorem d_M_shared_18 : decode prog_5_method_40_code 18 = .ok (.goto 4, 3) := by decide +kernel
theorem d_M_shared_21 : decode prog_5_method_40_code 21 = .ok (.iconst 1, 1) := by decide +kernel
theorem d_M_shared_22 : decode prog_5_method_40_code 22 = .ok (.putfield 48, 3) := by decide +kernel
theorem d_M_shared_25 : decode prog_5_method_40_code 25 = .ok (.aload_n 0, 1) := by decide +kernel
theorem d_M_shared_26 : decode prog_5_method_40_code 26 = .ok (.getfield 48, 3) := by decide +kernel
theorem d_M_shared_29 : decode prog_5_method_40_code 29 = .ok (.ifCond .gt 18, 3) := by decide +kernel
theorem d_M_shared_32 : decode prog_5_method_40_code 32 = .ok (.aload_n 0, 1) := by decide +kernel
theorem d_M_shared_33 : decode prog_5_method_40_code 33 = .ok (.getfield 20, 3) := by decide +kernel
theorem d_M_shared_36 : decode prog_5_method_40_code 36 = .ok (.iload_n 1, 1) := by decide +kernel
theorem d_M_shared_37 : decode prog_5_method_40_code 37 = .ok (.iaload, 1) := by decide +kernel
theorem d_M_shared_38 : decode prog_5_method_40_code 38 = .ok (.aload_n 0, 1) := by decide +kernel
theorem d_M_shared_39 : decode prog_5_method_40_code 39 = .ok (.getfield 20, 3) := by decide +kernel
theorem d_M_shared_42 : decode prog_5_method_40_code 42 = .ok (.iload_n 2, 1) := by decide +kernel
theorem d_M_shared_43 : decode prog_5_method_40_code 43 = .ok (.iaload, 1) := by decide +kernel
theorem d_M_shared_44 : decode prog_5_method_40_code 44 = .ok (.if_icmp .eq 5, 3) := by decide +kernel
theorem d_M_shared_47 : decode prog_5_method_40_code 47 = .ok (.iconst 0, 1) := by decide +kernel
theorem d_M_shared_48 : decode prog_5_method_40_code 48 = .ok (.ireturn, 1) := by decide +kernel
theorem d_M_shared_49 : decode prog_5_method_40_code 49 = .ok (.iconst 0, 1) := by decide +kernel
theorem d_M_shared_50 : decode prog_5_method_40_code 50 = .ok (.istore_n 3, 1) := by decide +kernel
theorem d_M_shared_51 : decode prog_5_method_40_code 51 = .ok (.iload_n 3, 1) := by decide +kernel
theorem d_M_shared_52 : decode prog_5_method_40_code 52 = .ok (.sipush 300, 3) := by decide +kernel
theorem d_M_shared_55 : decode prog_5_method_40_code 55 = .ok (.if_icmp .ge 16, 3) := by decide +kernel
theorem d_M_shared_58 : decode prog_5_method_40_code 58 = .ok (.aload_n 0, 1) := by decide +kernel
theorem d_M_shared_59 : decode prog_5_method_40_code 59 = .ok (.getfield 44, 3) := by decide +kernel
theorem d_M_shared_62 : decode prog_5_method_40_code 62 = .ok (.iload_n 3, 1) := by decide +kernel
theorem d_M_shared_63 : decode prog_5_method_40_code 63 = .ok (.iconst 0, 1) := by decide +kernel
theorem d_M_shared_64 : decode prog_5_method_40_code 64 = .ok (.bastore, 1) := by decide +kernel
theorem d_M_shared_65 : decode prog_5_method_40_code 65 = .ok (.iinc 3 1, 3) := by decide +kernel
theorem d_M_shared_68 : decode prog_5_method_40_code 68 = .ok (.goto (-17), 3) := by decide +kernel
theorem d_M_shared_71 : decode prog_5_method_40_code 71 = .ok (.aload_n 0, 1) := by decide +kernel
theorem d_M_shared_72 : decode prog_5_method_40_code 72 = .ok (.iload_n 1, 1) := by decide +kernel
theorem d_M_shared_73 : decode prog_5_method_40_code 73 = .ok (.invokevirtual 117, 3) := by decide +kernel
theorem d_M_shared_76 : decode prog_5_method_40_code 76 = .ok (.istore_n 3, 1) := by decide +kernel
theorem d_M_shared_77 : decode prog_5_method_40_code 77 = .ok (.iconst 0, 1) := by decide +kernel
theorem d_M_shared_78 : decode prog_5_method_40_code 78 = .ok (.istore 4, 2) := by decide +kernel
theorem d_M_shared_80 : decode prog_5_method_40_code 80 = .ok (.iload 4, 2) := by decide +kernel
theorem d_M_shared_82 : decode prog_5_method_40_code 82 = .ok (.iload_n 3, 1) := by decide +kernel
theorem d_M_shared_83 : decode prog_5_method_40_code 83 = .ok (.if_icmp .ge 22, 3) := by decide +kernel
theorem d_M_shared_86 : decode prog_5_method_40_code 86 = .ok (.aload_n 0, 1) := by decide +kernel
theorem d_M_shared_87 : decode prog_5_method_40_code 87 = .ok (.getfield 44, 3) := by decide +kernel
theorem d_M_shared_90 : decode prog_5_method_40_code 90 = .ok (.aload_n 0, 1) := by decide +kernel
theorem d_M_shared_91 : decode prog_5_method_40_code 91 = .ok (.iload_n 1, 1) := by decide +kernel
theorem d_M_shared_92 : decode prog_5_method_40_code 92 = .ok (.iload 4, 2) := by decide +kernel
theorem d_M_shared_94 : decode prog_5_method_40_code 94 = .ok (.invokevirtual 70, 3) := by decide +kernel
theorem d_M_shared_97 : decode prog_5_method_40_code 97 = .ok (.iconst 1, 1) := by decide +kernel
theorem d_M_shared_98 : decode prog_5_method_40_code 98 = .ok (.bastore, 1) := by decide +kernel
theorem d_M_shared_99 : decode prog_5_method_40_code 99 = .ok (.iinc 4 1, 3) := by decide +kernel
theorem d_M_shared_102 : decode prog_5_method_40_code 102 = .ok (.goto (-22), 3) := by decide +kernel
theorem d_M_shared_105 : decode prog_5_method_40_code 105 = .ok (.iconst 0, 1) := by decide +kernel
theorem d_M_shared_106 : decode prog_5_method_40_code 106 = .ok (.istore 4, 2) := by decide +kernel
theorem d_M_shared_108 : decode prog_5_method_40_code 108 = .ok (.aload_n 0, 1) := by decide +kernel
theorem d_M_shared_109 : decode prog_5_method_40_code 109 = .ok (.iload_n 2, 1) := by decide +kernel
theorem d_M_shared_110 : decode prog_5_method_40_code 110 = .ok (.invokevirtual 117, 3) := by decide +kernel
theorem d_M_shared_113 : decode prog_5_method_40_code 113 = .ok (.istore_n 3, 1) := by decide +kernel
theorem d_M_shared_114 : decode prog_5_method_40_code 114 = .ok (.iconst 0, 1) := by decide +kernel
theorem d_M_shared_115 : decode prog_5_method_40_code 115 = .ok (.istore 5, 2) := by decide +kernel
theorem d_M_shared_117 : decode prog_5_method_40_code 117 = .ok (.iload 5, 2) := by decide +kernel
theorem d_M_shared_119 : decode prog_5_method_40_code 119 = .ok (.iload_n 3, 1) := by decide +kernel
theorem d_M_shared_120 : decode prog_5_method_40_code 120 = .ok (.if_icmp .ge 46, 3) := by decide +kernel
theorem d_M_shared_123 : decode prog_5_method_40_code 123 = .ok (.aload_n 0, 1) := by decide +kernel
theorem d_M_shared_124 : decode prog_5_method_40_code 124 = .ok (.iload_n 2, 1) := by decide +kernel
theorem d_M_shared_125 : decode prog_5_method_40_code 125 = .ok (.iload 5, 2) := by decide +kernel
theorem d_M_shared_127 : decode prog_5_method_40_code 127 = .ok (.invokevirtual 70, 3) := by decide +kernel
theorem d_M_shared_130 : decode prog_5_method_40_code 130 = .ok (.istore 6, 2) := by decide +kernel
theorem d_M_shared_132 : decode prog_5_method_40_code 132 = .ok (.iload 4, 2) := by decide +kernel
theorem d_M_shared_134 : decode prog_5_method_40_code 134 = .ok (.aload_n 0, 1) := by decide +kernel
theorem d_M_shared_135 : decode prog_5_method_40_code 135 = .ok (.getfield 44, 3) := by decide +kernel
theorem d_M_shared_138 : decode prog_5_method_40_code 138 = .ok (.iload 6, 2) := by decide +kernel
theorem d_M_shared_140 : decode prog_5_method_40_code 140 = .ok (.baload, 1) := by decide +kernel
theorem d_M_shared_141 : decode prog_5_method_40_code 141 = .ok (.ifCond .eq 7, 3) := by decide +kernel
theorem d_M_shared_144 : decode prog_5_method_40_code 144 = .ok (.iconst 1, 1) := by decide +kernel
theorem d_M_shared_145 : decode prog_5_method_40_code 145 = .ok (.goto 4, 3) := by decide +kernel
theorem d_M_shared_148 : decode prog_5_method_40_code 148 = .ok (.iconst 0, 1) := by decide +kernel
theorem d_M_shared_149 : decode prog_5_method_40_code 149 = .ok (.iadd, 1) := by decide +kernel
theorem d_M_shared_150 : decode prog_5_method_40_code 150 = .ok (.istore 4, 2) := by decide +kernel
theorem d_M_shared_152 : decode prog_5_method_40_code 152 = .ok (.aload_n 0, 1) := by decide +kernel
theorem d_M_shared_153 : decode prog_5_method_40_code 153 = .ok (.getfield 44, 3) := by decide +kernel
theorem d_M_shared_156 : decode prog_5_method_40_code 156 = .ok (.iload 6, 2) := by decide +kernel
theorem d_M_shared_158 : decode prog_5_method_40_code 158 = .ok (.iconst 0, 1) := by decide +kernel
theorem d_M_shared_159 : decode prog_5_method_40_code 159 = .ok (.bastore, 1) := by decide +kernel
theorem d_M_shared_160 : decode prog_5_method_40_code 160 = .ok (.iinc 5 1, 3) := by decide +kernel
theorem d_M_shared_163 : decode prog_5_method_40_code 163 = .ok (.goto (-46), 3) := by decide +kernel
theorem d_M_shared_166 : decode prog_5_method_40_code 166 = .ok (.iload 4, 2) := by decide +kernel
theorem d_M_shared_168 : decode prog_5_method_40_code 168 = .ok (.ireturn, 1) := by decide +kernel
theorem d_M_same_0 : decode prog_5_method_41_code 0 = .ok (.aload_n 0, 1) := by decide +kernel
theorem d_M_same_1 : decode prog_5_method_41_code 1 = .ok (.aload_n 0, 1) := by decide +kernel
theorem d_M_same_2 : decode prog_5_method_41_code 2 = .ok (.iload_n 1, 1) := by decide +kernel
theorem d_M_same_3 : decode prog_5_method_41_code 3 = .ok (.invokevirtual 55, 3) := by decide +kernel
theorem d_M_same_6 : decode prog_5_method_41_code 6 = .ok (.ifCond .eq 15, 3) := by decide +kernel
theorem d_M_same_9 : decode prog_5_method_41_code 9 = .ok (.aload_n 0, 1) := by decide +kernel
theorem d_M_same_10 : decode prog_5_method_41_code 10 = .ok (.iload_n 2, 1) := by decide +kernel
theorem d_M_same_11 : decode prog_5_method_41_code 11 = .ok (.invokevirtual 55, 3) := by decide +kernel
theorem d_M_same_14 : decode prog_5_method_41_code 14 = .ok (.ifCond .eq 7, 3) := by decide +kernel
theorem d_M_same_17 : decode prog_5_method_41_code 17 = .ok (.iconst 0, 1) := by decide +kernel
theorem d_M_same_18 : decode prog_5_method_41_code 18 = .ok (.goto 4, 3) := by decide +kernel
theorem d_M_same_21 : decode prog_5_method_41_code 21 = .ok (.iconst 1, 1) := by decide +kernel
theorem d_M_same_22 : decode prog_5_method_41_code 22 = .ok (.putfield 48, 3) := by decide +kernel
theorem d_M_same_25 : decode prog_5_method_41_code 25 = .ok (.aload_n 0, 1) := by decide +kernel
theorem d_M_same_26 : decode prog_5_method_41_code 26 = .ok (.getfield 48, 3) := by decide +kernel
theorem d_M_same_29 : decode prog_5_method_41_code 29 = .ok (.ifCond .ne 22, 3) := by decide +kernel
theorem d_M_same_32 : decode prog_5_method_41_code 32 = .ok (.aload_n 0, 1) := by decide +kernel
theorem d_M_same_33 : decode prog_5_method_41_code 33 = .ok (.getfield 26, 3) := by decide +kernel
theorem d_M_same_36 : decode prog_5_method_41_code 36 = .ok (.iload_n 1, 1) := by decide +kernel
theorem d_M_same_37 : decode prog_5_method_41_code 37 = .ok (.iaload, 1) := by decide +kernel
theorem d_M_same_38 : decode prog_5_method_41_code 38 = .ok (.aload_n 0, 1) := by decide +kernel
theorem d_M_same_39 : decode prog_5_method_41_code 39 = .ok (.getfield 26, 3) := by decide +kernel
theorem d_M_same_42 : decode prog_5_method_41_code 42 = .ok (.iload_n 2, 1) := by decide +kernel
theorem d_M_same_43 : decode prog_5_method_41_code 43 = .ok (.iaload, 1) := by decide +kernel
theorem d_M_same_44 : decode prog_5_method_41_code 44 = .ok (.if_icmp .ne 7, 3) := by decide +kernel
theorem d_M_same_47 : decode prog_5_method_41_code 47 = .ok (.iconst 1, 1) := by decide +kernel
theorem d_M_same_48 : decode prog_5_method_41_code 48 = .ok (.goto 4, 3) := by decide +kernel
theorem d_M_same_51 : decode prog_5_method_41_code 51 = .ok (.iconst 0, 1) := by decide +kernel
theorem d_M_same_52 : decode prog_5_method_41_code 52 = .ok (.istore_n 3, 1) := by decide +kernel
theorem d_M_same_53 : decode prog_5_method_41_code 53 = .ok (.iconst 0, 1) := by decide +kernel
theorem d_M_same_54 : decode prog_5_method_41_code 54 = .ok (.istore 4, 2) := by decide +kernel
theorem d_M_same_56 : decode prog_5_method_41_code 56 = .ok (.iload_n 3, 1) := by decide +kernel
theorem d_M_same_57 : decode prog_5_method_41_code 57 = .ok (.ifCond .eq 51, 3) := by decide +kernel
theorem d_M_same_60 : decode prog_5_method_41_code 60 = .ok (.iload 4, 2) := by decide +kernel
theorem d_M_same_62 : decode prog_5_method_41_code 62 = .ok (.aload_n 0, 1) := by decide +kernel
theorem d_M_same_63 : decode prog_5_method_41_code 63 = .ok (.getfield 26, 3) := by decide +kernel
theorem d_M_same_66 : decode prog_5_method_41_code 66 = .ok (.iload_n 1, 1) := by decide +kernel
theorem d_M_same_67 : decode prog_5_method_41_code 67 = .ok (.iaload, 1) := by decide +kernel
theorem d_M_same_68 : decode prog_5_method_41_code 68 = .ok (.if_icmp .ge 40, 3) := by decide +kernel
theorem d_M_same_71 : decode prog_5_method_41_code 71 = .ok (.aload_n 0, 1) := by decide +kernel
theorem d_M_same_72 : decode prog_5_method_41_code 72 = .ok (.getfield 29, 3) := by decide +kernel
theorem d_M_same_75 : decode prog_5_method_41_code 75 = .ok (.iconst 4, 1) := by decide +kernel
theorem d_M_same_76 : decode prog_5_method_41_code 76 = .ok (.iload_n 1, 1) := by decide +kernel
theorem d_M_same_77 : decode prog_5_method_41_code 77 = .ok (.imul, 1) := by decide +kernel
theorem d_M_same_78 : decode prog_5_method_41_code 78 = .ok (.iload 4, 2) := by decide +kernel
theorem d_M_same_80 : decode prog_5_method_41_code 80 = .ok (.iadd, 1) := by decide +kernel
theorem d_M_same_81 : decode prog_5_method_41_code 81 = .ok (.iaload, 1) := by decide +kernel
theorem d_M_same_82 : decode prog_5_method_41_code 82 = .ok (.aload_n 0, 1) := by decide +kernel
theorem d_M_same_83 : decode prog_5_method_41_code 83 = .ok (.getfield 29, 3) := by decide +kernel
theorem d_M_same_86 : decode prog_5_method_41_code 86 = .ok (.iconst 4, 1) := by decide +kernel
theorem d_M_same_87 : decode prog_5_method_41_code 87 = .ok (.iload_n 2, 1) := by decide +kernel
theorem d_M_same_88 : decode prog_5_method_41_code 88 = .ok (.imul, 1) := by decide +kernel
theorem d_M_same_89 : decode prog_5_method_41_code 89 = .ok (.iload 4, 2) := by decide +kernel
theorem d_M_same_91 : decode prog_5_method_41_code 91 = .ok (.iadd, 1) := by decide +kernel
theorem d_M_same_92 : decode prog_5_method_41_code 92 = .ok (.iaload, 1) := by decide +kernel
theorem d_M_same_93 : decode prog_5_method_41_code 93 = .ok (.if_icmp .ne 7, 3) := by decide +kernel
theorem d_M_same_96 : decode prog_5_method_41_code 96 = .ok (.iconst 1, 1) := by decide +kernel
theorem d_M_same_97 : decode prog_5_method_41_code 97 = .ok (.goto 4, 3) := by decide +kernel
theorem d_M_same_100 : decode prog_5_method_41_code 100 = .ok (.iconst 0, 1) := by decide +kernel
theorem d_M_same_101 : decode prog_5_method_41_code 101 = .ok (.istore_n 3, 1) := by decide +kernel
theorem d_M_same_102 : decode prog_5_method_41_code 102 = .ok (.iinc 4 1, 3) := by decide +kernel
theorem d_M_same_105 : decode prog_5_method_41_code 105 = .ok (.goto (-49), 3) := by decide +kernel
theorem d_M_same_108 : decode prog_5_method_41_code 108 = .ok (.iconst 0, 1) := by decide +kernel
theorem d_M_same_109 : decode prog_5_method_41_code 109 = .ok (.istore 4, 2) := by decide +kernel
theorem d_M_same_111 : decode prog_5_method_41_code 111 = .ok (.iload_n 3, 1) := by decide +kernel
theorem d_M_same_112 : decode prog_5_method_41_code 112 = .ok (.ifCond .eq 43, 3) := by decide +kernel
theorem d_M_same_115 : decode prog_5_method_41_code 115 = .ok (.iload 4, 2) := by decide +kernel
theorem d_M_same_117 : decode prog_5_method_41_code 117 = .ok (.aload_n 0, 1) := by decide +kernel
theorem d_M_same_118 : decode prog_5_method_41_code 118 = .ok (.iload_n 1, 1) := by decide +kernel
theorem d_M_same_119 : decode prog_5_method_41_code 119 = .ok (.invokevirtual 117, 3) := by decide +kernel
theorem d_M_same_122 : decode prog_5_method_41_code 122 = .ok (.if_icmp .ge 33, 3) := by decide +kernel
theorem d_M_same_125 : decode prog_5_method_41_code 125 = .ok (.aload_n 0, 1) := by decide +kernel
theorem d_M_same_126 : decode prog_5_method_41_code 126 = .ok (.iload_n 1, 1) := by decide +kernel
theorem d_M_same_127 : decode prog_5_method_41_code 127 = .ok (.iload 4, 2) := by decide +kernel
theorem d_M_same_129 : decode prog_5_method_41_code 129 = .ok (.invokevirtual 128, 3) := by decide +kernel
theorem d_M_same_132 : decode prog_5_method_41_code 132 = .ok (.aload_n 0, 1) := by decide +kernel
theorem d_M_same_133 : decode prog_5_method_41_code 133 = .ok (.iload_n 2, 1) := by decide +kernel
theorem d_M_same_134 : decode prog_5_method_41_code 134 = .ok (.iload 4, 2) := by decide +kernel
theorem d_M_same_136 : decode prog_5_method_41_code 136 = .ok (.invokevirtual 128, 3) := by decide +kernel
theorem d_M_same_139 : decode prog_5_method_41_code 139 = .ok (.lcmp, 1) := by decide +kernel
theorem d_M_same_140 : decode prog_5_method_41_code 140 = .ok (.ifCond .ne 7, 3) := by decide +kernel
theorem d_M_same_143 : decode prog_5_method_41_code 143 = .ok (.iconst 1, 1) := by decide +kernel
theorem d_M_same_144 : decode prog_5_method_41_code 144 = .ok (.goto 4, 3) := by decide +kernel
theorem d_M_same_147 : decode prog_5_method_41_code 147 = .ok (.iconst 0, 1) := by decide +kernel
theorem d_M_same_148 : decode prog_5_method_41_code 148 = .ok (.istore_n 3, 1) := by decide +kernel
theorem d_M_same_149 : decode prog_5_method_41_code 149 = .ok (.iinc 4 1, 3) := by decide +kernel
theorem d_M_same_152 : decode prog_5_method_41_code 152 = .ok (.goto (-41), 3) := by decide +kernel
theorem d_M_same_155 : decode prog_5_method_41_code 155 = .ok (.iload_n 3, 1) := by decide +kernel
theorem d_M_same_156 : decode prog_5_method_41_code 156 = .ok (.ireturn, 1) := by decide +kernel
theorem d_M_runs_0 : decode prog_5_method_42_code 0 = .ok (.aload_n 0, 1) := by decide +kernel
theorem d_M_runs_1 : decode prog_5_method_42_code 1 = .ok (.aload_n 0, 1) := by decide +kernel
theorem d_M_runs_2 : decode prog_5_method_42_code 2 = .ok (.iload_n 1, 1) := by decide +kernel
theorem d_M_runs_3 : decode prog_5_method_42_code 3 = .ok (.invokevirtual 55, 3) := by decide +kernel
theorem d_M_runs_6 : decode prog_5_method_42_code 6 = .ok (.ifCond .eq 7, 3) := by decide +kernel
theorem d_M_runs_9 : decode prog_5_method_42_code 9 = .ok (.iconst 0, 1) := by decide +kernel
theorem d_M_runs_10 : decode prog_5_method_42_code 10 = .ok (.goto 4, 3) := by decide +kernel
theorem d_M_runs_13 : decode prog_5_method_42_code 13 = .ok (.iconst 1, 1) := by decide +kernel
theorem d_M_runs_14 : decode prog_5_method_42_code 14 = .ok (.putfield 48, 3) := by decide +kernel
theorem d_M_runs_17 : decode prog_5_method_42_code 17 = .ok (.aload_n 0, 1) := by decide +kernel
theorem d_M_runs_18 : decode prog_5_method_42_code 18 = .ok (.getfield 48, 3) := by decide +kernel
theorem d_M_runs_21 : decode prog_5_method_42_code 21 = .ok (.ifCond .le 5, 3) := by decide +kernel
theorem d_M_runs_24 : decode prog_5_method_42_code 24 = .ok (.iconst 0, 1) := by decide +kernel
theorem d_M_runs_25 : decode prog_5_method_42_code 25 = .ok (.ireturn, 1) := by decide +kernel
theorem d_M_runs_26 : decode prog_5_method_42_code 26 = .ok (.iconst 0, 1) := by decide +kernel
theorem d_M_runs_27 : decode prog_5_method_42_code 27 = .ok (.istore_n 2, 1) := by decide +kernel
theorem d_M_runs_28 : decode prog_5_method_42_code 28 = .ok (.aload_n 0, 1) := by decide +kernel
theorem d_M_runs_29 : decode prog_5_method_42_code 29 = .ok (.iload_n 1, 1) := by decide +kernel
theorem d_M_runs_30 : decode prog_5_method_42_code 30 = .ok (.invokevirtual 117, 3) := by decide +kernel
theorem d_M_runs_33 : decode prog_5_method_42_code 33 = .ok (.istore_n 3, 1) := by decide +kernel
theorem d_M_runs_34 : decode prog_5_method_42_code 34 = .ok (.iconst 0, 1) := by decide +kernel
theorem d_M_runs_35 : decode prog_5_method_42_code 35 = .ok (.istore 4, 2) := by decide +kernel
theorem d_M_runs_37 : decode prog_5_method_42_code 37 = .ok (.iload 4, 2) := by decide +kernel
theorem d_M_runs_39 : decode prog_5_method_42_code 39 = .ok (.iload_n 3, 1) := by decide +kernel
theorem d_M_runs_40 : decode prog_5_method_42_code 40 = .ok (.if_icmp .ge 43, 3) := by decide +kernel
theorem d_M_runs_43 : decode prog_5_method_42_code 43 = .ok (.iload_n 2, 1) := by decide +kernel
theorem d_M_runs_44 : decode prog_5_method_42_code 44 = .ok (.iload 4, 2) := by decide +kernel
theorem d_M_runs_46 : decode prog_5_method_42_code 46 = .ok (.ifCond .eq 24, 3) := by decide +kernel
theorem d_M_runs_49 : decode prog_5_method_42_code 49 = .ok (.aload_n 0, 1) := by decide +kernel
theorem d_M_runs_50 : decode prog_5_method_42_code 50 = .ok (.iload_n 1, 1) := by decide +kernel
theorem d_M_runs_51 : decode prog_5_method_42_code 51 = .ok (.iload 4, 2) := by decide +kernel
theorem d_M_runs_53 : decode prog_5_method_42_code 53 = .ok (.invokevirtual 70, 3) := by decide +kernel
theorem d_M_runs_56 : decode prog_5_method_42_code 56 = .ok (.aload_n 0, 1) := by decide +kernel
theorem d_M_runs_57 : decode prog_5_method_42_code 57 = .ok (.iload_n 1, 1) := by decide +kernel
theorem d_M_runs_58 : decode prog_5_method_42_code 58 = .ok (.iload 4, 2) := by decide +kernel
theorem d_M_runs_60 : decode prog_5_method_42_code 60 = .ok (.iconst 1, 1) := by decide +kernel
theorem d_M_runs_61 : decode prog_5_method_42_code 61 = .ok (.isub, 1) := by decide +kernel
theorem d_M_runs_62 : decode prog_5_method_42_code 62 = .ok (.invokevirtual 70, 3) := by decide +kernel
theorem d_M_runs_65 : decode prog_5_method_42_code 65 = .ok (.iconst 1, 1) := by decide +kernel
theorem d_M_runs_66 : decode prog_5_method_42_code 66 = .ok (.iadd, 1) := by decide +kernel
theorem d_M_runs_67 : decode prog_5_method_42_code 67 = .ok (.if_icmp .eq 7, 3) := by decide +kernel
theorem d_M_runs_70 : decode prog_5_method_42_code 70 = .ok (.iconst 1, 1) := by decide +kernel
theorem d_M_runs_71 : decode prog_5_method_42_code 71 = .ok (.goto 4, 3) := by decide +kernel
theorem d_M_runs_74 : decode prog_5_method_42_code 74 = .ok (.iconst 0, 1) := by decide +kernel
theorem d_M_runs_75 : decode prog_5_method_42_code 75 = .ok (.iadd, 1) := by decide +kernel
theorem d_M_runs_76 : decode prog_5_method_42_code 76 = .ok (.istore_n 2, 1) := by decide +kernel
theorem d_M_runs_77 : decode prog_5_method_42_code 77 = .ok (.iinc 4 1, 3) := by decide +kernel
theorem d_M_runs_80 : decode prog_5_method_42_code 80 = .ok (.goto (-43), 3) := by decide +kernel
theorem d_M_runs_83 : decode prog_5_method_42_code 83 = .ok (.iload_n 2, 1) := by decide +kernel
theorem d_M_runs_84 : decode prog_5_method_42_code 84 = .ok (.ireturn, 1) := by decide +kernel
theorem d_M_told_0 : decode prog_5_method_44_code 0 = .ok (.aload_n 0, 1) := by decide +kernel
theorem d_M_told_1 : decode prog_5_method_44_code 1 = .ok (.aload_n 0, 1) := by decide +kernel
theorem d_M_told_2 : decode prog_5_method_44_code 2 = .ok (.iload_n 1, 1) := by decide +kernel
theorem d_M_told_3 : decode prog_5_method_44_code 3 = .ok (.invokevirtual 55, 3) := by decide +kernel
theorem d_M_told_6 : decode prog_5_method_44_code 6 = .ok (.iload_n 2, 1) := by decide +kernel
theorem d_M_told_7 : decode prog_5_method_44_code 7 = .ok (.ifCond .lt 13, 3) := by decide +kernel
theorem d_M_told_10 : decode prog_5_method_44_code 10 = .ok (.iload_n 2, 1) := by decide +kernel
theorem d_M_told_11 : decode prog_5_method_44_code 11 = .ok (.bipush 7, 2) := by decide +kernel
theorem d_M_told_13 : decode prog_5_method_44_code 13 = .ok (.if_icmp .ge 7, 3) := by decide +kernel
theorem d_M_told_16 : decode prog_5_method_44_code 16 = .ok (.iconst 1, 1) := by decide +kernel
theorem d_M_told_17 : decode prog_5_method_44_code 17 = .ok (.goto 4, 3) := by decide +kernel
theorem d_M_told_20 : decode prog_5_method_44_code 20 = .ok (.iconst 0, 1) := by decide +kernel
theorem d_M_told_21 : decode prog_5_method_44_code 21 = .ok (.invokevirtual 90, 3) := by decide +kernel
theorem d_M_told_24 : decode prog_5_method_44_code 24 = .ok (.ifCond .ne 5, 3) := by decide +kernel
theorem d_M_told_27 : decode prog_5_method_44_code 27 = .ok (.iconst 0, 1) := by decide +kernel
theorem d_M_told_28 : decode prog_5_method_44_code 28 = .ok (.ireturn, 1) := by decide +kernel
theorem d_M_told_29 : decode prog_5_method_44_code 29 = .ok (.iload_n 2, 1) := by decide +kernel
theorem d_M_told_30 : decode prog_5_method_44_code 30 = .ok (.tableswitch 75 0 4 #[34, 41, 48, 55, 61], 34) := by decide +kernel
theorem d_M_told_64 : decode prog_5_method_44_code 64 = .ok (.aload_n 0, 1) := by decide +kernel
theorem d_M_told_65 : decode prog_5_method_44_code 65 = .ok (.getfield 20, 3) := by decide +kernel
theorem d_M_told_68 : decode prog_5_method_44_code 68 = .ok (.iload_n 1, 1) := by decide +kernel
theorem d_M_told_69 : decode prog_5_method_44_code 69 = .ok (.iaload, 1) := by decide +kernel
theorem d_M_told_70 : decode prog_5_method_44_code 70 = .ok (.ireturn, 1) := by decide +kernel
theorem d_M_told_71 : decode prog_5_method_44_code 71 = .ok (.aload_n 0, 1) := by decide +kernel
theorem d_M_told_72 : decode prog_5_method_44_code 72 = .ok (.getfield 23, 3) := by decide +kernel
theorem d_M_told_75 : decode prog_5_method_44_code 75 = .ok (.iload_n 1, 1) := by decide +kernel
theorem d_M_told_76 : decode prog_5_method_44_code 76 = .ok (.iaload, 1) := by decide +kernel
theorem d_M_told_77 : decode prog_5_method_44_code 77 = .ok (.ireturn, 1) := by decide +kernel
theorem d_M_told_78 : decode prog_5_method_44_code 78 = .ok (.aload_n 0, 1) := by decide +kernel
theorem d_M_told_79 : decode prog_5_method_44_code 79 = .ok (.getfield 26, 3) := by decide +kernel
theorem d_M_told_82 : decode prog_5_method_44_code 82 = .ok (.iload_n 1, 1) := by decide +kernel
theorem d_M_told_83 : decode prog_5_method_44_code 83 = .ok (.iaload, 1) := by decide +kernel
theorem d_M_told_84 : decode prog_5_method_44_code 84 = .ok (.ireturn, 1) := by decide +kernel
theorem d_M_told_85 : decode prog_5_method_44_code 85 = .ok (.aload_n 0, 1) := by decide +kernel
theorem d_M_told_86 : decode prog_5_method_44_code 86 = .ok (.iload_n 1, 1) := by decide +kernel
theorem d_M_told_87 : decode prog_5_method_44_code 87 = .ok (.invokevirtual 117, 3) := by decide +kernel
theorem d_M_told_90 : decode prog_5_method_44_code 90 = .ok (.ireturn, 1) := by decide +kernel
theorem d_M_told_91 : decode prog_5_method_44_code 91 = .ok (.aload_n 0, 1) := by decide +kernel
theorem d_M_told_92 : decode prog_5_method_44_code 92 = .ok (.iload_n 1, 1) := by decide +kernel
theorem d_M_told_93 : decode prog_5_method_44_code 93 = .ok (.invokevirtual 135, 3) := by decide +kernel
theorem d_M_told_96 : decode prog_5_method_44_code 96 = .ok (.ifCond .eq 7, 3) := by decide +kernel
theorem d_M_told_99 : decode prog_5_method_44_code 99 = .ok (.iconst 1, 1) := by decide +kernel
theorem d_M_told_100 : decode prog_5_method_44_code 100 = .ok (.goto 4, 3) := by decide +kernel
theorem d_M_told_103 : decode prog_5_method_44_code 103 = .ok (.iconst 0, 1) := by decide +kernel
theorem d_M_told_104 : decode prog_5_method_44_code 104 = .ok (.ireturn, 1) := by decide +kernel
theorem d_M_told_105 : decode prog_5_method_44_code 105 = .ok (.aload_n 0, 1) := by decide +kernel
theorem d_M_told_106 : decode prog_5_method_44_code 106 = .ok (.iload_n 1, 1) := by decide +kernel
theorem d_M_told_107 : decode prog_5_method_44_code 107 = .ok (.iload_n 2, 1) := by decide +kernel
theorem d_M_told_108 : decode prog_5_method_44_code 108 = .ok (.bipush 6, 2) := by decide +kernel
theorem d_M_told_110 : decode prog_5_method_44_code 110 = .ok (.if_icmp .ne 7, 3) := by decide +kernel
theorem d_M_told_113 : decode prog_5_method_44_code 113 = .ok (.iconst 1, 1) := by decide +kernel
theorem d_M_told_114 : decode prog_5_method_44_code 114 = .ok (.goto 4, 3) := by decide +kernel
theorem d_M_told_117 : decode prog_5_method_44_code 117 = .ok (.iconst 0, 1) := by decide +kernel
theorem d_M_told_118 : decode prog_5_method_44_code 118 = .ok (.invokevirtual 162, 3) := by decide +kernel
theorem d_M_told_121 : decode prog_5_method_44_code 121 = .ok (.ireturn, 1) := by decide +kernel
theorem d_M_end_0 : decode prog_5_method_43_code 0 = .ok (.iconst (-1), 1) := by decide +kernel
theorem d_M_end_1 : decode prog_5_method_43_code 1 = .ok (.istore_n 3, 1) := by decide +kernel
theorem d_M_end_2 : decode prog_5_method_43_code 2 = .ok (.aload_n 0, 1) := by decide +kernel
theorem d_M_end_3 : decode prog_5_method_43_code 3 = .ok (.iload_n 1, 1) := by decide +kernel
theorem d_M_end_4 : decode prog_5_method_43_code 4 = .ok (.invokevirtual 117, 3) := by decide +kernel
theorem d_M_end_7 : decode prog_5_method_43_code 7 = .ok (.istore 4, 2) := by decide +kernel
theorem d_M_end_9 : decode prog_5_method_43_code 9 = .ok (.iconst 0, 1) := by decide +kernel
theorem d_M_end_10 : decode prog_5_method_43_code 10 = .ok (.istore 5, 2) := by decide +kernel
theorem d_M_end_12 : decode prog_5_method_43_code 12 = .ok (.iload 5, 2) := by decide +kernel
theorem d_M_end_14 : decode prog_5_method_43_code 14 = .ok (.iload 4, 2) := by decide +kernel
theorem d_M_end_16 : decode prog_5_method_43_code 16 = .ok (.if_icmp .ge 49, 3) := by decide +kernel
theorem d_M_end_19 : decode prog_5_method_43_code 19 = .ok (.aload_n 0, 1) := by decide +kernel
theorem d_M_end_20 : decode prog_5_method_43_code 20 = .ok (.iload_n 1, 1) := by decide +kernel
theorem d_M_end_21 : decode prog_5_method_43_code 21 = .ok (.iload 5, 2) := by decide +kernel
theorem d_M_end_23 : decode prog_5_method_43_code 23 = .ok (.invokevirtual 70, 3) := by decide +kernel
theorem d_M_end_26 : decode prog_5_method_43_code 26 = .ok (.istore 6, 2) := by decide +kernel
theorem d_M_end_28 : decode prog_5_method_43_code 28 = .ok (.iload_n 3, 1) := by decide +kernel
theorem d_M_end_29 : decode prog_5_method_43_code 29 = .ok (.iconst (-1), 1) := by decide +kernel
theorem d_M_end_30 : decode prog_5_method_43_code 30 = .ok (.if_icmp .eq 22, 3) := by decide +kernel
theorem d_M_end_33 : decode prog_5_method_43_code 33 = .ok (.iload_n 2, 1) := by decide +kernel
theorem d_M_end_34 : decode prog_5_method_43_code 34 = .ok (.ifCond .eq 12, 3) := by decide +kernel
theorem d_M_end_37 : decode prog_5_method_43_code 37 = .ok (.iload 6, 2) := by decide +kernel
theorem d_M_end_39 : decode prog_5_method_43_code 39 = .ok (.iload_n 3, 1) := by decide +kernel
theorem d_M_end_40 : decode prog_5_method_43_code 40 = .ok (.if_icmp .le 17, 3) := by decide +kernel
theorem d_M_end_43 : decode prog_5_method_43_code 43 = .ok (.goto 9, 3) := by decide +kernel
theorem d_M_end_46 : decode prog_5_method_43_code 46 = .ok (.iload 6, 2) := by decide +kernel
theorem d_M_end_48 : decode prog_5_method_43_code 48 = .ok (.iload_n 3, 1) := by decide +kernel
theorem d_M_end_49 : decode prog_5_method_43_code 49 = .ok (.if_icmp .ge 8, 3) := by decide +kernel
theorem d_M_end_52 : decode prog_5_method_43_code 52 = .ok (.iload 6, 2) := by decide +kernel
theorem d_M_end_54 : decode prog_5_method_43_code 54 = .ok (.goto 4, 3) := by decide +kernel
theorem d_M_end_57 : decode prog_5_method_43_code 57 = .ok (.iload_n 3, 1) := by decide +kernel
theorem d_M_end_58 : decode prog_5_method_43_code 58 = .ok (.istore_n 3, 1) := by decide +kernel
theorem d_M_end_59 : decode prog_5_method_43_code 59 = .ok (.iinc 5 1, 3) := by decide +kernel
theorem d_M_end_62 : decode prog_5_method_43_code 62 = .ok (.goto (-50), 3) := by decide +kernel
theorem d_M_end_65 : decode prog_5_method_43_code 65 = .ok (.iload_n 3, 1) := by decide +kernel
theorem d_M_end_66 : decode prog_5_method_43_code 66 = .ok (.ireturn, 1) := by decide +kernel
theorem d_M_axis_0 : decode prog_5_method_45_code 0 = .ok (.aload_n 0, 1) := by decide +kernel
theorem d_M_axis_1 : decode prog_5_method_45_code 1 = .ok (.aload_n 0, 1) := by decide +kernel
theorem d_M_axis_2 : decode prog_5_method_45_code 2 = .ok (.iload_n 1, 1) := by decide +kernel
theorem d_M_axis_3 : decode prog_5_method_45_code 3 = .ok (.iload_n 2, 1) := by decide +kernel
theorem d_M_axis_4 : decode prog_5_method_45_code 4 = .ok (.invokevirtual 105, 3) := by decide +kernel
theorem d_M_axis_7 : decode prog_5_method_45_code 7 = .ok (.iload_n 3, 1) := by decide +kernel
theorem d_M_axis_8 : decode prog_5_method_45_code 8 = .ok (.ifCond .eq 8, 3) := by decide +kernel
theorem d_M_axis_11 : decode prog_5_method_45_code 11 = .ok (.iload_n 3, 1) := by decide +kernel
theorem d_M_axis_12 : decode prog_5_method_45_code 12 = .ok (.iconst 1, 1) := by decide +kernel
theorem d_M_axis_13 : decode prog_5_method_45_code 13 = .ok (.if_icmp .ne 7, 3) := by decide +kernel
theorem d_M_axis_16 : decode prog_5_method_45_code 16 = .ok (.iconst 1, 1) := by decide +kernel
theorem d_M_axis_17 : decode prog_5_method_45_code 17 = .ok (.goto 4, 3) := by decide +kernel
theorem d_M_axis_20 : decode prog_5_method_45_code 20 = .ok (.iconst 0, 1) := by decide +kernel
theorem d_M_axis_21 : decode prog_5_method_45_code 21 = .ok (.invokevirtual 90, 3) := by decide +kernel
theorem d_M_axis_24 : decode prog_5_method_45_code 24 = .ok (.ifCond .ne 5, 3) := by decide +kernel
theorem d_M_axis_27 : decode prog_5_method_45_code 27 = .ok (.iconst 0, 1) := by decide +kernel
theorem d_M_axis_28 : decode prog_5_method_45_code 28 = .ok (.ireturn, 1) := by decide +kernel
theorem d_M_axis_29 : decode prog_5_method_45_code 29 = .ok (.iload_n 3, 1) := by decide +kernel
theorem d_M_axis_30 : decode prog_5_method_45_code 30 = .ok (.ifCond .ne 16, 3) := by decide +kernel
theorem d_M_axis_33 : decode prog_5_method_45_code 33 = .ok (.aload_n 0, 1) := by decide +kernel
theorem d_M_axis_34 : decode prog_5_method_45_code 34 = .ok (.getfield 29, 3) := by decide +kernel
theorem d_M_axis_37 : decode prog_5_method_45_code 37 = .ok (.iconst 4, 1) := by decide +kernel
theorem d_M_axis_38 : decode prog_5_method_45_code 38 = .ok (.iload_n 1, 1) := by decide +kernel
theorem d_M_axis_39 : decode prog_5_method_45_code 39 = .ok (.imul, 1) := by decide +kernel
theorem d_M_axis_40 : decode prog_5_method_45_code 40 = .ok (.iload_n 2, 1) := by decide +kernel
theorem d_M_axis_41 : decode prog_5_method_45_code 41 = .ok (.iadd, 1) := by decide +kernel
theorem d_M_axis_42 : decode prog_5_method_45_code 42 = .ok (.iaload, 1) := by decide +kernel
theorem d_M_axis_43 : decode prog_5_method_45_code 43 = .ok (.goto 13, 3) := by decide +kernel
theorem d_M_axis_46 : decode prog_5_method_45_code 46 = .ok (.aload_n 0, 1) := by decide +kernel
theorem d_M_axis_47 : decode prog_5_method_45_code 47 = .ok (.getfield 32, 3) := by decide +kernel
theorem d_M_axis_50 : decode prog_5_method_45_code 50 = .ok (.iconst 4, 1) := by decide +kernel
theorem d_M_axis_51 : decode prog_5_method_45_code 51 = .ok (.iload_n 1, 1) := by decide +kernel
theorem d_M_axis_52 : decode prog_5_method_45_code 52 = .ok (.imul, 1) := by decide +kernel
theorem d_M_axis_53 : decode prog_5_method_45_code 53 = .ok (.iload_n 2, 1) := by decide +kernel
theorem d_M_axis_54 : decode prog_5_method_45_code 54 = .ok (.iadd, 1) := by decide +kernel
theorem d_M_axis_55 : decode prog_5_method_45_code 55 = .ok (.iaload, 1) := by decide +kernel
theorem d_M_axis_56 : decode prog_5_method_45_code 56 = .ok (.ireturn, 1) := by decide +kernel
theorem d_M_stored_0 : decode prog_5_method_46_code 0 = .ok (.aload_n 0, 1) := by decide +kernel
theorem d_M_stored_1 : decode prog_5_method_46_code 1 = .ok (.iload_n 1, 1) := by decide +kernel
theorem d_M_stored_2 : decode prog_5_method_46_code 2 = .ok (.ifCond .lt 15, 3) := by decide +kernel
theorem d_M_stored_5 : decode prog_5_method_46_code 5 = .ok (.iload_n 1, 1) := by decide +kernel
theorem d_M_stored_6 : decode prog_5_method_46_code 6 = .ok (.aload_n 0, 1) := by decide +kernel
theorem d_M_stored_7 : decode prog_5_method_46_code 7 = .ok (.getfield 84, 3) := by decide +kernel
theorem d_M_stored_10 : decode prog_5_method_46_code 10 = .ok (.if_icmp .ge 7, 3) := by decide +kernel
theorem d_M_stored_13 : decode prog_5_method_46_code 13 = .ok (.iconst 1, 1) := by decide +kernel
theorem d_M_stored_14 : decode prog_5_method_46_code 14 = .ok (.goto 4, 3) := by decide +kernel
theorem d_M_stored_17 : decode prog_5_method_46_code 17 = .ok (.iconst 0, 1) := by decide +kernel
theorem d_M_stored_18 : decode prog_5_method_46_code 18 = .ok (.iload_n 2, 1) := by decide +kernel
theorem d_M_stored_19 : decode prog_5_method_46_code 19 = .ok (.ifCond .lt 12, 3) := by decide +kernel
theorem d_M_stored_22 : decode prog_5_method_46_code 22 = .ok (.iload_n 2, 1) := by decide +kernel
theorem d_M_stored_23 : decode prog_5_method_46_code 23 = .ok (.iconst 3, 1) := by decide +kernel
theorem d_M_stored_24 : decode prog_5_method_46_code 24 = .ok (.if_icmp .ge 7, 3) := by decide +kernel
theorem d_M_stored_27 : decode prog_5_method_46_code 27 = .ok (.iconst 1, 1) := by decide +kernel
theorem d_M_stored_28 : decode prog_5_method_46_code 28 = .ok (.goto 4, 3) := by decide +kernel
theorem d_M_stored_31 : decode prog_5_method_46_code 31 = .ok (.iconst 0, 1) := by decide +kernel
theorem d_M_stored_32 : decode prog_5_method_46_code 32 = .ok (.invokevirtual 90, 3) := by decide +kernel
theorem d_M_stored_35 : decode prog_5_method_46_code 35 = .ok (.ifCond .ne 5, 3) := by decide +kernel
theorem d_M_stored_38 : decode prog_5_method_46_code 38 = .ok (.iconst 0, 1) := by decide +kernel
theorem d_M_stored_39 : decode prog_5_method_46_code 39 = .ok (.ireturn, 1) := by decide +kernel
theorem d_M_stored_40 : decode prog_5_method_46_code 40 = .ok (.iconst 0, 1) := by decide +kernel
theorem d_M_stored_41 : decode prog_5_method_46_code 41 = .ok (.istore_n 3, 1) := by decide +kernel
theorem d_M_stored_42 : decode prog_5_method_46_code 42 = .ok (.iconst 0, 1) := by decide +kernel
theorem d_M_stored_43 : decode prog_5_method_46_code 43 = .ok (.istore 4, 2) := by decide +kernel
theorem d_M_stored_45 : decode prog_5_method_46_code 45 = .ok (.iload 4, 2) := by decide +kernel
theorem d_M_stored_47 : decode prog_5_method_46_code 47 = .ok (.aload_n 0, 1) := by decide +kernel
theorem d_M_stored_48 : decode prog_5_method_46_code 48 = .ok (.getfield 52, 3) := by decide +kernel
theorem d_M_stored_51 : decode prog_5_method_46_code 51 = .ok (.if_icmp .ge 28, 3) := by decide +kernel
theorem d_M_stored_54 : decode prog_5_method_46_code 54 = .ok (.iload_n 3, 1) := by decide +kernel
theorem d_M_stored_55 : decode prog_5_method_46_code 55 = .ok (.aload_n 0, 1) := by decide +kernel
theorem d_M_stored_56 : decode prog_5_method_46_code 56 = .ok (.getfield 20, 3) := by decide +kernel
theorem d_M_stored_59 : decode prog_5_method_46_code 59 = .ok (.iload 4, 2) := by decide +kernel
theorem d_M_stored_61 : decode prog_5_method_46_code 61 = .ok (.iaload, 1) := by decide +kernel
theorem d_M_stored_62 : decode prog_5_method_46_code 62 = .ok (.iload_n 1, 1) := by decide +kernel
theorem d_M_stored_63 : decode prog_5_method_46_code 63 = .ok (.if_icmp .ne 7, 3) := by decide +kernel
theorem d_M_stored_66 : decode prog_5_method_46_code 66 = .ok (.iconst 1, 1) := by decide +kernel
theorem d_M_stored_67 : decode prog_5_method_46_code 67 = .ok (.goto 4, 3) := by decide +kernel
theorem d_M_stored_70 : decode prog_5_method_46_code 70 = .ok (.iconst 0, 1) := by decide +kernel
theorem d_M_stored_71 : decode prog_5_method_46_code 71 = .ok (.iadd, 1) := by decide +kernel
theorem d_M_stored_72 : decode prog_5_method_46_code 72 = .ok (.istore_n 3, 1) := by decide +kernel
theorem d_M_stored_73 : decode prog_5_method_46_code 73 = .ok (.iinc 4 1, 3) := by decide +kernel
theorem d_M_stored_76 : decode prog_5_method_46_code 76 = .ok (.goto (-31), 3) := by decide +kernel
theorem d_M_stored_79 : decode prog_5_method_46_code 79 = .ok (.iload_n 2, 1) := by decide +kernel
theorem d_M_stored_80 : decode prog_5_method_46_code 80 = .ok (.ifCond .ne 12, 3) := by decide +kernel
theorem d_M_stored_83 : decode prog_5_method_46_code 83 = .ok (.aload_n 0, 1) := by decide +kernel
theorem d_M_stored_84 : decode prog_5_method_46_code 84 = .ok (.getfield 7, 3) := by decide +kernel
theorem d_M_stored_87 : decode prog_5_method_46_code 87 = .ok (.iload_n 1, 1) := by decide +kernel
theorem d_M_stored_88 : decode prog_5_method_46_code 88 = .ok (.iaload, 1) := by decide +kernel
theorem d_M_stored_89 : decode prog_5_method_46_code 89 = .ok (.goto 18, 3) := by decide +kernel
theorem d_M_stored_92 : decode prog_5_method_46_code 92 = .ok (.iload_n 2, 1) := by decide +kernel
theorem d_M_stored_93 : decode prog_5_method_46_code 93 = .ok (.iconst 1, 1) := by decide +kernel
theorem d_M_stored_94 : decode prog_5_method_46_code 94 = .ok (.if_icmp .ne 12, 3) := by decide +kernel
theorem d_M_stored_97 : decode prog_5_method_46_code 97 = .ok (.aload_n 0, 1) := by decide +kernel
theorem d_M_stored_98 : decode prog_5_method_46_code 98 = .ok (.getfield 13, 3) := by decide +kernel
theorem d_M_stored_101 : decode prog_5_method_46_code 101 = .ok (.iload_n 1, 1) := by decide +kernel
theorem d_M_stored_102 : decode prog_5_method_46_code 102 = .ok (.iaload, 1) := by decide +kernel
theorem d_M_stored_103 : decode prog_5_method_46_code 103 = .ok (.goto 4, 3) := by decide +kernel
theorem d_M_stored_106 : decode prog_5_method_46_code 106 = .ok (.iload_n 3, 1) := by decide +kernel
theorem d_M_stored_107 : decode prog_5_method_46_code 107 = .ok (.ireturn, 1) := by decide +kernel
theorem d_M_count_0 : decode prog_5_method_47_code 0 = .ok (.aload_n 0, 1) := by decide +kernel
theorem d_M_count_1 : decode prog_5_method_47_code 1 = .ok (.iload_n 1, 1) := by decide +kernel
theorem d_M_count_2 : decode prog_5_method_47_code 2 = .ok (.ifCond .eq 8, 3) := by decide +kernel
theorem d_M_count_5 : decode prog_5_method_47_code 5 = .ok (.iload_n 1, 1) := by decide +kernel
theorem d_M_count_6 : decode prog_5_method_47_code 6 = .ok (.iconst 1, 1) := by decide +kernel
theorem d_M_count_7 : decode prog_5_method_47_code 7 = .ok (.if_icmp .ne 7, 3) := by decide +kernel
theorem d_M_count_10 : decode prog_5_method_47_code 10 = .ok (.iconst 0, 1) := by decide +kernel
theorem d_M_count_11 : decode prog_5_method_47_code 11 = .ok (.goto 4, 3) := by decide +kernel
theorem d_M_count_14 : decode prog_5_method_47_code 14 = .ok (.iconst 1, 1) := by decide +kernel
theorem d_M_count_15 : decode prog_5_method_47_code 15 = .ok (.putfield 48, 3) := by decide +kernel
theorem d_M_count_18 : decode prog_5_method_47_code 18 = .ok (.aload_n 0, 1) := by decide +kernel
theorem d_M_count_19 : decode prog_5_method_47_code 19 = .ok (.getfield 48, 3) := by decide +kernel
theorem d_M_count_22 : decode prog_5_method_47_code 22 = .ok (.ifCond .le 7, 3) := by decide +kernel
theorem d_M_count_25 : decode prog_5_method_47_code 25 = .ok (.iconst 0, 1) := by decide +kernel
theorem d_M_count_26 : decode prog_5_method_47_code 26 = .ok (.goto 18, 3) := by decide +kernel
theorem d_M_count_29 : decode prog_5_method_47_code 29 = .ok (.iload_n 1, 1) := by decide +kernel
theorem d_M_count_30 : decode prog_5_method_47_code 30 = .ok (.ifCond .ne 10, 3) := by decide +kernel
theorem d_M_count_33 : decode prog_5_method_47_code 33 = .ok (.aload_n 0, 1) := by decide +kernel
theorem d_M_count_34 : decode prog_5_method_47_code 34 = .ok (.getfield 84, 3) := by decide +kernel
theorem d_M_count_37 : decode prog_5_method_47_code 37 = .ok (.goto 7, 3) := by decide +kernel
theorem d_M_count_40 : decode prog_5_method_47_code 40 = .ok (.aload_n 0, 1) := by decide +kernel
theorem d_M_count_41 : decode prog_5_method_47_code 41 = .ok (.getfield 52, 3) := by decide +kernel
theorem d_M_count_44 : decode prog_5_method_47_code 44 = .ok (.ireturn, 1) := by decide +kernel
