/-! decode rows -/
theorem d_S_init_0 : decode prog_2_method_1_code 0 = .ok (.aload_n 0, 1) := by decide +kernel
theorem d_S_init_1 : decode prog_2_method_1_code 1 = .ok (.invokespecial 3, 3) := by decide +kernel
theorem d_S_init_4 : decode prog_2_method_1_code 4 = .ok (.aload_n 0, 1) := by decide +kernel
theorem d_S_init_5 : decode prog_2_method_1_code 5 = .ok (.iload_n 1, 1) := by decide +kernel
theorem d_S_init_6 : decode prog_2_method_1_code 6 = .ok (.putfield 9, 3) := by decide +kernel
theorem d_S_init_9 : decode prog_2_method_1_code 9 = .ok (.aload_n 0, 1) := by decide +kernel
theorem d_S_init_10 : decode prog_2_method_1_code 10 = .ok (.iload_n 2, 1) := by decide +kernel
theorem d_S_init_11 : decode prog_2_method_1_code 11 = .ok (.putfield 15, 3) := by decide +kernel
theorem d_S_init_14 : decode prog_2_method_1_code 14 = .ok (.aload_n 0, 1) := by decide +kernel
theorem d_S_init_15 : decode prog_2_method_1_code 15 = .ok (.iload_n 3, 1) := by decide +kernel
theorem d_S_init_16 : decode prog_2_method_1_code 16 = .ok (.newarray .long, 2) := by decide +kernel
theorem d_S_init_18 : decode prog_2_method_1_code 18 = .ok (.putfield 18, 3) := by decide +kernel
theorem d_S_init_21 : decode prog_2_method_1_code 21 = .ok (.aload_n 0, 1) := by decide +kernel
theorem d_S_init_22 : decode prog_2_method_1_code 22 = .ok (.iconst 0, 1) := by decide +kernel
theorem d_S_init_23 : decode prog_2_method_1_code 23 = .ok (.putfield 22, 3) := by decide +kernel
theorem d_S_init_26 : decode prog_2_method_1_code 26 = .ok (.return_, 1) := by decide +kernel
theorem d_V_init_0 : decode prog_3_method_1_code 0 = .ok (.aload_n 0, 1) := by decide +kernel
theorem d_V_init_1 : decode prog_3_method_1_code 1 = .ok (.invokespecial 3, 3) := by decide +kernel
theorem d_V_init_4 : decode prog_3_method_1_code 4 = .ok (.aload_n 0, 1) := by decide +kernel
theorem d_V_init_5 : decode prog_3_method_1_code 5 = .ok (.iconst 4, 1) := by decide +kernel
theorem d_V_init_6 : decode prog_3_method_1_code 6 = .ok (.newarray .int, 2) := by decide +kernel
theorem d_V_init_8 : decode prog_3_method_1_code 8 = .ok (.putfield 9, 3) := by decide +kernel
theorem d_V_init_11 : decode prog_3_method_1_code 11 = .ok (.aload_n 0, 1) := by decide +kernel
theorem d_V_init_12 : decode prog_3_method_1_code 12 = .ok (.iconst 4, 1) := by decide +kernel
theorem d_V_init_13 : decode prog_3_method_1_code 13 = .ok (.newarray .int, 2) := by decide +kernel
theorem d_V_init_15 : decode prog_3_method_1_code 15 = .ok (.putfield 15, 3) := by decide +kernel
theorem d_V_init_18 : decode prog_3_method_1_code 18 = .ok (.aload_n 0, 1) := by decide +kernel
theorem d_V_init_19 : decode prog_3_method_1_code 19 = .ok (.aload_n 1, 1) := by decide +kernel
theorem d_V_init_20 : decode prog_3_method_1_code 20 = .ok (.putfield 18, 3) := by decide +kernel
theorem d_V_init_23 : decode prog_3_method_1_code 23 = .ok (.aload_n 0, 1) := by decide +kernel
theorem d_V_init_24 : decode prog_3_method_1_code 24 = .ok (.iload_n 2, 1) := by decide +kernel
theorem d_V_init_25 : decode prog_3_method_1_code 25 = .ok (.putfield 22, 3) := by decide +kernel
theorem d_V_init_28 : decode prog_3_method_1_code 28 = .ok (.aload_n 0, 1) := by decide +kernel
theorem d_V_init_29 : decode prog_3_method_1_code 29 = .ok (.iconst 0, 1) := by decide +kernel
theorem d_V_init_30 : decode prog_3_method_1_code 30 = .ok (.putfield 26, 3) := by decide +kernel
theorem d_V_init_33 : decode prog_3_method_1_code 33 = .ok (.aload_n 0, 1) := by decide +kernel
theorem d_V_init_34 : decode prog_3_method_1_code 34 = .ok (.iconst 0, 1) := by decide +kernel
theorem d_V_init_35 : decode prog_3_method_1_code 35 = .ok (.putfield 29, 3) := by decide +kernel
theorem d_V_init_38 : decode prog_3_method_1_code 38 = .ok (.return_, 1) := by decide +kernel
theorem d_V_insert_0 : decode prog_3_method_3_code 0 = .ok (.aload_n 0, 1) := by decide +kernel
theorem d_V_insert_1 : decode prog_3_method_3_code 1 = .ok (.getfield 26, 3) := by decide +kernel
theorem d_V_insert_4 : decode prog_3_method_3_code 4 = .ok (.istore 4, 2) := by decide +kernel
theorem d_V_insert_6 : decode prog_3_method_3_code 6 = .ok (.iload 4, 2) := by decide +kernel
theorem d_V_insert_8 : decode prog_3_method_3_code 8 = .ok (.iload_n 1, 1) := by decide +kernel
theorem d_V_insert_9 : decode prog_3_method_3_code 9 = .ok (.if_icmp .le 41, 3) := by decide +kernel
theorem d_V_insert_12 : decode prog_3_method_3_code 12 = .ok (.aload_n 0, 1) := by decide +kernel
theorem d_V_insert_13 : decode prog_3_method_3_code 13 = .ok (.getfield 9, 3) := by decide +kernel
theorem d_V_insert_16 : decode prog_3_method_3_code 16 = .ok (.iload 4, 2) := by decide +kernel
theorem d_V_insert_18 : decode prog_3_method_3_code 18 = .ok (.aload_n 0, 1) := by decide +kernel
theorem d_V_insert_19 : decode prog_3_method_3_code 19 = .ok (.getfield 9, 3) := by decide +kernel
theorem d_V_insert_22 : decode prog_3_method_3_code 22 = .ok (.iload 4, 2) := by decide +kernel
theorem d_V_insert_24 : decode prog_3_method_3_code 24 = .ok (.iconst 1, 1) := by decide +kernel
theorem d_V_insert_25 : decode prog_3_method_3_code 25 = .ok (.isub, 1) := by decide +kernel
theorem d_V_insert_26 : decode prog_3_method_3_code 26 = .ok (.iaload, 1) := by decide +kernel
theorem d_V_insert_27 : decode prog_3_method_3_code 27 = .ok (.iastore, 1) := by decide +kernel
theorem d_V_insert_28 : decode prog_3_method_3_code 28 = .ok (.aload_n 0, 1) := by decide +kernel
theorem d_V_insert_29 : decode prog_3_method_3_code 29 = .ok (.getfield 15, 3) := by decide +kernel
theorem d_V_insert_32 : decode prog_3_method_3_code 32 = .ok (.iload 4, 2) := by decide +kernel
theorem d_V_insert_34 : decode prog_3_method_3_code 34 = .ok (.aload_n 0, 1) := by decide +kernel
theorem d_V_insert_35 : decode prog_3_method_3_code 35 = .ok (.getfield 15, 3) := by decide +kernel
theorem d_V_insert_38 : decode prog_3_method_3_code 38 = .ok (.iload 4, 2) := by decide +kernel
theorem d_V_insert_40 : decode prog_3_method_3_code 40 = .ok (.iconst 1, 1) := by decide +kernel
theorem d_V_insert_41 : decode prog_3_method_3_code 41 = .ok (.isub, 1) := by decide +kernel
theorem d_V_insert_42 : decode prog_3_method_3_code 42 = .ok (.iaload, 1) := by decide +kernel
theorem d_V_insert_43 : decode prog_3_method_3_code 43 = .ok (.iastore, 1) := by decide +kernel
theorem d_V_insert_44 : decode prog_3_method_3_code 44 = .ok (.iinc 4 (-1), 3) := by decide +kernel
theorem d_V_insert_47 : decode prog_3_method_3_code 47 = .ok (.goto (-41), 3) := by decide +kernel
theorem d_V_insert_50 : decode prog_3_method_3_code 50 = .ok (.aload_n 0, 1) := by decide +kernel
theorem d_V_insert_51 : decode prog_3_method_3_code 51 = .ok (.getfield 9, 3) := by decide +kernel
theorem d_V_insert_54 : decode prog_3_method_3_code 54 = .ok (.iload_n 1, 1) := by decide +kernel
theorem d_V_insert_55 : decode prog_3_method_3_code 55 = .ok (.iload_n 2, 1) := by decide +kernel
theorem d_V_insert_56 : decode prog_3_method_3_code 56 = .ok (.iastore, 1) := by decide +kernel
theorem d_V_insert_57 : decode prog_3_method_3_code 57 = .ok (.aload_n 0, 1) := by decide +kernel
theorem d_V_insert_58 : decode prog_3_method_3_code 58 = .ok (.getfield 15, 3) := by decide +kernel
theorem d_V_insert_61 : decode prog_3_method_3_code 61 = .ok (.iload_n 1, 1) := by decide +kernel
theorem d_V_insert_62 : decode prog_3_method_3_code 62 = .ok (.iload_n 3, 1) := by decide +kernel
theorem d_V_insert_63 : decode prog_3_method_3_code 63 = .ok (.iastore, 1) := by decide +kernel
theorem d_V_insert_64 : decode prog_3_method_3_code 64 = .ok (.aload_n 0, 1) := by decide +kernel
theorem d_V_insert_65 : decode prog_3_method_3_code 65 = .ok (.dup, 1) := by decide +kernel
theorem d_V_insert_66 : decode prog_3_method_3_code 66 = .ok (.getfield 26, 3) := by decide +kernel
theorem d_V_insert_69 : decode prog_3_method_3_code 69 = .ok (.iconst 1, 1) := by decide +kernel
theorem d_V_insert_70 : decode prog_3_method_3_code 70 = .ok (.iadd, 1) := by decide +kernel
theorem d_V_insert_71 : decode prog_3_method_3_code 71 = .ok (.putfield 26, 3) := by decide +kernel
theorem d_V_insert_74 : decode prog_3_method_3_code 74 = .ok (.return_, 1) := by decide +kernel
theorem d_V_settle_0 : decode prog_3_method_8_code 0 = .ok (.aload_n 0, 1) := by decide +kernel
theorem d_V_settle_1 : decode prog_3_method_8_code 1 = .ok (.aload_n 0, 1) := by decide +kernel
theorem d_V_settle_2 : decode prog_3_method_8_code 2 = .ok (.iconst (-1), 1) := by decide +kernel
theorem d_V_settle_3 : decode prog_3_method_8_code 3 = .ok (.invokevirtual 39, 3) := by decide +kernel
theorem d_V_settle_6 : decode prog_3_method_8_code 6 = .ok (.putfield 29, 3) := by decide +kernel
theorem d_V_settle_9 : decode prog_3_method_8_code 9 = .ok (.iconst 0, 1) := by decide +kernel
theorem d_V_settle_10 : decode prog_3_method_8_code 10 = .ok (.istore_n 1, 1) := by decide +kernel
theorem d_V_settle_11 : decode prog_3_method_8_code 11 = .ok (.iload_n 1, 1) := by decide +kernel
theorem d_V_settle_12 : decode prog_3_method_8_code 12 = .ok (.aload_n 0, 1) := by decide +kernel
theorem d_V_settle_13 : decode prog_3_method_8_code 13 = .ok (.getfield 26, 3) := by decide +kernel
theorem d_V_settle_16 : decode prog_3_method_8_code 16 = .ok (.if_icmp .ge 33, 3) := by decide +kernel
theorem d_V_settle_19 : decode prog_3_method_8_code 19 = .ok (.aload_n 0, 1) := by decide +kernel
theorem d_V_settle_20 : decode prog_3_method_8_code 20 = .ok (.getfield 29, 3) := by decide +kernel
theorem d_V_settle_23 : decode prog_3_method_8_code 23 = .ok (.ifCond .eq 13, 3) := by decide +kernel
theorem d_V_settle_26 : decode prog_3_method_8_code 26 = .ok (.aload_n 0, 1) := by decide +kernel
theorem d_V_settle_27 : decode prog_3_method_8_code 27 = .ok (.getfield 9, 3) := by decide +kernel
theorem d_V_settle_30 : decode prog_3_method_8_code 30 = .ok (.iload_n 1, 1) := by decide +kernel
theorem d_V_settle_31 : decode prog_3_method_8_code 31 = .ok (.iaload, 1) := by decide +kernel
theorem d_V_settle_32 : decode prog_3_method_8_code 32 = .ok (.iconst 2, 1) := by decide +kernel
theorem d_V_settle_33 : decode prog_3_method_8_code 33 = .ok (.if_icmp .ge 10, 3) := by decide +kernel
theorem d_V_settle_36 : decode prog_3_method_8_code 36 = .ok (.aload_n 0, 1) := by decide +kernel
theorem d_V_settle_37 : decode prog_3_method_8_code 37 = .ok (.getfield 15, 3) := by decide +kernel
theorem d_V_settle_40 : decode prog_3_method_8_code 40 = .ok (.iload_n 1, 1) := by decide +kernel
theorem d_V_settle_41 : decode prog_3_method_8_code 41 = .ok (.iconst 0, 1) := by decide +kernel
theorem d_V_settle_42 : decode prog_3_method_8_code 42 = .ok (.iastore, 1) := by decide +kernel
theorem d_V_settle_43 : decode prog_3_method_8_code 43 = .ok (.iinc 1 1, 3) := by decide +kernel
theorem d_V_settle_46 : decode prog_3_method_8_code 46 = .ok (.goto (-35), 3) := by decide +kernel
theorem d_V_settle_49 : decode prog_3_method_8_code 49 = .ok (.aload_n 0, 1) := by decide +kernel
theorem d_V_settle_50 : decode prog_3_method_8_code 50 = .ok (.getfield 29, 3) := by decide +kernel
theorem d_V_settle_53 : decode prog_3_method_8_code 53 = .ok (.ifCond .ne 8, 3) := by decide +kernel
theorem d_V_settle_56 : decode prog_3_method_8_code 56 = .ok (.aload_n 0, 1) := by decide +kernel
theorem d_V_settle_57 : decode prog_3_method_8_code 57 = .ok (.iconst 0, 1) := by decide +kernel
theorem d_V_settle_58 : decode prog_3_method_8_code 58 = .ok (.putfield 22, 3) := by decide +kernel
theorem d_V_settle_61 : decode prog_3_method_8_code 61 = .ok (.return_, 1) := by decide +kernel
theorem d_V_itemsBut_0 : decode prog_3_method_9_code 0 = .ok (.lconst 1, 1) := by decide +kernel
theorem d_V_itemsBut_1 : decode prog_3_method_9_code 1 = .ok (.lstore_n 2, 1) := by decide +kernel
theorem d_V_itemsBut_2 : decode prog_3_method_9_code 2 = .ok (.iconst 0, 1) := by decide +kernel
theorem d_V_itemsBut_3 : decode prog_3_method_9_code 3 = .ok (.istore 4, 2) := by decide +kernel
theorem d_V_itemsBut_5 : decode prog_3_method_9_code 5 = .ok (.iload 4, 2) := by decide +kernel
theorem d_V_itemsBut_7 : decode prog_3_method_9_code 7 = .ok (.aload_n 0, 1) := by decide +kernel
theorem d_V_itemsBut_8 : decode prog_3_method_9_code 8 = .ok (.getfield 26, 3) := by decide +kernel
theorem d_V_itemsBut_11 : decode prog_3_method_9_code 11 = .ok (.if_icmp .ge 32, 3) := by decide +kernel
theorem d_V_itemsBut_14 : decode prog_3_method_9_code 14 = .ok (.iload 4, 2) := by decide +kernel
theorem d_V_itemsBut_16 : decode prog_3_method_9_code 16 = .ok (.iload_n 1, 1) := by decide +kernel
theorem d_V_itemsBut_17 : decode prog_3_method_9_code 17 = .ok (.if_icmp .eq 20, 3) := by decide +kernel
theorem d_V_itemsBut_20 : decode prog_3_method_9_code 20 = .ok (.lload_n 2, 1) := by decide +kernel
theorem d_V_itemsBut_21 : decode prog_3_method_9_code 21 = .ok (.aload_n 0, 1) := by decide +kernel
theorem d_V_itemsBut_22 : decode prog_3_method_9_code 22 = .ok (.getfield 9, 3) := by decide +kernel
theorem d_V_itemsBut_25 : decode prog_3_method_9_code 25 = .ok (.iload 4, 2) := by decide +kernel
theorem d_V_itemsBut_27 : decode prog_3_method_9_code 27 = .ok (.iaload, 1) := by decide +kernel
theorem d_V_itemsBut_28 : decode prog_3_method_9_code 28 = .ok (.i2l, 1) := by decide +kernel
theorem d_V_itemsBut_29 : decode prog_3_method_9_code 29 = .ok (.lmul, 1) := by decide +kernel
theorem d_V_itemsBut_30 : decode prog_3_method_9_code 30 = .ok (.ldc2_w 45, 3) := by decide +kernel
theorem d_V_itemsBut_33 : decode prog_3_method_9_code 33 = .ok (.invokestatic 47, 3) := by decide +kernel
theorem d_V_itemsBut_36 : decode prog_3_method_9_code 36 = .ok (.lstore_n 2, 1) := by decide +kernel
theorem d_V_itemsBut_37 : decode prog_3_method_9_code 37 = .ok (.iinc 4 1, 3) := by decide +kernel
theorem d_V_itemsBut_40 : decode prog_3_method_9_code 40 = .ok (.goto (-35), 3) := by decide +kernel
theorem d_V_itemsBut_43 : decode prog_3_method_9_code 43 = .ok (.lload_n 2, 1) := by decide +kernel
theorem d_V_itemsBut_44 : decode prog_3_method_9_code 44 = .ok (.l2i, 1) := by decide +kernel
theorem d_V_itemsBut_45 : decode prog_3_method_9_code 45 = .ok (.ireturn, 1) := by decide +kernel
theorem d_V_twin_0 : decode prog_3_method_2_code 0 = .ok (.new 10, 3) := by decide +kernel
theorem d_V_twin_3 : decode prog_3_method_2_code 3 = .ok (.dup, 1) := by decide +kernel
theorem d_V_twin_4 : decode prog_3_method_2_code 4 = .ok (.aload_n 0, 1) := by decide +kernel
theorem d_V_twin_5 : decode prog_3_method_2_code 5 = .ok (.getfield 18, 3) := by decide +kernel
theorem d_V_twin_8 : decode prog_3_method_2_code 8 = .ok (.aload_n 0, 1) := by decide +kernel
theorem d_V_twin_9 : decode prog_3_method_2_code 9 = .ok (.getfield 22, 3) := by decide +kernel
theorem d_V_twin_12 : decode prog_3_method_2_code 12 = .ok (.invokespecial 32, 3) := by decide +kernel
theorem d_V_twin_15 : decode prog_3_method_2_code 15 = .ok (.astore_n 1, 1) := by decide +kernel
theorem d_V_twin_16 : decode prog_3_method_2_code 16 = .ok (.iconst 0, 1) := by decide +kernel
theorem d_V_twin_17 : decode prog_3_method_2_code 17 = .ok (.istore_n 2, 1) := by decide +kernel
theorem d_V_twin_18 : decode prog_3_method_2_code 18 = .ok (.iload_n 2, 1) := by decide +kernel
theorem d_V_twin_19 : decode prog_3_method_2_code 19 = .ok (.aload_n 0, 1) := by decide +kernel
theorem d_V_twin_20 : decode prog_3_method_2_code 20 = .ok (.getfield 26, 3) := by decide +kernel
theorem d_V_twin_23 : decode prog_3_method_2_code 23 = .ok (.if_icmp .ge 26, 3) := by decide +kernel
theorem d_V_twin_26 : decode prog_3_method_2_code 26 = .ok (.aload_n 1, 1) := by decide +kernel
theorem d_V_twin_27 : decode prog_3_method_2_code 27 = .ok (.iload_n 2, 1) := by decide +kernel
theorem d_V_twin_28 : decode prog_3_method_2_code 28 = .ok (.aload_n 0, 1) := by decide +kernel
theorem d_V_twin_29 : decode prog_3_method_2_code 29 = .ok (.getfield 9, 3) := by decide +kernel
theorem d_V_twin_32 : decode prog_3_method_2_code 32 = .ok (.iload_n 2, 1) := by decide +kernel
theorem d_V_twin_33 : decode prog_3_method_2_code 33 = .ok (.iaload, 1) := by decide +kernel
theorem d_V_twin_34 : decode prog_3_method_2_code 34 = .ok (.aload_n 0, 1) := by decide +kernel
theorem d_V_twin_35 : decode prog_3_method_2_code 35 = .ok (.getfield 15, 3) := by decide +kernel
theorem d_V_twin_38 : decode prog_3_method_2_code 38 = .ok (.iload_n 2, 1) := by decide +kernel
theorem d_V_twin_39 : decode prog_3_method_2_code 39 = .ok (.iaload, 1) := by decide +kernel
theorem d_V_twin_40 : decode prog_3_method_2_code 40 = .ok (.invokevirtual 35, 3) := by decide +kernel
theorem d_V_twin_43 : decode prog_3_method_2_code 43 = .ok (.iinc 2 1, 3) := by decide +kernel
theorem d_V_twin_46 : decode prog_3_method_2_code 46 = .ok (.goto (-28), 3) := by decide +kernel
theorem d_V_twin_49 : decode prog_3_method_2_code 49 = .ok (.aload_n 1, 1) := by decide +kernel
theorem d_V_twin_50 : decode prog_3_method_2_code 50 = .ok (.areturn, 1) := by decide +kernel
theorem d_V_remove_0 : decode prog_3_method_4_code 0 = .ok (.aload_n 0, 1) := by decide +kernel
theorem d_V_remove_1 : decode prog_3_method_4_code 1 = .ok (.dup, 1) := by decide +kernel
theorem d_V_remove_2 : decode prog_3_method_4_code 2 = .ok (.getfield 26, 3) := by decide +kernel
theorem d_V_remove_5 : decode prog_3_method_4_code 5 = .ok (.iconst 1, 1) := by decide +kernel
theorem d_V_remove_6 : decode prog_3_method_4_code 6 = .ok (.isub, 1) := by decide +kernel
theorem d_V_remove_7 : decode prog_3_method_4_code 7 = .ok (.putfield 26, 3) := by decide +kernel
theorem d_V_remove_10 : decode prog_3_method_4_code 10 = .ok (.iload_n 1, 1) := by decide +kernel
theorem d_V_remove_11 : decode prog_3_method_4_code 11 = .ok (.istore_n 2, 1) := by decide +kernel
theorem d_V_remove_12 : decode prog_3_method_4_code 12 = .ok (.iload_n 2, 1) := by decide +kernel
theorem d_V_remove_13 : decode prog_3_method_4_code 13 = .ok (.aload_n 0, 1) := by decide +kernel
theorem d_V_remove_14 : decode prog_3_method_4_code 14 = .ok (.getfield 26, 3) := by decide +kernel
theorem d_V_remove_17 : decode prog_3_method_4_code 17 = .ok (.if_icmp .ge 37, 3) := by decide +kernel
theorem d_V_remove_20 : decode prog_3_method_4_code 20 = .ok (.aload_n 0, 1) := by decide +kernel
theorem d_V_remove_21 : decode prog_3_method_4_code 21 = .ok (.getfield 9, 3) := by decide +kernel
theorem d_V_remove_24 : decode prog_3_method_4_code 24 = .ok (.iload_n 2, 1) := by decide +kernel
theorem d_V_remove_25 : decode prog_3_method_4_code 25 = .ok (.aload_n 0, 1) := by decide +kernel
theorem d_V_remove_26 : decode prog_3_method_4_code 26 = .ok (.getfield 9, 3) := by decide +kernel
theorem d_V_remove_29 : decode prog_3_method_4_code 29 = .ok (.iload_n 2, 1) := by decide +kernel
theorem d_V_remove_30 : decode prog_3_method_4_code 30 = .ok (.iconst 1, 1) := by decide +kernel
theorem d_V_remove_31 : decode prog_3_method_4_code 31 = .ok (.iadd, 1) := by decide +kernel
theorem d_V_remove_32 : decode prog_3_method_4_code 32 = .ok (.iaload, 1) := by decide +kernel
theorem d_V_remove_33 : decode prog_3_method_4_code 33 = .ok (.iastore, 1) := by decide +kernel
theorem d_V_remove_34 : decode prog_3_method_4_code 34 = .ok (.aload_n 0, 1) := by decide +kernel
theorem d_V_remove_35 : decode prog_3_method_4_code 35 = .ok (.getfield 15, 3) := by decide +kernel
theorem d_V_remove_38 : decode prog_3_method_4_code 38 = .ok (.iload_n 2, 1) := by decide +kernel
theorem d_V_remove_39 : decode prog_3_method_4_code 39 = .ok (.aload_n 0, 1) := by decide +kernel
theorem d_V_remove_40 : decode prog_3_method_4_code 40 = .ok (.getfield 15, 3) := by decide +kernel
theorem d_V_remove_43 : decode prog_3_method_4_code 43 = .ok (.iload_n 2, 1) := by decide +kernel
theorem d_V_remove_44 : decode prog_3_method_4_code 44 = .ok (.iconst 1, 1) := by decide +kernel
theorem d_V_remove_45 : decode prog_3_method_4_code 45 = .ok (.iadd, 1) := by decide +kernel
theorem d_V_remove_46 : decode prog_3_method_4_code 46 = .ok (.iaload, 1) := by decide +kernel
theorem d_V_remove_47 : decode prog_3_method_4_code 47 = .ok (.iastore, 1) := by decide +kernel
theorem d_V_remove_48 : decode prog_3_method_4_code 48 = .ok (.iinc 2 1, 3) := by decide +kernel
theorem d_V_remove_51 : decode prog_3_method_4_code 51 = .ok (.goto (-39), 3) := by decide +kernel
theorem d_V_remove_54 : decode prog_3_method_4_code 54 = .ok (.return_, 1) := by decide +kernel
theorem d_V_addUnlessNone_0 : decode prog_3_method_5_code 0 = .ok (.iload_n 1, 1) := by decide +kernel
theorem d_V_addUnlessNone_1 : decode prog_3_method_5_code 1 = .ok (.iconst (-1), 1) := by decide +kernel
theorem d_V_addUnlessNone_2 : decode prog_3_method_5_code 2 = .ok (.if_icmp .eq 13, 3) := by decide +kernel
theorem d_V_addUnlessNone_5 : decode prog_3_method_5_code 5 = .ok (.aload_n 0, 1) := by decide +kernel
theorem d_V_addUnlessNone_6 : decode prog_3_method_5_code 6 = .ok (.aload_n 0, 1) := by decide +kernel
theorem d_V_addUnlessNone_7 : decode prog_3_method_5_code 7 = .ok (.getfield 26, 3) := by decide +kernel
theorem d_V_addUnlessNone_10 : decode prog_3_method_5_code 10 = .ok (.iload_n 1, 1) := by decide +kernel
theorem d_V_addUnlessNone_11 : decode prog_3_method_5_code 11 = .ok (.iconst 0, 1) := by decide +kernel
theorem d_V_addUnlessNone_12 : decode prog_3_method_5_code 12 = .ok (.invokevirtual 35, 3) := by decide +kernel
theorem d_V_addUnlessNone_15 : decode prog_3_method_5_code 15 = .ok (.return_, 1) := by decide +kernel
theorem d_V_placeOf_0 : decode prog_3_method_13_code 0 = .ok (.aload_n 0, 1) := by decide +kernel
theorem d_V_placeOf_1 : decode prog_3_method_13_code 1 = .ok (.getfield 22, 3) := by decide +kernel
theorem d_V_placeOf_4 : decode prog_3_method_13_code 4 = .ok (.istore_n 2, 1) := by decide +kernel
theorem d_V_placeOf_5 : decode prog_3_method_13_code 5 = .ok (.iload_n 1, 1) := by decide +kernel
theorem d_V_placeOf_6 : decode prog_3_method_13_code 6 = .ok (.istore_n 3, 1) := by decide +kernel
theorem d_V_placeOf_7 : decode prog_3_method_13_code 7 = .ok (.aload_n 0, 1) := by decide +kernel
theorem d_V_placeOf_8 : decode prog_3_method_13_code 8 = .ok (.getfield 26, 3) := by decide +kernel
theorem d_V_placeOf_11 : decode prog_3_method_13_code 11 = .ok (.iconst 1, 1) := by decide +kernel
theorem d_V_placeOf_12 : decode prog_3_method_13_code 12 = .ok (.isub, 1) := by decide +kernel
theorem d_V_placeOf_13 : decode prog_3_method_13_code 13 = .ok (.istore 4, 2) := by decide +kernel
theorem d_V_placeOf_15 : decode prog_3_method_13_code 15 = .ok (.iload 4, 2) := by decide +kernel
theorem d_V_placeOf_17 : decode prog_3_method_13_code 17 = .ok (.ifCond .lt 44, 3) := by decide +kernel
theorem d_V_placeOf_20 : decode prog_3_method_13_code 20 = .ok (.aload_n 0, 1) := by decide +kernel
theorem d_V_placeOf_21 : decode prog_3_method_13_code 21 = .ok (.getfield 9, 3) := by decide +kernel
theorem d_V_placeOf_24 : decode prog_3_method_13_code 24 = .ok (.iload 4, 2) := by decide +kernel
theorem d_V_placeOf_26 : decode prog_3_method_13_code 26 = .ok (.iaload, 1) := by decide +kernel
theorem d_V_placeOf_27 : decode prog_3_method_13_code 27 = .ok (.istore 5, 2) := by decide +kernel
theorem d_V_placeOf_29 : decode prog_3_method_13_code 29 = .ok (.iload 5, 2) := by decide +kernel
theorem d_V_placeOf_31 : decode prog_3_method_13_code 31 = .ok (.iconst 1, 1) := by decide +kernel
theorem d_V_placeOf_32 : decode prog_3_method_13_code 32 = .ok (.if_icmp .le 23, 3) := by decide +kernel
theorem d_V_placeOf_35 : decode prog_3_method_13_code 35 = .ok (.iload_n 2, 1) := by decide +kernel
theorem d_V_placeOf_36 : decode prog_3_method_13_code 36 = .ok (.iload_n 3, 1) := by decide +kernel
theorem d_V_placeOf_37 : decode prog_3_method_13_code 37 = .ok (.iload 5, 2) := by decide +kernel
theorem d_V_placeOf_39 : decode prog_3_method_13_code 39 = .ok (.irem, 1) := by decide +kernel
theorem d_V_placeOf_40 : decode prog_3_method_13_code 40 = .ok (.aload_n 0, 1) := by decide +kernel
theorem d_V_placeOf_41 : decode prog_3_method_13_code 41 = .ok (.getfield 15, 3) := by decide +kernel
theorem d_V_placeOf_44 : decode prog_3_method_13_code 44 = .ok (.iload 4, 2) := by decide +kernel
theorem d_V_placeOf_46 : decode prog_3_method_13_code 46 = .ok (.iaload, 1) := by decide +kernel
theorem d_V_placeOf_47 : decode prog_3_method_13_code 47 = .ok (.imul, 1) := by decide +kernel
theorem d_V_placeOf_48 : decode prog_3_method_13_code 48 = .ok (.iadd, 1) := by decide +kernel
theorem d_V_placeOf_49 : decode prog_3_method_13_code 49 = .ok (.istore_n 2, 1) := by decide +kernel
theorem d_V_placeOf_50 : decode prog_3_method_13_code 50 = .ok (.iload_n 3, 1) := by decide +kernel
theorem d_V_placeOf_51 : decode prog_3_method_13_code 51 = .ok (.iload 5, 2) := by decide +kernel
theorem d_V_placeOf_53 : decode prog_3_method_13_code 53 = .ok (.idiv, 1) := by decide +kernel
theorem d_V_placeOf_54 : decode prog_3_method_13_code 54 = .ok (.istore_n 3, 1) := by decide +kernel
theorem d_V_placeOf_55 : decode prog_3_method_13_code 55 = .ok (.iinc 4 (-1), 3) := by decide +kernel
theorem d_V_placeOf_58 : decode prog_3_method_13_code 58 = .ok (.goto (-43), 3) := by decide +kernel
theorem d_V_placeOf_61 : decode prog_3_method_13_code 61 = .ok (.iload_n 2, 1) := by decide +kernel
theorem d_V_placeOf_62 : decode prog_3_method_13_code 62 = .ok (.ireturn, 1) := by decide +kernel
theorem d_V_addExtentsBut_0 : decode prog_3_method_6_code 0 = .ok (.iconst 0, 1) := by decide +kernel
theorem d_V_addExtentsBut_1 : decode prog_3_method_6_code 1 = .ok (.istore_n 3, 1) := by decide +kernel
theorem d_V_addExtentsBut_2 : decode prog_3_method_6_code 2 = .ok (.iload_n 3, 1) := by decide +kernel
theorem d_V_addExtentsBut_3 : decode prog_3_method_6_code 3 = .ok (.aload_n 1, 1) := by decide +kernel
theorem d_V_addExtentsBut_4 : decode prog_3_method_6_code 4 = .ok (.getfield 26, 3) := by decide +kernel
theorem d_V_addExtentsBut_7 : decode prog_3_method_6_code 7 = .ok (.if_icmp .ge 29, 3) := by decide +kernel
theorem d_V_addExtentsBut_10 : decode prog_3_method_6_code 10 = .ok (.iload_n 3, 1) := by decide +kernel
theorem d_V_addExtentsBut_11 : decode prog_3_method_6_code 11 = .ok (.iload_n 2, 1) := by decide +kernel
theorem d_V_addExtentsBut_12 : decode prog_3_method_6_code 12 = .ok (.if_icmp .eq 18, 3) := by decide +kernel
theorem d_V_addExtentsBut_15 : decode prog_3_method_6_code 15 = .ok (.aload_n 0, 1) := by decide +kernel
theorem d_V_addExtentsBut_16 : decode prog_3_method_6_code 16 = .ok (.aload_n 0, 1) := by decide +kernel
theorem d_V_addExtentsBut_17 : decode prog_3_method_6_code 17 = .ok (.getfield 26, 3) := by decide +kernel
theorem d_V_addExtentsBut_20 : decode prog_3_method_6_code 20 = .ok (.aload_n 1, 1) := by decide +kernel
theorem d_V_addExtentsBut_21 : decode prog_3_method_6_code 21 = .ok (.getfield 9, 3) := by decide +kernel
theorem d_V_addExtentsBut_24 : decode prog_3_method_6_code 24 = .ok (.iload_n 3, 1) := by decide +kernel
theorem d_V_addExtentsBut_25 : decode prog_3_method_6_code 25 = .ok (.iaload, 1) := by decide +kernel
theorem d_V_addExtentsBut_26 : decode prog_3_method_6_code 26 = .ok (.iconst 0, 1) := by decide +kernel
theorem d_V_addExtentsBut_27 : decode prog_3_method_6_code 27 = .ok (.invokevirtual 35, 3) := by decide +kernel
theorem d_V_addExtentsBut_30 : decode prog_3_method_6_code 30 = .ok (.iinc 3 1, 3) := by decide +kernel
theorem d_V_addExtentsBut_33 : decode prog_3_method_6_code 33 = .ok (.goto (-31), 3) := by decide +kernel
theorem d_V_addExtentsBut_36 : decode prog_3_method_6_code 36 = .ok (.return_, 1) := by decide +kernel
theorem d_V_lieInOrder_0 : decode prog_3_method_7_code 0 = .ok (.iconst 1, 1) := by decide +kernel
theorem d_V_lieInOrder_1 : decode prog_3_method_7_code 1 = .ok (.istore_n 1, 1) := by decide +kernel
theorem d_V_lieInOrder_2 : decode prog_3_method_7_code 2 = .ok (.aload_n 0, 1) := by decide +kernel
theorem d_V_lieInOrder_3 : decode prog_3_method_7_code 3 = .ok (.getfield 26, 3) := by decide +kernel
theorem d_V_lieInOrder_6 : decode prog_3_method_7_code 6 = .ok (.iconst 1, 1) := by decide +kernel
theorem d_V_lieInOrder_7 : decode prog_3_method_7_code 7 = .ok (.isub, 1) := by decide +kernel
theorem d_V_lieInOrder_8 : decode prog_3_method_7_code 8 = .ok (.istore_n 2, 1) := by decide +kernel
theorem d_V_lieInOrder_9 : decode prog_3_method_7_code 9 = .ok (.iload_n 2, 1) := by decide +kernel
theorem d_V_lieInOrder_10 : decode prog_3_method_7_code 10 = .ok (.ifCond .lt 25, 3) := by decide +kernel
theorem d_V_lieInOrder_13 : decode prog_3_method_7_code 13 = .ok (.aload_n 0, 1) := by decide +kernel
theorem d_V_lieInOrder_14 : decode prog_3_method_7_code 14 = .ok (.getfield 15, 3) := by decide +kernel
theorem d_V_lieInOrder_17 : decode prog_3_method_7_code 17 = .ok (.iload_n 2, 1) := by decide +kernel
theorem d_V_lieInOrder_18 : decode prog_3_method_7_code 18 = .ok (.iload_n 1, 1) := by decide +kernel
theorem d_V_lieInOrder_19 : decode prog_3_method_7_code 19 = .ok (.iastore, 1) := by decide +kernel
theorem d_V_lieInOrder_20 : decode prog_3_method_7_code 20 = .ok (.iload_n 1, 1) := by decide +kernel
theorem d_V_lieInOrder_21 : decode prog_3_method_7_code 21 = .ok (.aload_n 0, 1) := by decide +kernel
theorem d_V_lieInOrder_22 : decode prog_3_method_7_code 22 = .ok (.getfield 9, 3) := by decide +kernel
theorem d_V_lieInOrder_25 : decode prog_3_method_7_code 25 = .ok (.iload_n 2, 1) := by decide +kernel
theorem d_V_lieInOrder_26 : decode prog_3_method_7_code 26 = .ok (.iaload, 1) := by decide +kernel
theorem d_V_lieInOrder_27 : decode prog_3_method_7_code 27 = .ok (.imul, 1) := by decide +kernel
theorem d_V_lieInOrder_28 : decode prog_3_method_7_code 28 = .ok (.istore_n 1, 1) := by decide +kernel
theorem d_V_lieInOrder_29 : decode prog_3_method_7_code 29 = .ok (.iinc 2 (-1), 3) := by decide +kernel
theorem d_V_lieInOrder_32 : decode prog_3_method_7_code 32 = .ok (.goto (-23), 3) := by decide +kernel
theorem d_V_lieInOrder_35 : decode prog_3_method_7_code 35 = .ok (.return_, 1) := by decide +kernel
theorem d_S_lowestBits_0 : decode prog_2_method_2_code 0 = .ok (.aload_n 0, 1) := by decide +kernel
theorem d_S_lowestBits_1 : decode prog_2_method_2_code 1 = .ok (.getfield 15, 3) := by decide +kernel
theorem d_S_lowestBits_4 : decode prog_2_method_2_code 4 = .ok (.tableswitch 42 0 2 #[28, 33, 38], 28) := by decide +kernel
theorem d_S_lowestBits_32 : decode prog_2_method_2_code 32 = .ok (.lload_n 1, 1) := by decide +kernel
theorem d_S_lowestBits_33 : decode prog_2_method_2_code 33 = .ok (.l2i, 1) := by decide +kernel
theorem d_S_lowestBits_34 : decode prog_2_method_2_code 34 = .ok (.i2b, 1) := by decide +kernel
theorem d_S_lowestBits_35 : decode prog_2_method_2_code 35 = .ok (.i2l, 1) := by decide +kernel
theorem d_S_lowestBits_36 : decode prog_2_method_2_code 36 = .ok (.lreturn, 1) := by decide +kernel
theorem d_S_lowestBits_37 : decode prog_2_method_2_code 37 = .ok (.lload_n 1, 1) := by decide +kernel
theorem d_S_lowestBits_38 : decode prog_2_method_2_code 38 = .ok (.l2i, 1) := by decide +kernel
theorem d_S_lowestBits_39 : decode prog_2_method_2_code 39 = .ok (.i2s, 1) := by decide +kernel
theorem d_S_lowestBits_40 : decode prog_2_method_2_code 40 = .ok (.i2l, 1) := by decide +kernel
theorem d_S_lowestBits_41 : decode prog_2_method_2_code 41 = .ok (.lreturn, 1) := by decide +kernel
theorem d_S_lowestBits_42 : decode prog_2_method_2_code 42 = .ok (.lload_n 1, 1) := by decide +kernel
theorem d_S_lowestBits_43 : decode prog_2_method_2_code 43 = .ok (.l2i, 1) := by decide +kernel
theorem d_S_lowestBits_44 : decode prog_2_method_2_code 44 = .ok (.i2l, 1) := by decide +kernel
theorem d_S_lowestBits_45 : decode prog_2_method_2_code 45 = .ok (.lreturn, 1) := by decide +kernel
theorem d_S_lowestBits_46 : decode prog_2_method_2_code 46 = .ok (.lload_n 1, 1) := by decide +kernel
theorem d_S_lowestBits_47 : decode prog_2_method_2_code 47 = .ok (.lreturn, 1) := by decide +kernel
theorem d_V_isFixed_0 : decode prog_3_method_10_code 0 = .ok (.iconst 0, 1) := by decide +kernel
theorem d_V_isFixed_1 : decode prog_3_method_10_code 1 = .ok (.istore_n 1, 1) := by decide +kernel
theorem d_V_isFixed_2 : decode prog_3_method_10_code 2 = .ok (.iload_n 1, 1) := by decide +kernel
theorem d_V_isFixed_3 : decode prog_3_method_10_code 3 = .ok (.aload_n 0, 1) := by decide +kernel
theorem d_V_isFixed_4 : decode prog_3_method_10_code 4 = .ok (.getfield 26, 3) := by decide +kernel
theorem d_V_isFixed_7 : decode prog_3_method_10_code 7 = .ok (.if_icmp .ge 30, 3) := by decide +kernel
theorem d_V_isFixed_10 : decode prog_3_method_10_code 10 = .ok (.aload_n 0, 1) := by decide +kernel
theorem d_V_isFixed_11 : decode prog_3_method_10_code 11 = .ok (.getfield 15, 3) := by decide +kernel
theorem d_V_isFixed_14 : decode prog_3_method_10_code 14 = .ok (.iload_n 1, 1) := by decide +kernel
theorem d_V_isFixed_15 : decode prog_3_method_10_code 15 = .ok (.iaload, 1) := by decide +kernel
theorem d_V_isFixed_16 : decode prog_3_method_10_code 16 = .ok (.ifCond .ne 15, 3) := by decide +kernel
theorem d_V_isFixed_19 : decode prog_3_method_10_code 19 = .ok (.aload_n 0, 1) := by decide +kernel
theorem d_V_isFixed_20 : decode prog_3_method_10_code 20 = .ok (.getfield 9, 3) := by decide +kernel
theorem d_V_isFixed_23 : decode prog_3_method_10_code 23 = .ok (.iload_n 1, 1) := by decide +kernel
theorem d_V_isFixed_24 : decode prog_3_method_10_code 24 = .ok (.iaload, 1) := by decide +kernel
theorem d_V_isFixed_25 : decode prog_3_method_10_code 25 = .ok (.iconst 2, 1) := by decide +kernel
theorem d_V_isFixed_26 : decode prog_3_method_10_code 26 = .ok (.if_icmp .lt 5, 3) := by decide +kernel
theorem d_V_isFixed_29 : decode prog_3_method_10_code 29 = .ok (.iconst 1, 1) := by decide +kernel
theorem d_V_isFixed_30 : decode prog_3_method_10_code 30 = .ok (.ireturn, 1) := by decide +kernel
theorem d_V_isFixed_31 : decode prog_3_method_10_code 31 = .ok (.iinc 1 1, 3) := by decide +kernel
theorem d_V_isFixed_34 : decode prog_3_method_10_code 34 = .ok (.goto (-32), 3) := by decide +kernel
theorem d_V_isFixed_37 : decode prog_3_method_10_code 37 = .ok (.iconst 0, 1) := by decide +kernel
theorem d_V_isFixed_38 : decode prog_3_method_10_code 38 = .ok (.ireturn, 1) := by decide +kernel
theorem d_V_goesTo_0 : decode prog_3_method_11_code 0 = .ok (.aload_n 1, 1) := by decide +kernel
theorem d_V_goesTo_1 : decode prog_3_method_11_code 1 = .ok (.getfield 26, 3) := by decide +kernel
theorem d_V_goesTo_4 : decode prog_3_method_11_code 4 = .ok (.aload_n 0, 1) := by decide +kernel
theorem d_V_goesTo_5 : decode prog_3_method_11_code 5 = .ok (.getfield 26, 3) := by decide +kernel
theorem d_V_goesTo_8 : decode prog_3_method_11_code 8 = .ok (.isub, 1) := by decide +kernel
theorem d_V_goesTo_9 : decode prog_3_method_11_code 9 = .ok (.istore_n 2, 1) := by decide +kernel
theorem d_V_goesTo_10 : decode prog_3_method_11_code 10 = .ok (.iload_n 2, 1) := by decide +kernel
theorem d_V_goesTo_11 : decode prog_3_method_11_code 11 = .ok (.ifCond .ge 5, 3) := by decide +kernel
theorem d_V_goesTo_14 : decode prog_3_method_11_code 14 = .ok (.iconst 0, 1) := by decide +kernel
theorem d_V_goesTo_15 : decode prog_3_method_11_code 15 = .ok (.ireturn, 1) := by decide +kernel
theorem d_V_goesTo_16 : decode prog_3_method_11_code 16 = .ok (.iconst 0, 1) := by decide +kernel
theorem d_V_goesTo_17 : decode prog_3_method_11_code 17 = .ok (.istore_n 3, 1) := by decide +kernel
theorem d_V_goesTo_18 : decode prog_3_method_11_code 18 = .ok (.iload_n 3, 1) := by decide +kernel
theorem d_V_goesTo_19 : decode prog_3_method_11_code 19 = .ok (.aload_n 0, 1) := by decide +kernel
theorem d_V_goesTo_20 : decode prog_3_method_11_code 20 = .ok (.getfield 26, 3) := by decide +kernel
theorem d_V_goesTo_23 : decode prog_3_method_11_code 23 = .ok (.if_icmp .ge 38, 3) := by decide +kernel
theorem d_V_goesTo_26 : decode prog_3_method_11_code 26 = .ok (.aload_n 0, 1) := by decide +kernel
theorem d_V_goesTo_27 : decode prog_3_method_11_code 27 = .ok (.getfield 9, 3) := by decide +kernel
theorem d_V_goesTo_30 : decode prog_3_method_11_code 30 = .ok (.iload_n 3, 1) := by decide +kernel
theorem d_V_goesTo_31 : decode prog_3_method_11_code 31 = .ok (.iaload, 1) := by decide +kernel
theorem d_V_goesTo_32 : decode prog_3_method_11_code 32 = .ok (.iconst 1, 1) := by decide +kernel
theorem d_V_goesTo_33 : decode prog_3_method_11_code 33 = .ok (.if_icmp .eq 22, 3) := by decide +kernel
theorem d_V_goesTo_36 : decode prog_3_method_11_code 36 = .ok (.aload_n 0, 1) := by decide +kernel
theorem d_V_goesTo_37 : decode prog_3_method_11_code 37 = .ok (.getfield 9, 3) := by decide +kernel
theorem d_V_goesTo_40 : decode prog_3_method_11_code 40 = .ok (.iload_n 3, 1) := by decide +kernel
theorem d_V_goesTo_41 : decode prog_3_method_11_code 41 = .ok (.iaload, 1) := by decide +kernel
theorem d_V_goesTo_42 : decode prog_3_method_11_code 42 = .ok (.aload_n 1, 1) := by decide +kernel
theorem d_V_goesTo_43 : decode prog_3_method_11_code 43 = .ok (.getfield 9, 3) := by decide +kernel
theorem d_V_goesTo_46 : decode prog_3_method_11_code 46 = .ok (.iload_n 3, 1) := by decide +kernel
theorem d_V_goesTo_47 : decode prog_3_method_11_code 47 = .ok (.iload_n 2, 1) := by decide +kernel
theorem d_V_goesTo_48 : decode prog_3_method_11_code 48 = .ok (.iadd, 1) := by decide +kernel
theorem d_V_goesTo_49 : decode prog_3_method_11_code 49 = .ok (.iaload, 1) := by decide +kernel
theorem d_V_goesTo_50 : decode prog_3_method_11_code 50 = .ok (.if_icmp .eq 5, 3) := by decide +kernel
theorem d_V_goesTo_53 : decode prog_3_method_11_code 53 = .ok (.iconst 0, 1) := by decide +kernel
theorem d_V_goesTo_54 : decode prog_3_method_11_code 54 = .ok (.ireturn, 1) := by decide +kernel
theorem d_V_goesTo_55 : decode prog_3_method_11_code 55 = .ok (.iinc 3 1, 3) := by decide +kernel
theorem d_V_goesTo_58 : decode prog_3_method_11_code 58 = .ok (.goto (-40), 3) := by decide +kernel
theorem d_V_goesTo_61 : decode prog_3_method_11_code 61 = .ok (.iconst 1, 1) := by decide +kernel
theorem d_V_goesTo_62 : decode prog_3_method_11_code 62 = .ok (.ireturn, 1) := by decide +kernel
theorem d_V_hasExtentsOf_0 : decode prog_3_method_12_code 0 = .ok (.aload_n 0, 1) := by decide +kernel
theorem d_V_hasExtentsOf_1 : decode prog_3_method_12_code 1 = .ok (.getfield 26, 3) := by decide +kernel
theorem d_V_hasExtentsOf_4 : decode prog_3_method_12_code 4 = .ok (.aload_n 1, 1) := by decide +kernel
theorem d_V_hasExtentsOf_5 : decode prog_3_method_12_code 5 = .ok (.getfield 26, 3) := by decide +kernel
theorem d_V_hasExtentsOf_8 : decode prog_3_method_12_code 8 = .ok (.if_icmp .eq 5, 3) := by decide +kernel
theorem d_V_hasExtentsOf_11 : decode prog_3_method_12_code 11 = .ok (.iconst 0, 1) := by decide +kernel
theorem d_V_hasExtentsOf_12 : decode prog_3_method_12_code 12 = .ok (.ireturn, 1) := by decide +kernel
theorem d_V_hasExtentsOf_13 : decode prog_3_method_12_code 13 = .ok (.iconst 0, 1) := by decide +kernel
theorem d_V_hasExtentsOf_14 : decode prog_3_method_12_code 14 = .ok (.istore_n 2, 1) := by decide +kernel
theorem d_V_hasExtentsOf_15 : decode prog_3_method_12_code 15 = .ok (.iload_n 2, 1) := by decide +kernel
theorem d_V_hasExtentsOf_16 : decode prog_3_method_12_code 16 = .ok (.aload_n 0, 1) := by decide +kernel
theorem d_V_hasExtentsOf_17 : decode prog_3_method_12_code 17 = .ok (.getfield 26, 3) := by decide +kernel
theorem d_V_hasExtentsOf_20 : decode prog_3_method_12_code 20 = .ok (.if_icmp .ge 26, 3) := by decide +kernel
theorem d_V_hasExtentsOf_23 : decode prog_3_method_12_code 23 = .ok (.aload_n 0, 1) := by decide +kernel
theorem d_V_hasExtentsOf_24 : decode prog_3_method_12_code 24 = .ok (.getfield 9, 3) := by decide +kernel
theorem d_V_hasExtentsOf_27 : decode prog_3_method_12_code 27 = .ok (.iload_n 2, 1) := by decide +kernel
theorem d_V_hasExtentsOf_28 : decode prog_3_method_12_code 28 = .ok (.iaload, 1) := by decide +kernel
theorem d_V_hasExtentsOf_29 : decode prog_3_method_12_code 29 = .ok (.aload_n 1, 1) := by decide +kernel
theorem d_V_hasExtentsOf_30 : decode prog_3_method_12_code 30 = .ok (.getfield 9, 3) := by decide +kernel
theorem d_V_hasExtentsOf_33 : decode prog_3_method_12_code 33 = .ok (.iload_n 2, 1) := by decide +kernel
theorem d_V_hasExtentsOf_34 : decode prog_3_method_12_code 34 = .ok (.iaload, 1) := by decide +kernel
theorem d_V_hasExtentsOf_35 : decode prog_3_method_12_code 35 = .ok (.if_icmp .eq 5, 3) := by decide +kernel
theorem d_V_hasExtentsOf_38 : decode prog_3_method_12_code 38 = .ok (.iconst 0, 1) := by decide +kernel
theorem d_V_hasExtentsOf_39 : decode prog_3_method_12_code 39 = .ok (.ireturn, 1) := by decide +kernel
theorem d_V_hasExtentsOf_40 : decode prog_3_method_12_code 40 = .ok (.iinc 2 1, 3) := by decide +kernel
theorem d_V_hasExtentsOf_43 : decode prog_3_method_12_code 43 = .ok (.goto (-28), 3) := by decide +kernel
theorem d_V_hasExtentsOf_46 : decode prog_3_method_12_code 46 = .ok (.iconst 1, 1) := by decide +kernel
theorem d_V_hasExtentsOf_47 : decode prog_3_method_12_code 47 = .ok (.ireturn, 1) := by decide +kernel
theorem d_V_leastPlace_0 : decode prog_3_method_14_code 0 = .ok (.aload_n 0, 1) := by decide +kernel
theorem d_V_leastPlace_1 : decode prog_3_method_14_code 1 = .ok (.getfield 29, 3) := by decide +kernel
theorem d_V_leastPlace_4 : decode prog_3_method_14_code 4 = .ok (.ifCond .ne 5, 3) := by decide +kernel
theorem d_V_leastPlace_7 : decode prog_3_method_14_code 7 = .ok (.iconst (-1), 1) := by decide +kernel
theorem d_V_leastPlace_8 : decode prog_3_method_14_code 8 = .ok (.ireturn, 1) := by decide +kernel
theorem d_V_leastPlace_9 : decode prog_3_method_14_code 9 = .ok (.aload_n 0, 1) := by decide +kernel
theorem d_V_leastPlace_10 : decode prog_3_method_14_code 10 = .ok (.getfield 22, 3) := by decide +kernel
theorem d_V_leastPlace_13 : decode prog_3_method_14_code 13 = .ok (.istore_n 1, 1) := by decide +kernel
theorem d_V_leastPlace_14 : decode prog_3_method_14_code 14 = .ok (.iconst 0, 1) := by decide +kernel
theorem d_V_leastPlace_15 : decode prog_3_method_14_code 15 = .ok (.istore_n 2, 1) := by decide +kernel
theorem d_V_leastPlace_16 : decode prog_3_method_14_code 16 = .ok (.iload_n 2, 1) := by decide +kernel
theorem d_V_leastPlace_17 : decode prog_3_method_14_code 17 = .ok (.aload_n 0, 1) := by decide +kernel
theorem d_V_leastPlace_18 : decode prog_3_method_14_code 18 = .ok (.getfield 26, 3) := by decide +kernel
theorem d_V_leastPlace_21 : decode prog_3_method_14_code 21 = .ok (.if_icmp .ge 31, 3) := by decide +kernel
theorem d_V_leastPlace_24 : decode prog_3_method_14_code 24 = .ok (.iload_n 1, 1) := by decide +kernel
theorem d_V_leastPlace_25 : decode prog_3_method_14_code 25 = .ok (.iconst 0, 1) := by decide +kernel
theorem d_V_leastPlace_26 : decode prog_3_method_14_code 26 = .ok (.aload_n 0, 1) := by decide +kernel
theorem d_V_leastPlace_27 : decode prog_3_method_14_code 27 = .ok (.getfield 9, 3) := by decide +kernel
theorem d_V_leastPlace_30 : decode prog_3_method_14_code 30 = .ok (.iload_n 2, 1) := by decide +kernel
theorem d_V_leastPlace_31 : decode prog_3_method_14_code 31 = .ok (.iaload, 1) := by decide +kernel
theorem d_V_leastPlace_32 : decode prog_3_method_14_code 32 = .ok (.iconst 1, 1) := by decide +kernel
theorem d_V_leastPlace_33 : decode prog_3_method_14_code 33 = .ok (.isub, 1) := by decide +kernel
theorem d_V_leastPlace_34 : decode prog_3_method_14_code 34 = .ok (.aload_n 0, 1) := by decide +kernel
theorem d_V_leastPlace_35 : decode prog_3_method_14_code 35 = .ok (.getfield 15, 3) := by decide +kernel
theorem d_V_leastPlace_38 : decode prog_3_method_14_code 38 = .ok (.iload_n 2, 1) := by decide +kernel
theorem d_V_leastPlace_39 : decode prog_3_method_14_code 39 = .ok (.iaload, 1) := by decide +kernel
theorem d_V_leastPlace_40 : decode prog_3_method_14_code 40 = .ok (.imul, 1) := by decide +kernel
theorem d_V_leastPlace_41 : decode prog_3_method_14_code 41 = .ok (.invokestatic 53, 3) := by decide +kernel
theorem d_V_leastPlace_44 : decode prog_3_method_14_code 44 = .ok (.iadd, 1) := by decide +kernel
theorem d_V_leastPlace_45 : decode prog_3_method_14_code 45 = .ok (.istore_n 1, 1) := by decide +kernel
theorem d_V_leastPlace_46 : decode prog_3_method_14_code 46 = .ok (.iinc 2 1, 3) := by decide +kernel
theorem d_V_leastPlace_49 : decode prog_3_method_14_code 49 = .ok (.goto (-33), 3) := by decide +kernel
theorem d_V_leastPlace_52 : decode prog_3_method_14_code 52 = .ok (.iload_n 1, 1) := by decide +kernel
theorem d_V_leastPlace_53 : decode prog_3_method_14_code 53 = .ok (.ireturn, 1) := by decide +kernel
theorem d_V_greatestPlace_0 : decode prog_3_method_15_code 0 = .ok (.aload_n 0, 1) := by decide +kernel
theorem d_V_greatestPlace_1 : decode prog_3_method_15_code 1 = .ok (.getfield 29, 3) := by decide +kernel
theorem d_V_greatestPlace_4 : decode prog_3_method_15_code 4 = .ok (.ifCond .ne 5, 3) := by decide +kernel
theorem d_V_greatestPlace_7 : decode prog_3_method_15_code 7 = .ok (.iconst (-1), 1) := by decide +kernel
theorem d_V_greatestPlace_8 : decode prog_3_method_15_code 8 = .ok (.ireturn, 1) := by decide +kernel
theorem d_V_greatestPlace_9 : decode prog_3_method_15_code 9 = .ok (.aload_n 0, 1) := by decide +kernel
theorem d_V_greatestPlace_10 : decode prog_3_method_15_code 10 = .ok (.getfield 22, 3) := by decide +kernel
theorem d_V_greatestPlace_13 : decode prog_3_method_15_code 13 = .ok (.istore_n 1, 1) := by decide +kernel
theorem d_V_greatestPlace_14 : decode prog_3_method_15_code 14 = .ok (.iconst 0, 1) := by decide +kernel
theorem d_V_greatestPlace_15 : decode prog_3_method_15_code 15 = .ok (.istore_n 2, 1) := by decide +kernel
theorem d_V_greatestPlace_16 : decode prog_3_method_15_code 16 = .ok (.iload_n 2, 1) := by decide +kernel
theorem d_V_greatestPlace_17 : decode prog_3_method_15_code 17 = .ok (.aload_n 0, 1) := by decide +kernel
theorem d_V_greatestPlace_18 : decode prog_3_method_15_code 18 = .ok (.getfield 26, 3) := by decide +kernel
theorem d_V_greatestPlace_21 : decode prog_3_method_15_code 21 = .ok (.if_icmp .ge 31, 3) := by decide +kernel
theorem d_V_greatestPlace_24 : decode prog_3_method_15_code 24 = .ok (.iload_n 1, 1) := by decide +kernel
theorem d_V_greatestPlace_25 : decode prog_3_method_15_code 25 = .ok (.iconst 0, 1) := by decide +kernel
theorem d_V_greatestPlace_26 : decode prog_3_method_15_code 26 = .ok (.aload_n 0, 1) := by decide +kernel
theorem d_V_greatestPlace_27 : decode prog_3_method_15_code 27 = .ok (.getfield 9, 3) := by decide +kernel
theorem d_V_greatestPlace_30 : decode prog_3_method_15_code 30 = .ok (.iload_n 2, 1) := by decide +kernel
theorem d_V_greatestPlace_31 : decode prog_3_method_15_code 31 = .ok (.iaload, 1) := by decide +kernel
theorem d_V_greatestPlace_32 : decode prog_3_method_15_code 32 = .ok (.iconst 1, 1) := by decide +kernel
theorem d_V_greatestPlace_33 : decode prog_3_method_15_code 33 = .ok (.isub, 1) := by decide +kernel
theorem d_V_greatestPlace_34 : decode prog_3_method_15_code 34 = .ok (.aload_n 0, 1) := by decide +kernel
theorem d_V_greatestPlace_35 : decode prog_3_method_15_code 35 = .ok (.getfield 15, 3) := by decide +kernel
theorem d_V_greatestPlace_38 : decode prog_3_method_15_code 38 = .ok (.iload_n 2, 1) := by decide +kernel
theorem d_V_greatestPlace_39 : decode prog_3_method_15_code 39 = .ok (.iaload, 1) := by decide +kernel
theorem d_V_greatestPlace_40 : decode prog_3_method_15_code 40 = .ok (.imul, 1) := by decide +kernel
theorem d_V_greatestPlace_41 : decode prog_3_method_15_code 41 = .ok (.invokestatic 56, 3) := by decide +kernel
theorem d_V_greatestPlace_44 : decode prog_3_method_15_code 44 = .ok (.iadd, 1) := by decide +kernel
theorem d_V_greatestPlace_45 : decode prog_3_method_15_code 45 = .ok (.istore_n 1, 1) := by decide +kernel
theorem d_V_greatestPlace_46 : decode prog_3_method_15_code 46 = .ok (.iinc 2 1, 3) := by decide +kernel
theorem d_V_greatestPlace_49 : decode prog_3_method_15_code 49 = .ok (.goto (-33), 3) := by decide +kernel
theorem d_V_greatestPlace_52 : decode prog_3_method_15_code 52 = .ok (.iload_n 1, 1) := by decide +kernel
theorem d_V_greatestPlace_53 : decode prog_3_method_15_code 53 = .ok (.ireturn, 1) := by decide +kernel
