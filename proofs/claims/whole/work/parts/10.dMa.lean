/-! decode rows -/
theorem d_M_init_0 : decode prog_5_method_1_code 0 = .ok (.aload_n 0, 1) := by decide +kernel
theorem d_M_init_1 : decode prog_5_method_1_code 1 = .ok (.invokespecial 1, 3) := by decide +kernel
theorem d_M_init_4 : decode prog_5_method_1_code 4 = .ok (.aload_n 0, 1) := by decide +kernel
theorem d_M_init_5 : decode prog_5_method_1_code 5 = .ok (.bipush 12, 2) := by decide +kernel
theorem d_M_init_7 : decode prog_5_method_1_code 7 = .ok (.newarray .int, 2) := by decide +kernel
theorem d_M_init_9 : decode prog_5_method_1_code 9 = .ok (.putfield 7, 3) := by decide +kernel
theorem d_M_init_12 : decode prog_5_method_1_code 12 = .ok (.aload_n 0, 1) := by decide +kernel
theorem d_M_init_13 : decode prog_5_method_1_code 13 = .ok (.bipush 12, 2) := by decide +kernel
theorem d_M_init_15 : decode prog_5_method_1_code 15 = .ok (.newarray .int, 2) := by decide +kernel
theorem d_M_init_17 : decode prog_5_method_1_code 17 = .ok (.putfield 13, 3) := by decide +kernel
theorem d_M_init_20 : decode prog_5_method_1_code 20 = .ok (.aload_n 0, 1) := by decide +kernel
theorem d_M_init_21 : decode prog_5_method_1_code 21 = .ok (.sipush 3600, 3) := by decide +kernel
theorem d_M_init_24 : decode prog_5_method_1_code 24 = .ok (.newarray .long, 2) := by decide +kernel
theorem d_M_init_26 : decode prog_5_method_1_code 26 = .ok (.putfield 16, 3) := by decide +kernel
theorem d_M_init_29 : decode prog_5_method_1_code 29 = .ok (.aload_n 0, 1) := by decide +kernel
theorem d_M_init_30 : decode prog_5_method_1_code 30 = .ok (.bipush 80, 2) := by decide +kernel
theorem d_M_init_32 : decode prog_5_method_1_code 32 = .ok (.newarray .int, 2) := by decide +kernel
theorem d_M_init_34 : decode prog_5_method_1_code 34 = .ok (.putfield 20, 3) := by decide +kernel
theorem d_M_init_37 : decode prog_5_method_1_code 37 = .ok (.aload_n 0, 1) := by decide +kernel
theorem d_M_init_38 : decode prog_5_method_1_code 38 = .ok (.bipush 80, 2) := by decide +kernel
theorem d_M_init_40 : decode prog_5_method_1_code 40 = .ok (.newarray .int, 2) := by decide +kernel
theorem d_M_init_42 : decode prog_5_method_1_code 42 = .ok (.putfield 23, 3) := by decide +kernel
theorem d_M_init_45 : decode prog_5_method_1_code 45 = .ok (.aload_n 0, 1) := by decide +kernel
theorem d_M_init_46 : decode prog_5_method_1_code 46 = .ok (.bipush 80, 2) := by decide +kernel
theorem d_M_init_48 : decode prog_5_method_1_code 48 = .ok (.newarray .int, 2) := by decide +kernel
theorem d_M_init_50 : decode prog_5_method_1_code 50 = .ok (.putfield 26, 3) := by decide +kernel
theorem d_M_init_53 : decode prog_5_method_1_code 53 = .ok (.aload_n 0, 1) := by decide +kernel
theorem d_M_init_54 : decode prog_5_method_1_code 54 = .ok (.sipush 320, 3) := by decide +kernel
theorem d_M_init_57 : decode prog_5_method_1_code 57 = .ok (.newarray .int, 2) := by decide +kernel
theorem d_M_init_59 : decode prog_5_method_1_code 59 = .ok (.putfield 29, 3) := by decide +kernel
theorem d_M_init_62 : decode prog_5_method_1_code 62 = .ok (.aload_n 0, 1) := by decide +kernel
theorem d_M_init_63 : decode prog_5_method_1_code 63 = .ok (.sipush 320, 3) := by decide +kernel
theorem d_M_init_66 : decode prog_5_method_1_code 66 = .ok (.newarray .int, 2) := by decide +kernel
theorem d_M_init_68 : decode prog_5_method_1_code 68 = .ok (.putfield 32, 3) := by decide +kernel
theorem d_M_init_71 : decode prog_5_method_1_code 71 = .ok (.aload_n 0, 1) := by decide +kernel
theorem d_M_init_72 : decode prog_5_method_1_code 72 = .ok (.iconst 5, 1) := by decide +kernel
theorem d_M_init_73 : decode prog_5_method_1_code 73 = .ok (.newarray .long, 2) := by decide +kernel
theorem d_M_init_75 : decode prog_5_method_1_code 75 = .ok (.putfield 35, 3) := by decide +kernel
theorem d_M_init_78 : decode prog_5_method_1_code 78 = .ok (.aload_n 0, 1) := by decide +kernel
theorem d_M_init_79 : decode prog_5_method_1_code 79 = .ok (.iconst 5, 1) := by decide +kernel
theorem d_M_init_80 : decode prog_5_method_1_code 80 = .ok (.newarray .long, 2) := by decide +kernel
theorem d_M_init_82 : decode prog_5_method_1_code 82 = .ok (.putfield 38, 3) := by decide +kernel
theorem d_M_init_85 : decode prog_5_method_1_code 85 = .ok (.aload_n 0, 1) := by decide +kernel
theorem d_M_init_86 : decode prog_5_method_1_code 86 = .ok (.sipush 3000, 3) := by decide +kernel
theorem d_M_init_89 : decode prog_5_method_1_code 89 = .ok (.newarray .long, 2) := by decide +kernel
theorem d_M_init_91 : decode prog_5_method_1_code 91 = .ok (.putfield 41, 3) := by decide +kernel
theorem d_M_init_94 : decode prog_5_method_1_code 94 = .ok (.aload_n 0, 1) := by decide +kernel
theorem d_M_init_95 : decode prog_5_method_1_code 95 = .ok (.sipush 300, 3) := by decide +kernel
theorem d_M_init_98 : decode prog_5_method_1_code 98 = .ok (.newarray .boolean, 2) := by decide +kernel
theorem d_M_init_100 : decode prog_5_method_1_code 100 = .ok (.putfield 44, 3) := by decide +kernel
theorem d_M_init_103 : decode prog_5_method_1_code 103 = .ok (.return_, 1) := by decide +kernel
theorem d_M_thrown_0 : decode prog_5_method_2_code 0 = .ok (.aload_n 0, 1) := by decide +kernel
theorem d_M_thrown_1 : decode prog_5_method_2_code 1 = .ok (.getfield 48, 3) := by decide +kernel
theorem d_M_thrown_4 : decode prog_5_method_2_code 4 = .ok (.ireturn, 1) := by decide +kernel
theorem d_M_store_0 : decode prog_5_method_21_code 0 = .ok (.aload_n 0, 1) := by decide +kernel
theorem d_M_store_1 : decode prog_5_method_21_code 1 = .ok (.iload_n 1, 1) := by decide +kernel
theorem d_M_store_2 : decode prog_5_method_21_code 2 = .ok (.invokestatic 87, 3) := by decide +kernel
theorem d_M_store_5 : decode prog_5_method_21_code 5 = .ok (.ifCond .eq 18, 3) := by decide +kernel
theorem d_M_store_8 : decode prog_5_method_21_code 8 = .ok (.iload_n 2, 1) := by decide +kernel
theorem d_M_store_9 : decode prog_5_method_21_code 9 = .ok (.ifCond .lt 14, 3) := by decide +kernel
theorem d_M_store_12 : decode prog_5_method_21_code 12 = .ok (.iload_n 2, 1) := by decide +kernel
theorem d_M_store_13 : decode prog_5_method_21_code 13 = .ok (.sipush 300, 3) := by decide +kernel
theorem d_M_store_16 : decode prog_5_method_21_code 16 = .ok (.if_icmp .gt 7, 3) := by decide +kernel
theorem d_M_store_19 : decode prog_5_method_21_code 19 = .ok (.iconst 1, 1) := by decide +kernel
theorem d_M_store_20 : decode prog_5_method_21_code 20 = .ok (.goto 4, 3) := by decide +kernel
theorem d_M_store_23 : decode prog_5_method_21_code 23 = .ok (.iconst 0, 1) := by decide +kernel
theorem d_M_store_24 : decode prog_5_method_21_code 24 = .ok (.aload_n 0, 1) := by decide +kernel
theorem d_M_store_25 : decode prog_5_method_21_code 25 = .ok (.getfield 84, 3) := by decide +kernel
theorem d_M_store_28 : decode prog_5_method_21_code 28 = .ok (.bipush 12, 2) := by decide +kernel
theorem d_M_store_30 : decode prog_5_method_21_code 30 = .ok (.if_icmp .ge 16, 3) := by decide +kernel
theorem d_M_store_33 : decode prog_5_method_21_code 33 = .ok (.aload_n 0, 1) := by decide +kernel
theorem d_M_store_34 : decode prog_5_method_21_code 34 = .ok (.getfield 52, 3) := by decide +kernel
theorem d_M_store_37 : decode prog_5_method_21_code 37 = .ok (.bipush 80, 2) := by decide +kernel
theorem d_M_store_39 : decode prog_5_method_21_code 39 = .ok (.if_icmp .ge 7, 3) := by decide +kernel
theorem d_M_store_42 : decode prog_5_method_21_code 42 = .ok (.iconst 1, 1) := by decide +kernel
theorem d_M_store_43 : decode prog_5_method_21_code 43 = .ok (.goto 4, 3) := by decide +kernel
theorem d_M_store_46 : decode prog_5_method_21_code 46 = .ok (.iconst 0, 1) := by decide +kernel
theorem d_M_store_47 : decode prog_5_method_21_code 47 = .ok (.invokevirtual 90, 3) := by decide +kernel
theorem d_M_store_50 : decode prog_5_method_21_code 50 = .ok (.ifCond .ne 5, 3) := by decide +kernel
theorem d_M_store_53 : decode prog_5_method_21_code 53 = .ok (.iconst 0, 1) := by decide +kernel
theorem d_M_store_54 : decode prog_5_method_21_code 54 = .ok (.ireturn, 1) := by decide +kernel
theorem d_M_store_55 : decode prog_5_method_21_code 55 = .ok (.aload_n 0, 1) := by decide +kernel
theorem d_M_store_56 : decode prog_5_method_21_code 56 = .ok (.iconst 0, 1) := by decide +kernel
theorem d_M_store_57 : decode prog_5_method_21_code 57 = .ok (.putfield 59, 3) := by decide +kernel
theorem d_M_store_60 : decode prog_5_method_21_code 60 = .ok (.aload_n 0, 1) := by decide +kernel
theorem d_M_store_61 : decode prog_5_method_21_code 61 = .ok (.iload_n 2, 1) := by decide +kernel
theorem d_M_store_62 : decode prog_5_method_21_code 62 = .ok (.i2l, 1) := by decide +kernel
theorem d_M_store_63 : decode prog_5_method_21_code 63 = .ok (.lconst 1, 1) := by decide +kernel
theorem d_M_store_64 : decode prog_5_method_21_code 64 = .ok (.invokevirtual 94, 3) := by decide +kernel
theorem d_M_store_67 : decode prog_5_method_21_code 67 = .ok (.aload_n 0, 1) := by decide +kernel
theorem d_M_store_68 : decode prog_5_method_21_code 68 = .ok (.aload_n 0, 1) := by decide +kernel
theorem d_M_store_69 : decode prog_5_method_21_code 69 = .ok (.iload_n 1, 1) := by decide +kernel
theorem d_M_store_70 : decode prog_5_method_21_code 70 = .ok (.iload_n 2, 1) := by decide +kernel
theorem d_M_store_71 : decode prog_5_method_21_code 71 = .ok (.invokevirtual 98, 3) := by decide +kernel
theorem d_M_store_74 : decode prog_5_method_21_code 74 = .ok (.lconst 0, 1) := by decide +kernel
theorem d_M_store_75 : decode prog_5_method_21_code 75 = .ok (.invokevirtual 101, 3) := by decide +kernel
theorem d_M_store_78 : decode prog_5_method_21_code 78 = .ok (.ireturn, 1) := by decide +kernel
theorem d_M_isLane_0 : decode prog_5_method_20_code 0 = .ok (.iload_n 0, 1) := by decide +kernel
theorem d_M_isLane_1 : decode prog_5_method_20_code 1 = .ok (.ifCond .lt 12, 3) := by decide +kernel
theorem d_M_isLane_4 : decode prog_5_method_20_code 4 = .ok (.iload_n 0, 1) := by decide +kernel
theorem d_M_isLane_5 : decode prog_5_method_20_code 5 = .ok (.iconst 4, 1) := by decide +kernel
theorem d_M_isLane_6 : decode prog_5_method_20_code 6 = .ok (.if_icmp .ge 7, 3) := by decide +kernel
theorem d_M_isLane_9 : decode prog_5_method_20_code 9 = .ok (.iconst 1, 1) := by decide +kernel
theorem d_M_isLane_10 : decode prog_5_method_20_code 10 = .ok (.goto 4, 3) := by decide +kernel
theorem d_M_isLane_13 : decode prog_5_method_20_code 13 = .ok (.iconst 0, 1) := by decide +kernel
theorem d_M_isLane_14 : decode prog_5_method_20_code 14 = .ok (.ireturn, 1) := by decide +kernel
theorem d_M_goesOf_0 : decode prog_5_method_6_code 0 = .ok (.aload_n 0, 1) := by decide +kernel
theorem d_M_goesOf_1 : decode prog_5_method_6_code 1 = .ok (.iload_n 1, 1) := by decide +kernel
theorem d_M_goesOf_2 : decode prog_5_method_6_code 2 = .ok (.ifCond .ne 7, 3) := by decide +kernel
theorem d_M_goesOf_5 : decode prog_5_method_6_code 5 = .ok (.iconst 1, 1) := by decide +kernel
theorem d_M_goesOf_6 : decode prog_5_method_6_code 6 = .ok (.goto 12, 3) := by decide +kernel
theorem d_M_goesOf_9 : decode prog_5_method_6_code 9 = .ok (.iload_n 2, 1) := by decide +kernel
theorem d_M_goesOf_10 : decode prog_5_method_6_code 10 = .ok (.ifCond .ne 7, 3) := by decide +kernel
theorem d_M_goesOf_13 : decode prog_5_method_6_code 13 = .ok (.iconst 2, 1) := by decide +kernel
theorem d_M_goesOf_14 : decode prog_5_method_6_code 14 = .ok (.goto 4, 3) := by decide +kernel
theorem d_M_goesOf_17 : decode prog_5_method_6_code 17 = .ok (.iconst 0, 1) := by decide +kernel
theorem d_M_goesOf_18 : decode prog_5_method_6_code 18 = .ok (.putfield 48, 3) := by decide +kernel
theorem d_M_goesOf_21 : decode prog_5_method_6_code 21 = .ok (.aload_n 0, 1) := by decide +kernel
theorem d_M_goesOf_22 : decode prog_5_method_6_code 22 = .ok (.getfield 48, 3) := by decide +kernel
theorem d_M_goesOf_25 : decode prog_5_method_6_code 25 = .ok (.ifCond .ne 7, 3) := by decide +kernel
theorem d_M_goesOf_28 : decode prog_5_method_6_code 28 = .ok (.iconst 1, 1) := by decide +kernel
theorem d_M_goesOf_29 : decode prog_5_method_6_code 29 = .ok (.goto 4, 3) := by decide +kernel
theorem d_M_goesOf_32 : decode prog_5_method_6_code 32 = .ok (.iconst 0, 1) := by decide +kernel
theorem d_M_goesOf_33 : decode prog_5_method_6_code 33 = .ok (.ireturn, 1) := by decide +kernel
theorem d_M_more_0 : decode prog_5_method_16_code 0 = .ok (.aload_n 0, 1) := by decide +kernel
theorem d_M_more_1 : decode prog_5_method_16_code 1 = .ok (.getfield 35, 3) := by decide +kernel
theorem d_M_more_4 : decode prog_5_method_16_code 4 = .ok (.aload_n 0, 1) := by decide +kernel
theorem d_M_more_5 : decode prog_5_method_16_code 5 = .ok (.getfield 59, 3) := by decide +kernel
theorem d_M_more_8 : decode prog_5_method_16_code 8 = .ok (.lload_n 1, 1) := by decide +kernel
theorem d_M_more_9 : decode prog_5_method_16_code 9 = .ok (.lastore, 1) := by decide +kernel
theorem d_M_more_10 : decode prog_5_method_16_code 10 = .ok (.aload_n 0, 1) := by decide +kernel
theorem d_M_more_11 : decode prog_5_method_16_code 11 = .ok (.getfield 38, 3) := by decide +kernel
theorem d_M_more_14 : decode prog_5_method_16_code 14 = .ok (.aload_n 0, 1) := by decide +kernel
theorem d_M_more_15 : decode prog_5_method_16_code 15 = .ok (.getfield 59, 3) := by decide +kernel
theorem d_M_more_18 : decode prog_5_method_16_code 18 = .ok (.lload_n 3, 1) := by decide +kernel
theorem d_M_more_19 : decode prog_5_method_16_code 19 = .ok (.lastore, 1) := by decide +kernel
theorem d_M_more_20 : decode prog_5_method_16_code 20 = .ok (.aload_n 0, 1) := by decide +kernel
theorem d_M_more_21 : decode prog_5_method_16_code 21 = .ok (.dup, 1) := by decide +kernel
theorem d_M_more_22 : decode prog_5_method_16_code 22 = .ok (.getfield 59, 3) := by decide +kernel
theorem d_M_more_25 : decode prog_5_method_16_code 25 = .ok (.iconst 1, 1) := by decide +kernel
theorem d_M_more_26 : decode prog_5_method_16_code 26 = .ok (.iadd, 1) := by decide +kernel
theorem d_M_more_27 : decode prog_5_method_16_code 27 = .ok (.putfield 59, 3) := by decide +kernel
theorem d_M_more_30 : decode prog_5_method_16_code 30 = .ok (.return_, 1) := by decide +kernel
theorem d_M_addStore_0 : decode prog_5_method_19_code 0 = .ok (.aload_n 0, 1) := by decide +kernel
theorem d_M_addStore_1 : decode prog_5_method_19_code 1 = .ok (.getfield 7, 3) := by decide +kernel
theorem d_M_addStore_4 : decode prog_5_method_19_code 4 = .ok (.aload_n 0, 1) := by decide +kernel
theorem d_M_addStore_5 : decode prog_5_method_19_code 5 = .ok (.getfield 84, 3) := by decide +kernel
theorem d_M_addStore_8 : decode prog_5_method_19_code 8 = .ok (.iload_n 1, 1) := by decide +kernel
theorem d_M_addStore_9 : decode prog_5_method_19_code 9 = .ok (.iastore, 1) := by decide +kernel
theorem d_M_addStore_10 : decode prog_5_method_19_code 10 = .ok (.aload_n 0, 1) := by decide +kernel
theorem d_M_addStore_11 : decode prog_5_method_19_code 11 = .ok (.getfield 13, 3) := by decide +kernel
theorem d_M_addStore_14 : decode prog_5_method_19_code 14 = .ok (.aload_n 0, 1) := by decide +kernel
theorem d_M_addStore_15 : decode prog_5_method_19_code 15 = .ok (.getfield 84, 3) := by decide +kernel
theorem d_M_addStore_18 : decode prog_5_method_19_code 18 = .ok (.iload_n 2, 1) := by decide +kernel
theorem d_M_addStore_19 : decode prog_5_method_19_code 19 = .ok (.iastore, 1) := by decide +kernel
theorem d_M_addStore_20 : decode prog_5_method_19_code 20 = .ok (.aload_n 0, 1) := by decide +kernel
theorem d_M_addStore_21 : decode prog_5_method_19_code 21 = .ok (.dup, 1) := by decide +kernel
theorem d_M_addStore_22 : decode prog_5_method_19_code 22 = .ok (.getfield 84, 3) := by decide +kernel
theorem d_M_addStore_25 : decode prog_5_method_19_code 25 = .ok (.iconst 1, 1) := by decide +kernel
theorem d_M_addStore_26 : decode prog_5_method_19_code 26 = .ok (.iadd, 1) := by decide +kernel
theorem d_M_addStore_27 : decode prog_5_method_19_code 27 = .ok (.putfield 84, 3) := by decide +kernel
theorem d_M_addStore_30 : decode prog_5_method_19_code 30 = .ok (.aload_n 0, 1) := by decide +kernel
theorem d_M_addStore_31 : decode prog_5_method_19_code 31 = .ok (.getfield 84, 3) := by decide +kernel
theorem d_M_addStore_34 : decode prog_5_method_19_code 34 = .ok (.iconst 1, 1) := by decide +kernel
theorem d_M_addStore_35 : decode prog_5_method_19_code 35 = .ok (.isub, 1) := by decide +kernel
theorem d_M_addStore_36 : decode prog_5_method_19_code 36 = .ok (.ireturn, 1) := by decide +kernel
theorem d_M_add_0 : decode prog_5_method_17_code 0 = .ok (.aload_n 0, 1) := by decide +kernel
theorem d_M_add_1 : decode prog_5_method_17_code 1 = .ok (.getfield 52, 3) := by decide +kernel
theorem d_M_add_4 : decode prog_5_method_17_code 4 = .ok (.istore 4, 2) := by decide +kernel
theorem d_M_add_6 : decode prog_5_method_17_code 6 = .ok (.aload_n 0, 1) := by decide +kernel
theorem d_M_add_7 : decode prog_5_method_17_code 7 = .ok (.invokevirtual 78, 3) := by decide +kernel
theorem d_M_add_10 : decode prog_5_method_17_code 10 = .ok (.lconst 0, 1) := by decide +kernel
theorem d_M_add_11 : decode prog_5_method_17_code 11 = .ok (.lcmp, 1) := by decide +kernel
theorem d_M_add_12 : decode prog_5_method_17_code 12 = .ok (.ifCond .ne 7, 3) := by decide +kernel
theorem d_M_add_15 : decode prog_5_method_17_code 15 = .ok (.iconst 1, 1) := by decide +kernel
theorem d_M_add_16 : decode prog_5_method_17_code 16 = .ok (.goto 4, 3) := by decide +kernel
theorem d_M_add_19 : decode prog_5_method_17_code 19 = .ok (.iconst 0, 1) := by decide +kernel
theorem d_M_add_20 : decode prog_5_method_17_code 20 = .ok (.istore 5, 2) := by decide +kernel
theorem d_M_add_22 : decode prog_5_method_17_code 22 = .ok (.aload_n 0, 1) := by decide +kernel
theorem d_M_add_23 : decode prog_5_method_17_code 23 = .ok (.getfield 20, 3) := by decide +kernel
theorem d_M_add_26 : decode prog_5_method_17_code 26 = .ok (.iload 4, 2) := by decide +kernel
theorem d_M_add_28 : decode prog_5_method_17_code 28 = .ok (.iload_n 1, 1) := by decide +kernel
theorem d_M_add_29 : decode prog_5_method_17_code 29 = .ok (.iastore, 1) := by decide +kernel
theorem d_M_add_30 : decode prog_5_method_17_code 30 = .ok (.aload_n 0, 1) := by decide +kernel
theorem d_M_add_31 : decode prog_5_method_17_code 31 = .ok (.getfield 23, 3) := by decide +kernel
theorem d_M_add_34 : decode prog_5_method_17_code 34 = .ok (.iload 4, 2) := by decide +kernel
theorem d_M_add_36 : decode prog_5_method_17_code 36 = .ok (.iload 5, 2) := by decide +kernel
theorem d_M_add_38 : decode prog_5_method_17_code 38 = .ok (.ifCond .eq 7, 3) := by decide +kernel
theorem d_M_add_41 : decode prog_5_method_17_code 41 = .ok (.iconst 0, 1) := by decide +kernel
theorem d_M_add_42 : decode prog_5_method_17_code 42 = .ok (.goto 5, 3) := by decide +kernel
theorem d_M_add_45 : decode prog_5_method_17_code 45 = .ok (.lload_n 2, 1) := by decide +kernel
theorem d_M_add_46 : decode prog_5_method_17_code 46 = .ok (.l2i, 1) := by decide +kernel
theorem d_M_add_47 : decode prog_5_method_17_code 47 = .ok (.iastore, 1) := by decide +kernel
theorem d_M_add_48 : decode prog_5_method_17_code 48 = .ok (.aload_n 0, 1) := by decide +kernel
theorem d_M_add_49 : decode prog_5_method_17_code 49 = .ok (.getfield 26, 3) := by decide +kernel
theorem d_M_add_52 : decode prog_5_method_17_code 52 = .ok (.iload 4, 2) := by decide +kernel
theorem d_M_add_54 : decode prog_5_method_17_code 54 = .ok (.aload_n 0, 1) := by decide +kernel
theorem d_M_add_55 : decode prog_5_method_17_code 55 = .ok (.getfield 59, 3) := by decide +kernel
theorem d_M_add_58 : decode prog_5_method_17_code 58 = .ok (.iastore, 1) := by decide +kernel
theorem d_M_add_59 : decode prog_5_method_17_code 59 = .ok (.iconst 0, 1) := by decide +kernel
theorem d_M_add_60 : decode prog_5_method_17_code 60 = .ok (.istore 6, 2) := by decide +kernel
theorem d_M_add_62 : decode prog_5_method_17_code 62 = .ok (.iload 6, 2) := by decide +kernel
theorem d_M_add_64 : decode prog_5_method_17_code 64 = .ok (.aload_n 0, 1) := by decide +kernel
theorem d_M_add_65 : decode prog_5_method_17_code 65 = .ok (.getfield 59, 3) := by decide +kernel
theorem d_M_add_68 : decode prog_5_method_17_code 68 = .ok (.if_icmp .ge 72, 3) := by decide +kernel
theorem d_M_add_71 : decode prog_5_method_17_code 71 = .ok (.aload_n 0, 1) := by decide +kernel
theorem d_M_add_72 : decode prog_5_method_17_code 72 = .ok (.getfield 29, 3) := by decide +kernel
theorem d_M_add_75 : decode prog_5_method_17_code 75 = .ok (.iconst 4, 1) := by decide +kernel
theorem d_M_add_76 : decode prog_5_method_17_code 76 = .ok (.iload 4, 2) := by decide +kernel
theorem d_M_add_78 : decode prog_5_method_17_code 78 = .ok (.imul, 1) := by decide +kernel
theorem d_M_add_79 : decode prog_5_method_17_code 79 = .ok (.iload 6, 2) := by decide +kernel
theorem d_M_add_81 : decode prog_5_method_17_code 81 = .ok (.iadd, 1) := by decide +kernel
theorem d_M_add_82 : decode prog_5_method_17_code 82 = .ok (.aload_n 0, 1) := by decide +kernel
theorem d_M_add_83 : decode prog_5_method_17_code 83 = .ok (.getfield 35, 3) := by decide +kernel
theorem d_M_add_86 : decode prog_5_method_17_code 86 = .ok (.iload 6, 2) := by decide +kernel
theorem d_M_add_88 : decode prog_5_method_17_code 88 = .ok (.laload, 1) := by decide +kernel
theorem d_M_add_89 : decode prog_5_method_17_code 89 = .ok (.l2i, 1) := by decide +kernel
theorem d_M_add_90 : decode prog_5_method_17_code 90 = .ok (.iastore, 1) := by decide +kernel
theorem d_M_add_91 : decode prog_5_method_17_code 91 = .ok (.aload_n 0, 1) := by decide +kernel
theorem d_M_add_92 : decode prog_5_method_17_code 92 = .ok (.getfield 32, 3) := by decide +kernel
theorem d_M_add_95 : decode prog_5_method_17_code 95 = .ok (.iconst 4, 1) := by decide +kernel
theorem d_M_add_96 : decode prog_5_method_17_code 96 = .ok (.iload 4, 2) := by decide +kernel
theorem d_M_add_98 : decode prog_5_method_17_code 98 = .ok (.imul, 1) := by decide +kernel
theorem d_M_add_99 : decode prog_5_method_17_code 99 = .ok (.iload 6, 2) := by decide +kernel
theorem d_M_add_101 : decode prog_5_method_17_code 101 = .ok (.iadd, 1) := by decide +kernel
theorem d_M_add_102 : decode prog_5_method_17_code 102 = .ok (.iload 5, 2) := by decide +kernel
theorem d_M_add_104 : decode prog_5_method_17_code 104 = .ok (.ifCond .ne 17, 3) := by decide +kernel
theorem d_M_add_107 : decode prog_5_method_17_code 107 = .ok (.aload_n 0, 1) := by decide +kernel
theorem d_M_add_108 : decode prog_5_method_17_code 108 = .ok (.getfield 35, 3) := by decide +kernel
theorem d_M_add_111 : decode prog_5_method_17_code 111 = .ok (.iload 6, 2) := by decide +kernel
theorem d_M_add_113 : decode prog_5_method_17_code 113 = .ok (.laload, 1) := by decide +kernel
theorem d_M_add_114 : decode prog_5_method_17_code 114 = .ok (.ldc2_w 82, 3) := by decide +kernel
theorem d_M_add_117 : decode prog_5_method_17_code 117 = .ok (.lcmp, 1) := by decide +kernel
theorem d_M_add_118 : decode prog_5_method_17_code 118 = .ok (.ifCond .ge 7, 3) := by decide +kernel
theorem d_M_add_121 : decode prog_5_method_17_code 121 = .ok (.iconst 0, 1) := by decide +kernel
theorem d_M_add_122 : decode prog_5_method_17_code 122 = .ok (.goto 11, 3) := by decide +kernel
theorem d_M_add_125 : decode prog_5_method_17_code 125 = .ok (.aload_n 0, 1) := by decide +kernel
theorem d_M_add_126 : decode prog_5_method_17_code 126 = .ok (.getfield 38, 3) := by decide +kernel
theorem d_M_add_129 : decode prog_5_method_17_code 129 = .ok (.iload 6, 2) := by decide +kernel
theorem d_M_add_131 : decode prog_5_method_17_code 131 = .ok (.laload, 1) := by decide +kernel
theorem d_M_add_132 : decode prog_5_method_17_code 132 = .ok (.l2i, 1) := by decide +kernel
theorem d_M_add_133 : decode prog_5_method_17_code 133 = .ok (.iastore, 1) := by decide +kernel
theorem d_M_add_134 : decode prog_5_method_17_code 134 = .ok (.iinc 6 1, 3) := by decide +kernel
theorem d_M_add_137 : decode prog_5_method_17_code 137 = .ok (.goto (-75), 3) := by decide +kernel
theorem d_M_add_140 : decode prog_5_method_17_code 140 = .ok (.aload_n 0, 1) := by decide +kernel
theorem d_M_add_141 : decode prog_5_method_17_code 141 = .ok (.dup, 1) := by decide +kernel
theorem d_M_add_142 : decode prog_5_method_17_code 142 = .ok (.getfield 52, 3) := by decide +kernel
theorem d_M_add_145 : decode prog_5_method_17_code 145 = .ok (.iconst 1, 1) := by decide +kernel
theorem d_M_add_146 : decode prog_5_method_17_code 146 = .ok (.iadd, 1) := by decide +kernel
theorem d_M_add_147 : decode prog_5_method_17_code 147 = .ok (.putfield 52, 3) := by decide +kernel
theorem d_M_add_150 : decode prog_5_method_17_code 150 = .ok (.iload 4, 2) := by decide +kernel
theorem d_M_add_152 : decode prog_5_method_17_code 152 = .ok (.ireturn, 1) := by decide +kernel
theorem d_M_product_0 : decode prog_5_method_7_code 0 = .ok (.lconst 1, 1) := by decide +kernel
theorem d_M_product_1 : decode prog_5_method_7_code 1 = .ok (.lstore_n 1, 1) := by decide +kernel
theorem d_M_product_2 : decode prog_5_method_7_code 2 = .ok (.iconst 0, 1) := by decide +kernel
theorem d_M_product_3 : decode prog_5_method_7_code 3 = .ok (.istore_n 3, 1) := by decide +kernel
theorem d_M_product_4 : decode prog_5_method_7_code 4 = .ok (.iload_n 3, 1) := by decide +kernel
theorem d_M_product_5 : decode prog_5_method_7_code 5 = .ok (.aload_n 0, 1) := by decide +kernel
theorem d_M_product_6 : decode prog_5_method_7_code 6 = .ok (.getfield 59, 3) := by decide +kernel
theorem d_M_product_9 : decode prog_5_method_7_code 9 = .ok (.if_icmp .ge 22, 3) := by decide +kernel
theorem d_M_product_12 : decode prog_5_method_7_code 12 = .ok (.aload_n 0, 1) := by decide +kernel
theorem d_M_product_13 : decode prog_5_method_7_code 13 = .ok (.getfield 35, 3) := by decide +kernel
theorem d_M_product_16 : decode prog_5_method_7_code 16 = .ok (.iload_n 3, 1) := by decide +kernel
theorem d_M_product_17 : decode prog_5_method_7_code 17 = .ok (.laload, 1) := by decide +kernel
theorem d_M_product_18 : decode prog_5_method_7_code 18 = .ok (.lconst 0, 1) := by decide +kernel
theorem d_M_product_19 : decode prog_5_method_7_code 19 = .ok (.lcmp, 1) := by decide +kernel
theorem d_M_product_20 : decode prog_5_method_7_code 20 = .ok (.ifCond .ne 5, 3) := by decide +kernel
theorem d_M_product_23 : decode prog_5_method_7_code 23 = .ok (.lconst 0, 1) := by decide +kernel
theorem d_M_product_24 : decode prog_5_method_7_code 24 = .ok (.lreturn, 1) := by decide +kernel
theorem d_M_product_25 : decode prog_5_method_7_code 25 = .ok (.iinc 3 1, 3) := by decide +kernel
theorem d_M_product_28 : decode prog_5_method_7_code 28 = .ok (.goto (-24), 3) := by decide +kernel
theorem d_M_product_31 : decode prog_5_method_7_code 31 = .ok (.iconst 0, 1) := by decide +kernel
theorem d_M_product_32 : decode prog_5_method_7_code 32 = .ok (.istore_n 3, 1) := by decide +kernel
theorem d_M_product_33 : decode prog_5_method_7_code 33 = .ok (.iload_n 3, 1) := by decide +kernel
theorem d_M_product_34 : decode prog_5_method_7_code 34 = .ok (.aload_n 0, 1) := by decide +kernel
theorem d_M_product_35 : decode prog_5_method_7_code 35 = .ok (.getfield 59, 3) := by decide +kernel
theorem d_M_product_38 : decode prog_5_method_7_code 38 = .ok (.if_icmp .ge 32, 3) := by decide +kernel
theorem d_M_product_41 : decode prog_5_method_7_code 41 = .ok (.lload_n 1, 1) := by decide +kernel
theorem d_M_product_42 : decode prog_5_method_7_code 42 = .ok (.ldc2_w 62, 3) := by decide +kernel
theorem d_M_product_45 : decode prog_5_method_7_code 45 = .ok (.lcmp, 1) := by decide +kernel
theorem d_M_product_46 : decode prog_5_method_7_code 46 = .ok (.ifCond .le 9, 3) := by decide +kernel
theorem d_M_product_49 : decode prog_5_method_7_code 49 = .ok (.ldc2_w 64, 3) := by decide +kernel
theorem d_M_product_52 : decode prog_5_method_7_code 52 = .ok (.goto 11, 3) := by decide +kernel
theorem d_M_product_55 : decode prog_5_method_7_code 55 = .ok (.lload_n 1, 1) := by decide +kernel
theorem d_M_product_56 : decode prog_5_method_7_code 56 = .ok (.aload_n 0, 1) := by decide +kernel
theorem d_M_product_57 : decode prog_5_method_7_code 57 = .ok (.getfield 35, 3) := by decide +kernel
theorem d_M_product_60 : decode prog_5_method_7_code 60 = .ok (.iload_n 3, 1) := by decide +kernel
theorem d_M_product_61 : decode prog_5_method_7_code 61 = .ok (.laload, 1) := by decide +kernel
theorem d_M_product_62 : decode prog_5_method_7_code 62 = .ok (.lmul, 1) := by decide +kernel
theorem d_M_product_63 : decode prog_5_method_7_code 63 = .ok (.lstore_n 1, 1) := by decide +kernel
theorem d_M_product_64 : decode prog_5_method_7_code 64 = .ok (.iinc 3 1, 3) := by decide +kernel
theorem d_M_product_67 : decode prog_5_method_7_code 67 = .ok (.goto (-34), 3) := by decide +kernel
theorem d_M_product_70 : decode prog_5_method_7_code 70 = .ok (.lload_n 1, 1) := by decide +kernel
theorem d_M_product_71 : decode prog_5_method_7_code 71 = .ok (.ldc2_w 62, 3) := by decide +kernel
theorem d_M_product_74 : decode prog_5_method_7_code 74 = .ok (.lcmp, 1) := by decide +kernel
theorem d_M_product_75 : decode prog_5_method_7_code 75 = .ok (.ifCond .le 9, 3) := by decide +kernel
theorem d_M_product_78 : decode prog_5_method_7_code 78 = .ok (.ldc2_w 64, 3) := by decide +kernel
theorem d_M_product_81 : decode prog_5_method_7_code 81 = .ok (.goto 4, 3) := by decide +kernel
theorem d_M_product_84 : decode prog_5_method_7_code 84 = .ok (.lload_n 1, 1) := by decide +kernel
theorem d_M_product_85 : decode prog_5_method_7_code 85 = .ok (.lreturn, 1) := by decide +kernel
theorem d_M_slice_0 : decode prog_5_method_22_code 0 = .ok (.aload_n 0, 1) := by decide +kernel
theorem d_M_slice_1 : decode prog_5_method_22_code 1 = .ok (.iload_n 1, 1) := by decide +kernel
theorem d_M_slice_2 : decode prog_5_method_22_code 2 = .ok (.iload_n 2, 1) := by decide +kernel
theorem d_M_slice_3 : decode prog_5_method_22_code 3 = .ok (.invokevirtual 105, 3) := by decide +kernel
theorem d_M_slice_6 : decode prog_5_method_22_code 6 = .ok (.istore 6, 2) := by decide +kernel
theorem d_M_slice_8 : decode prog_5_method_22_code 8 = .ok (.iload 6, 2) := by decide +kernel
theorem d_M_slice_10 : decode prog_5_method_22_code 10 = .ok (.ifCond .eq 17, 3) := by decide +kernel
theorem d_M_slice_13 : decode prog_5_method_22_code 13 = .ok (.iload 5, 2) := by decide +kernel
theorem d_M_slice_15 : decode prog_5_method_22_code 15 = .ok (.ifCond .lt 12, 3) := by decide +kernel
theorem d_M_slice_18 : decode prog_5_method_22_code 18 = .ok (.iload 4, 2) := by decide +kernel
theorem d_M_slice_20 : decode prog_5_method_22_code 20 = .ok (.ifCond .eq 7, 3) := by decide +kernel
theorem d_M_slice_23 : decode prog_5_method_22_code 23 = .ok (.iconst 1, 1) := by decide +kernel
theorem d_M_slice_24 : decode prog_5_method_22_code 24 = .ok (.goto 4, 3) := by decide +kernel
theorem d_M_slice_27 : decode prog_5_method_22_code 27 = .ok (.iconst 0, 1) := by decide +kernel
theorem d_M_slice_28 : decode prog_5_method_22_code 28 = .ok (.istore 7, 2) := by decide +kernel
theorem d_M_slice_30 : decode prog_5_method_22_code 30 = .ok (.iload 7, 2) := by decide +kernel
theorem d_M_slice_32 : decode prog_5_method_22_code 32 = .ok (.ifCond .eq 69, 3) := by decide +kernel
theorem d_M_slice_35 : decode prog_5_method_22_code 35 = .ok (.iload 5, 2) := by decide +kernel
theorem d_M_slice_37 : decode prog_5_method_22_code 37 = .ok (.ifCond .le 64, 3) := by decide +kernel
theorem d_M_slice_40 : decode prog_5_method_22_code 40 = .ok (.aload_n 0, 1) := by decide +kernel
theorem d_M_slice_41 : decode prog_5_method_22_code 41 = .ok (.getfield 29, 3) := by decide +kernel
theorem d_M_slice_44 : decode prog_5_method_22_code 44 = .ok (.iconst 4, 1) := by decide +kernel
theorem d_M_slice_45 : decode prog_5_method_22_code 45 = .ok (.iload_n 1, 1) := by decide +kernel
theorem d_M_slice_46 : decode prog_5_method_22_code 46 = .ok (.imul, 1) := by decide +kernel
theorem d_M_slice_47 : decode prog_5_method_22_code 47 = .ok (.iload_n 2, 1) := by decide +kernel
theorem d_M_slice_48 : decode prog_5_method_22_code 48 = .ok (.iadd, 1) := by decide +kernel
theorem d_M_slice_49 : decode prog_5_method_22_code 49 = .ok (.iaload, 1) := by decide +kernel
theorem d_M_slice_50 : decode prog_5_method_22_code 50 = .ok (.i2l, 1) := by decide +kernel
theorem d_M_slice_51 : decode prog_5_method_22_code 51 = .ok (.lstore 8, 2) := by decide +kernel
theorem d_M_slice_53 : decode prog_5_method_22_code 53 = .ok (.iload_n 3, 1) := by decide +kernel
theorem d_M_slice_54 : decode prog_5_method_22_code 54 = .ok (.i2l, 1) := by decide +kernel
theorem d_M_slice_55 : decode prog_5_method_22_code 55 = .ok (.iload 5, 2) := by decide +kernel
theorem d_M_slice_57 : decode prog_5_method_22_code 57 = .ok (.i2l, 1) := by decide +kernel
theorem d_M_slice_58 : decode prog_5_method_22_code 58 = .ok (.lconst 1, 1) := by decide +kernel
theorem d_M_slice_59 : decode prog_5_method_22_code 59 = .ok (.lsub, 1) := by decide +kernel
theorem d_M_slice_60 : decode prog_5_method_22_code 60 = .ok (.iload 4, 2) := by decide +kernel
theorem d_M_slice_62 : decode prog_5_method_22_code 62 = .ok (.i2l, 1) := by decide +kernel
theorem d_M_slice_63 : decode prog_5_method_22_code 63 = .ok (.lmul, 1) := by decide +kernel
theorem d_M_slice_64 : decode prog_5_method_22_code 64 = .ok (.ladd, 1) := by decide +kernel
theorem d_M_slice_65 : decode prog_5_method_22_code 65 = .ok (.lstore 10, 2) := by decide +kernel
theorem d_M_slice_67 : decode prog_5_method_22_code 67 = .ok (.iload_n 3, 1) := by decide +kernel
theorem d_M_slice_68 : decode prog_5_method_22_code 68 = .ok (.ifCond .lt 30, 3) := by decide +kernel
theorem d_M_slice_71 : decode prog_5_method_22_code 71 = .ok (.iload_n 3, 1) := by decide +kernel
theorem d_M_slice_72 : decode prog_5_method_22_code 72 = .ok (.i2l, 1) := by decide +kernel
theorem d_M_slice_73 : decode prog_5_method_22_code 73 = .ok (.lload 8, 2) := by decide +kernel
theorem d_M_slice_75 : decode prog_5_method_22_code 75 = .ok (.lcmp, 1) := by decide +kernel
theorem d_M_slice_76 : decode prog_5_method_22_code 76 = .ok (.ifCond .ge 22, 3) := by decide +kernel
theorem d_M_slice_79 : decode prog_5_method_22_code 79 = .ok (.lload 10, 2) := by decide +kernel
theorem d_M_slice_81 : decode prog_5_method_22_code 81 = .ok (.lconst 0, 1) := by decide +kernel
theorem d_M_slice_82 : decode prog_5_method_22_code 82 = .ok (.lcmp, 1) := by decide +kernel
theorem d_M_slice_83 : decode prog_5_method_22_code 83 = .ok (.ifCond .lt 15, 3) := by decide +kernel
theorem d_M_slice_86 : decode prog_5_method_22_code 86 = .ok (.lload 10, 2) := by decide +kernel
theorem d_M_slice_88 : decode prog_5_method_22_code 88 = .ok (.lload 8, 2) := by decide +kernel
theorem d_M_slice_90 : decode prog_5_method_22_code 90 = .ok (.lcmp, 1) := by decide +kernel
theorem d_M_slice_91 : decode prog_5_method_22_code 91 = .ok (.ifCond .ge 7, 3) := by decide +kernel
theorem d_M_slice_94 : decode prog_5_method_22_code 94 = .ok (.iconst 1, 1) := by decide +kernel
theorem d_M_slice_95 : decode prog_5_method_22_code 95 = .ok (.goto 4, 3) := by decide +kernel
theorem d_M_slice_98 : decode prog_5_method_22_code 98 = .ok (.iconst 0, 1) := by decide +kernel
theorem d_M_slice_99 : decode prog_5_method_22_code 99 = .ok (.istore 7, 2) := by decide +kernel
theorem d_M_slice_101 : decode prog_5_method_22_code 101 = .ok (.aload_n 0, 1) := by decide +kernel
theorem d_M_slice_102 : decode prog_5_method_22_code 102 = .ok (.iload 6, 2) := by decide +kernel
theorem d_M_slice_104 : decode prog_5_method_22_code 104 = .ok (.iload 7, 2) := by decide +kernel
theorem d_M_slice_106 : decode prog_5_method_22_code 106 = .ok (.aload_n 0, 1) := by decide +kernel
theorem d_M_slice_107 : decode prog_5_method_22_code 107 = .ok (.getfield 52, 3) := by decide +kernel
theorem d_M_slice_110 : decode prog_5_method_22_code 110 = .ok (.bipush 80, 2) := by decide +kernel
theorem d_M_slice_112 : decode prog_5_method_22_code 112 = .ok (.if_icmp .ge 7, 3) := by decide +kernel
theorem d_M_slice_115 : decode prog_5_method_22_code 115 = .ok (.iconst 1, 1) := by decide +kernel
theorem d_M_slice_116 : decode prog_5_method_22_code 116 = .ok (.goto 4, 3) := by decide +kernel
theorem d_M_slice_119 : decode prog_5_method_22_code 119 = .ok (.iconst 0, 1) := by decide +kernel
theorem d_M_slice_120 : decode prog_5_method_22_code 120 = .ok (.invokevirtual 109, 3) := by decide +kernel
theorem d_M_slice_123 : decode prog_5_method_22_code 123 = .ok (.ifCond .ne 5, 3) := by decide +kernel
theorem d_M_slice_126 : decode prog_5_method_22_code 126 = .ok (.iconst 0, 1) := by decide +kernel
theorem d_M_slice_127 : decode prog_5_method_22_code 127 = .ok (.ireturn, 1) := by decide +kernel
theorem d_M_slice_128 : decode prog_5_method_22_code 128 = .ok (.aload_n 0, 1) := by decide +kernel
theorem d_M_slice_129 : decode prog_5_method_22_code 129 = .ok (.iload_n 1, 1) := by decide +kernel
theorem d_M_slice_130 : decode prog_5_method_22_code 130 = .ok (.iconst (-1), 1) := by decide +kernel
theorem d_M_slice_131 : decode prog_5_method_22_code 131 = .ok (.iconst (-1), 1) := by decide +kernel
theorem d_M_slice_132 : decode prog_5_method_22_code 132 = .ok (.invokevirtual 113, 3) := by decide +kernel
theorem d_M_slice_135 : decode prog_5_method_22_code 135 = .ok (.aload_n 0, 1) := by decide +kernel
theorem d_M_slice_136 : decode prog_5_method_22_code 136 = .ok (.getfield 38, 3) := by decide +kernel
theorem d_M_slice_139 : decode prog_5_method_22_code 139 = .ok (.iload_n 2, 1) := by decide +kernel
theorem d_M_slice_140 : decode prog_5_method_22_code 140 = .ok (.laload, 1) := by decide +kernel
theorem d_M_slice_141 : decode prog_5_method_22_code 141 = .ok (.lstore 8, 2) := by decide +kernel
theorem d_M_slice_143 : decode prog_5_method_22_code 143 = .ok (.aload_n 0, 1) := by decide +kernel
theorem d_M_slice_144 : decode prog_5_method_22_code 144 = .ok (.getfield 35, 3) := by decide +kernel
theorem d_M_slice_147 : decode prog_5_method_22_code 147 = .ok (.iload_n 2, 1) := by decide +kernel
theorem d_M_slice_148 : decode prog_5_method_22_code 148 = .ok (.iload 5, 2) := by decide +kernel
theorem d_M_slice_150 : decode prog_5_method_22_code 150 = .ok (.i2l, 1) := by decide +kernel
theorem d_M_slice_151 : decode prog_5_method_22_code 151 = .ok (.lastore, 1) := by decide +kernel
theorem d_M_slice_152 : decode prog_5_method_22_code 152 = .ok (.aload_n 0, 1) := by decide +kernel
theorem d_M_slice_153 : decode prog_5_method_22_code 153 = .ok (.getfield 38, 3) := by decide +kernel
theorem d_M_slice_156 : decode prog_5_method_22_code 156 = .ok (.iload_n 2, 1) := by decide +kernel
theorem d_M_slice_157 : decode prog_5_method_22_code 157 = .ok (.lload 8, 2) := by decide +kernel
theorem d_M_slice_159 : decode prog_5_method_22_code 159 = .ok (.iload 4, 2) := by decide +kernel
theorem d_M_slice_161 : decode prog_5_method_22_code 161 = .ok (.i2l, 1) := by decide +kernel
theorem d_M_slice_162 : decode prog_5_method_22_code 162 = .ok (.lmul, 1) := by decide +kernel
theorem d_M_slice_163 : decode prog_5_method_22_code 163 = .ok (.lastore, 1) := by decide +kernel
theorem d_M_slice_164 : decode prog_5_method_22_code 164 = .ok (.aload_n 0, 1) := by decide +kernel
theorem d_M_slice_165 : decode prog_5_method_22_code 165 = .ok (.aload_n 0, 1) := by decide +kernel
theorem d_M_slice_166 : decode prog_5_method_22_code 166 = .ok (.getfield 20, 3) := by decide +kernel
theorem d_M_slice_169 : decode prog_5_method_22_code 169 = .ok (.iload_n 1, 1) := by decide +kernel
theorem d_M_slice_170 : decode prog_5_method_22_code 170 = .ok (.iaload, 1) := by decide +kernel
theorem d_M_slice_171 : decode prog_5_method_22_code 171 = .ok (.aload_n 0, 1) := by decide +kernel
theorem d_M_slice_172 : decode prog_5_method_22_code 172 = .ok (.getfield 23, 3) := by decide +kernel
theorem d_M_slice_175 : decode prog_5_method_22_code 175 = .ok (.iload_n 1, 1) := by decide +kernel
theorem d_M_slice_176 : decode prog_5_method_22_code 176 = .ok (.iaload, 1) := by decide +kernel
theorem d_M_slice_177 : decode prog_5_method_22_code 177 = .ok (.i2l, 1) := by decide +kernel
theorem d_M_slice_178 : decode prog_5_method_22_code 178 = .ok (.lload 8, 2) := by decide +kernel
theorem d_M_slice_180 : decode prog_5_method_22_code 180 = .ok (.iload_n 3, 1) := by decide +kernel
theorem d_M_slice_181 : decode prog_5_method_22_code 181 = .ok (.i2l, 1) := by decide +kernel
theorem d_M_slice_182 : decode prog_5_method_22_code 182 = .ok (.lmul, 1) := by decide +kernel
theorem d_M_slice_183 : decode prog_5_method_22_code 183 = .ok (.ladd, 1) := by decide +kernel
theorem d_M_slice_184 : decode prog_5_method_22_code 184 = .ok (.invokevirtual 101, 3) := by decide +kernel
theorem d_M_slice_187 : decode prog_5_method_22_code 187 = .ok (.ireturn, 1) := by decide +kernel
theorem d_M_isAxis_0 : decode prog_5_method_4_code 0 = .ok (.aload_n 0, 1) := by decide +kernel
theorem d_M_isAxis_1 : decode prog_5_method_4_code 1 = .ok (.iload_n 1, 1) := by decide +kernel
theorem d_M_isAxis_2 : decode prog_5_method_4_code 2 = .ok (.invokevirtual 55, 3) := by decide +kernel
theorem d_M_isAxis_5 : decode prog_5_method_4_code 5 = .ok (.ifCond .eq 21, 3) := by decide +kernel
theorem d_M_isAxis_8 : decode prog_5_method_4_code 8 = .ok (.iload_n 2, 1) := by decide +kernel
theorem d_M_isAxis_9 : decode prog_5_method_4_code 9 = .ok (.ifCond .lt 17, 3) := by decide +kernel
theorem d_M_isAxis_12 : decode prog_5_method_4_code 12 = .ok (.iload_n 2, 1) := by decide +kernel
theorem d_M_isAxis_13 : decode prog_5_method_4_code 13 = .ok (.aload_n 0, 1) := by decide +kernel
theorem d_M_isAxis_14 : decode prog_5_method_4_code 14 = .ok (.getfield 26, 3) := by decide +kernel
theorem d_M_isAxis_17 : decode prog_5_method_4_code 17 = .ok (.iload_n 1, 1) := by decide +kernel
theorem d_M_isAxis_18 : decode prog_5_method_4_code 18 = .ok (.iaload, 1) := by decide +kernel
theorem d_M_isAxis_19 : decode prog_5_method_4_code 19 = .ok (.if_icmp .ge 7, 3) := by decide +kernel
theorem d_M_isAxis_22 : decode prog_5_method_4_code 22 = .ok (.iconst 1, 1) := by decide +kernel
theorem d_M_isAxis_23 : decode prog_5_method_4_code 23 = .ok (.goto 4, 3) := by decide +kernel
theorem d_M_isAxis_26 : decode prog_5_method_4_code 26 = .ok (.iconst 0, 1) := by decide +kernel
theorem d_M_isAxis_27 : decode prog_5_method_4_code 27 = .ok (.ireturn, 1) := by decide +kernel
theorem d_M_isView_0 : decode prog_5_method_3_code 0 = .ok (.iload_n 1, 1) := by decide +kernel
theorem d_M_isView_1 : decode prog_5_method_3_code 1 = .ok (.ifCond .lt 15, 3) := by decide +kernel
theorem d_M_isView_4 : decode prog_5_method_3_code 4 = .ok (.iload_n 1, 1) := by decide +kernel
theorem d_M_isView_5 : decode prog_5_method_3_code 5 = .ok (.aload_n 0, 1) := by decide +kernel
theorem d_M_isView_6 : decode prog_5_method_3_code 6 = .ok (.getfield 52, 3) := by decide +kernel
theorem d_M_isView_9 : decode prog_5_method_3_code 9 = .ok (.if_icmp .ge 7, 3) := by decide +kernel
theorem d_M_isView_12 : decode prog_5_method_3_code 12 = .ok (.iconst 1, 1) := by decide +kernel
theorem d_M_isView_13 : decode prog_5_method_3_code 13 = .ok (.goto 4, 3) := by decide +kernel
theorem d_M_isView_16 : decode prog_5_method_3_code 16 = .ok (.iconst 0, 1) := by decide +kernel
theorem d_M_isView_17 : decode prog_5_method_3_code 17 = .ok (.ireturn, 1) := by decide +kernel
theorem d_M_goes_0 : decode prog_5_method_5_code 0 = .ok (.aload_n 0, 1) := by decide +kernel
theorem d_M_goes_1 : decode prog_5_method_5_code 1 = .ok (.iload_n 1, 1) := by decide +kernel
theorem d_M_goes_2 : decode prog_5_method_5_code 2 = .ok (.ifCond .ne 7, 3) := by decide +kernel
theorem d_M_goes_5 : decode prog_5_method_5_code 5 = .ok (.iconst 1, 1) := by decide +kernel
theorem d_M_goes_6 : decode prog_5_method_5_code 6 = .ok (.goto 20, 3) := by decide +kernel
theorem d_M_goes_9 : decode prog_5_method_5_code 9 = .ok (.iload_n 2, 1) := by decide +kernel
theorem d_M_goes_10 : decode prog_5_method_5_code 10 = .ok (.ifCond .ne 7, 3) := by decide +kernel
theorem d_M_goes_13 : decode prog_5_method_5_code 13 = .ok (.iconst 2, 1) := by decide +kernel
theorem d_M_goes_14 : decode prog_5_method_5_code 14 = .ok (.goto 12, 3) := by decide +kernel
theorem d_M_goes_17 : decode prog_5_method_5_code 17 = .ok (.iload_n 3, 1) := by decide +kernel
theorem d_M_goes_18 : decode prog_5_method_5_code 18 = .ok (.ifCond .ne 7, 3) := by decide +kernel
theorem d_M_goes_21 : decode prog_5_method_5_code 21 = .ok (.iconst 3, 1) := by decide +kernel
theorem d_M_goes_22 : decode prog_5_method_5_code 22 = .ok (.goto 4, 3) := by decide +kernel
theorem d_M_goes_25 : decode prog_5_method_5_code 25 = .ok (.iconst 0, 1) := by decide +kernel
theorem d_M_goes_26 : decode prog_5_method_5_code 26 = .ok (.putfield 48, 3) := by decide +kernel
theorem d_M_goes_29 : decode prog_5_method_5_code 29 = .ok (.aload_n 0, 1) := by decide +kernel
theorem d_M_goes_30 : decode prog_5_method_5_code 30 = .ok (.getfield 48, 3) := by decide +kernel
theorem d_M_goes_33 : decode prog_5_method_5_code 33 = .ok (.ifCond .ne 7, 3) := by decide +kernel
theorem d_M_goes_36 : decode prog_5_method_5_code 36 = .ok (.iconst 1, 1) := by decide +kernel
theorem d_M_goes_37 : decode prog_5_method_5_code 37 = .ok (.goto 4, 3) := by decide +kernel
theorem d_M_goes_40 : decode prog_5_method_5_code 40 = .ok (.iconst 0, 1) := by decide +kernel
theorem d_M_goes_41 : decode prog_5_method_5_code 41 = .ok (.ireturn, 1) := by decide +kernel
theorem d_M_take_0 : decode prog_5_method_15_code 0 = .ok (.aload_n 0, 1) := by decide +kernel
theorem d_M_take_1 : decode prog_5_method_15_code 1 = .ok (.iconst 0, 1) := by decide +kernel
theorem d_M_take_2 : decode prog_5_method_15_code 2 = .ok (.putfield 59, 3) := by decide +kernel
theorem d_M_take_5 : decode prog_5_method_15_code 5 = .ok (.iconst 0, 1) := by decide +kernel
theorem d_M_take_6 : decode prog_5_method_15_code 6 = .ok (.istore 4, 2) := by decide +kernel
theorem d_M_take_8 : decode prog_5_method_15_code 8 = .ok (.iload 4, 2) := by decide +kernel
theorem d_M_take_10 : decode prog_5_method_15_code 10 = .ok (.aload_n 0, 1) := by decide +kernel
theorem d_M_take_11 : decode prog_5_method_15_code 11 = .ok (.getfield 26, 3) := by decide +kernel
theorem d_M_take_14 : decode prog_5_method_15_code 14 = .ok (.iload_n 1, 1) := by decide +kernel
theorem d_M_take_15 : decode prog_5_method_15_code 15 = .ok (.iaload, 1) := by decide +kernel
theorem d_M_take_16 : decode prog_5_method_15_code 16 = .ok (.if_icmp .ge 73, 3) := by decide +kernel
theorem d_M_take_19 : decode prog_5_method_15_code 19 = .ok (.iload 4, 2) := by decide +kernel
theorem d_M_take_21 : decode prog_5_method_15_code 21 = .ok (.iload_n 2, 1) := by decide +kernel
theorem d_M_take_22 : decode prog_5_method_15_code 22 = .ok (.if_icmp .eq 61, 3) := by decide +kernel
theorem d_M_take_25 : decode prog_5_method_15_code 25 = .ok (.iload 4, 2) := by decide +kernel
theorem d_M_take_27 : decode prog_5_method_15_code 27 = .ok (.iload_n 3, 1) := by decide +kernel
theorem d_M_take_28 : decode prog_5_method_15_code 28 = .ok (.if_icmp .eq 55, 3) := by decide +kernel
theorem d_M_take_31 : decode prog_5_method_15_code 31 = .ok (.aload_n 0, 1) := by decide +kernel
theorem d_M_take_32 : decode prog_5_method_15_code 32 = .ok (.getfield 35, 3) := by decide +kernel
theorem d_M_take_35 : decode prog_5_method_15_code 35 = .ok (.aload_n 0, 1) := by decide +kernel
theorem d_M_take_36 : decode prog_5_method_15_code 36 = .ok (.getfield 59, 3) := by decide +kernel
theorem d_M_take_39 : decode prog_5_method_15_code 39 = .ok (.aload_n 0, 1) := by decide +kernel
theorem d_M_take_40 : decode prog_5_method_15_code 40 = .ok (.getfield 29, 3) := by decide +kernel
theorem d_M_take_43 : decode prog_5_method_15_code 43 = .ok (.iconst 4, 1) := by decide +kernel
theorem d_M_take_44 : decode prog_5_method_15_code 44 = .ok (.iload_n 1, 1) := by decide +kernel
theorem d_M_take_45 : decode prog_5_method_15_code 45 = .ok (.imul, 1) := by decide +kernel
theorem d_M_take_46 : decode prog_5_method_15_code 46 = .ok (.iload 4, 2) := by decide +kernel
theorem d_M_take_48 : decode prog_5_method_15_code 48 = .ok (.iadd, 1) := by decide +kernel
theorem d_M_take_49 : decode prog_5_method_15_code 49 = .ok (.iaload, 1) := by decide +kernel
theorem d_M_take_50 : decode prog_5_method_15_code 50 = .ok (.i2l, 1) := by decide +kernel
theorem d_M_take_51 : decode prog_5_method_15_code 51 = .ok (.lastore, 1) := by decide +kernel
theorem d_M_take_52 : decode prog_5_method_15_code 52 = .ok (.aload_n 0, 1) := by decide +kernel
theorem d_M_take_53 : decode prog_5_method_15_code 53 = .ok (.getfield 38, 3) := by decide +kernel
theorem d_M_take_56 : decode prog_5_method_15_code 56 = .ok (.aload_n 0, 1) := by decide +kernel
theorem d_M_take_57 : decode prog_5_method_15_code 57 = .ok (.getfield 59, 3) := by decide +kernel
theorem d_M_take_60 : decode prog_5_method_15_code 60 = .ok (.aload_n 0, 1) := by decide +kernel
theorem d_M_take_61 : decode prog_5_method_15_code 61 = .ok (.getfield 32, 3) := by decide +kernel
theorem d_M_take_64 : decode prog_5_method_15_code 64 = .ok (.iconst 4, 1) := by decide +kernel
theorem d_M_take_65 : decode prog_5_method_15_code 65 = .ok (.iload_n 1, 1) := by decide +kernel
theorem d_M_take_66 : decode prog_5_method_15_code 66 = .ok (.imul, 1) := by decide +kernel
theorem d_M_take_67 : decode prog_5_method_15_code 67 = .ok (.iload 4, 2) := by decide +kernel
theorem d_M_take_69 : decode prog_5_method_15_code 69 = .ok (.iadd, 1) := by decide +kernel
theorem d_M_take_70 : decode prog_5_method_15_code 70 = .ok (.iaload, 1) := by decide +kernel
theorem d_M_take_71 : decode prog_5_method_15_code 71 = .ok (.i2l, 1) := by decide +kernel
theorem d_M_take_72 : decode prog_5_method_15_code 72 = .ok (.lastore, 1) := by decide +kernel
theorem d_M_take_73 : decode prog_5_method_15_code 73 = .ok (.aload_n 0, 1) := by decide +kernel
theorem d_M_take_74 : decode prog_5_method_15_code 74 = .ok (.dup, 1) := by decide +kernel
theorem d_M_take_75 : decode prog_5_method_15_code 75 = .ok (.getfield 59, 3) := by decide +kernel
theorem d_M_take_78 : decode prog_5_method_15_code 78 = .ok (.iconst 1, 1) := by decide +kernel
theorem d_M_take_79 : decode prog_5_method_15_code 79 = .ok (.iadd, 1) := by decide +kernel
theorem d_M_take_80 : decode prog_5_method_15_code 80 = .ok (.putfield 59, 3) := by decide +kernel
theorem d_M_take_83 : decode prog_5_method_15_code 83 = .ok (.iinc 4 1, 3) := by decide +kernel
theorem d_M_take_86 : decode prog_5_method_15_code 86 = .ok (.goto (-78), 3) := by decide +kernel
theorem d_M_take_89 : decode prog_5_method_15_code 89 = .ok (.return_, 1) := by decide +kernel
theorem d_M_pick_0 : decode prog_5_method_23_code 0 = .ok (.aload_n 0, 1) := by decide +kernel
theorem d_M_pick_1 : decode prog_5_method_23_code 1 = .ok (.iload_n 1, 1) := by decide +kernel
theorem d_M_pick_2 : decode prog_5_method_23_code 2 = .ok (.iload_n 2, 1) := by decide +kernel
theorem d_M_pick_3 : decode prog_5_method_23_code 3 = .ok (.invokevirtual 105, 3) := by decide +kernel
theorem d_M_pick_6 : decode prog_5_method_23_code 6 = .ok (.ifCond .eq 25, 3) := by decide +kernel
theorem d_M_pick_9 : decode prog_5_method_23_code 9 = .ok (.iload_n 3, 1) := by decide +kernel
theorem d_M_pick_10 : decode prog_5_method_23_code 10 = .ok (.ifCond .lt 21, 3) := by decide +kernel
theorem d_M_pick_13 : decode prog_5_method_23_code 13 = .ok (.iload_n 3, 1) := by decide +kernel
theorem d_M_pick_14 : decode prog_5_method_23_code 14 = .ok (.aload_n 0, 1) := by decide +kernel
theorem d_M_pick_15 : decode prog_5_method_23_code 15 = .ok (.getfield 29, 3) := by decide +kernel
theorem d_M_pick_18 : decode prog_5_method_23_code 18 = .ok (.iconst 4, 1) := by decide +kernel
theorem d_M_pick_19 : decode prog_5_method_23_code 19 = .ok (.iload_n 1, 1) := by decide +kernel
theorem d_M_pick_20 : decode prog_5_method_23_code 20 = .ok (.imul, 1) := by decide +kernel
theorem d_M_pick_21 : decode prog_5_method_23_code 21 = .ok (.iload_n 2, 1) := by decide +kernel
theorem d_M_pick_22 : decode prog_5_method_23_code 22 = .ok (.iadd, 1) := by decide +kernel
theorem d_M_pick_23 : decode prog_5_method_23_code 23 = .ok (.iaload, 1) := by decide +kernel
theorem d_M_pick_24 : decode prog_5_method_23_code 24 = .ok (.if_icmp .ge 7, 3) := by decide +kernel
theorem d_M_pick_27 : decode prog_5_method_23_code 27 = .ok (.iconst 1, 1) := by decide +kernel
theorem d_M_pick_28 : decode prog_5_method_23_code 28 = .ok (.goto 4, 3) := by decide +kernel
theorem d_M_pick_31 : decode prog_5_method_23_code 31 = .ok (.iconst 0, 1) := by decide +kernel
theorem d_M_pick_32 : decode prog_5_method_23_code 32 = .ok (.istore 4, 2) := by decide +kernel
theorem d_M_pick_34 : decode prog_5_method_23_code 34 = .ok (.aload_n 0, 1) := by decide +kernel
theorem d_M_pick_35 : decode prog_5_method_23_code 35 = .ok (.iload 4, 2) := by decide +kernel
theorem d_M_pick_37 : decode prog_5_method_23_code 37 = .ok (.aload_n 0, 1) := by decide +kernel
theorem d_M_pick_38 : decode prog_5_method_23_code 38 = .ok (.getfield 52, 3) := by decide +kernel
theorem d_M_pick_41 : decode prog_5_method_23_code 41 = .ok (.bipush 80, 2) := by decide +kernel
theorem d_M_pick_43 : decode prog_5_method_23_code 43 = .ok (.if_icmp .ge 7, 3) := by decide +kernel
theorem d_M_pick_46 : decode prog_5_method_23_code 46 = .ok (.iconst 1, 1) := by decide +kernel
theorem d_M_pick_47 : decode prog_5_method_23_code 47 = .ok (.goto 4, 3) := by decide +kernel
theorem d_M_pick_50 : decode prog_5_method_23_code 50 = .ok (.iconst 0, 1) := by decide +kernel
theorem d_M_pick_51 : decode prog_5_method_23_code 51 = .ok (.invokevirtual 90, 3) := by decide +kernel
theorem d_M_pick_54 : decode prog_5_method_23_code 54 = .ok (.ifCond .ne 5, 3) := by decide +kernel
theorem d_M_pick_57 : decode prog_5_method_23_code 57 = .ok (.iconst 0, 1) := by decide +kernel
theorem d_M_pick_58 : decode prog_5_method_23_code 58 = .ok (.ireturn, 1) := by decide +kernel
theorem d_M_pick_59 : decode prog_5_method_23_code 59 = .ok (.aload_n 0, 1) := by decide +kernel
theorem d_M_pick_60 : decode prog_5_method_23_code 60 = .ok (.iload_n 1, 1) := by decide +kernel
theorem d_M_pick_61 : decode prog_5_method_23_code 61 = .ok (.iload_n 2, 1) := by decide +kernel
theorem d_M_pick_62 : decode prog_5_method_23_code 62 = .ok (.iconst (-1), 1) := by decide +kernel
theorem d_M_pick_63 : decode prog_5_method_23_code 63 = .ok (.invokevirtual 113, 3) := by decide +kernel
theorem d_M_pick_66 : decode prog_5_method_23_code 66 = .ok (.aload_n 0, 1) := by decide +kernel
theorem d_M_pick_67 : decode prog_5_method_23_code 67 = .ok (.aload_n 0, 1) := by decide +kernel
theorem d_M_pick_68 : decode prog_5_method_23_code 68 = .ok (.getfield 20, 3) := by decide +kernel
theorem d_M_pick_71 : decode prog_5_method_23_code 71 = .ok (.iload_n 1, 1) := by decide +kernel
theorem d_M_pick_72 : decode prog_5_method_23_code 72 = .ok (.iaload, 1) := by decide +kernel
theorem d_M_pick_73 : decode prog_5_method_23_code 73 = .ok (.aload_n 0, 1) := by decide +kernel
theorem d_M_pick_74 : decode prog_5_method_23_code 74 = .ok (.getfield 23, 3) := by decide +kernel
theorem d_M_pick_77 : decode prog_5_method_23_code 77 = .ok (.iload_n 1, 1) := by decide +kernel
theorem d_M_pick_78 : decode prog_5_method_23_code 78 = .ok (.iaload, 1) := by decide +kernel
theorem d_M_pick_79 : decode prog_5_method_23_code 79 = .ok (.i2l, 1) := by decide +kernel
theorem d_M_pick_80 : decode prog_5_method_23_code 80 = .ok (.iload_n 3, 1) := by decide +kernel
theorem d_M_pick_81 : decode prog_5_method_23_code 81 = .ok (.i2l, 1) := by decide +kernel
theorem d_M_pick_82 : decode prog_5_method_23_code 82 = .ok (.aload_n 0, 1) := by decide +kernel
theorem d_M_pick_83 : decode prog_5_method_23_code 83 = .ok (.getfield 32, 3) := by decide +kernel
theorem d_M_pick_86 : decode prog_5_method_23_code 86 = .ok (.iconst 4, 1) := by decide +kernel
theorem d_M_pick_87 : decode prog_5_method_23_code 87 = .ok (.iload_n 1, 1) := by decide +kernel
theorem d_M_pick_88 : decode prog_5_method_23_code 88 = .ok (.imul, 1) := by decide +kernel
theorem d_M_pick_89 : decode prog_5_method_23_code 89 = .ok (.iload_n 2, 1) := by decide +kernel
theorem d_M_pick_90 : decode prog_5_method_23_code 90 = .ok (.iadd, 1) := by decide +kernel
theorem d_M_pick_91 : decode prog_5_method_23_code 91 = .ok (.iaload, 1) := by decide +kernel
theorem d_M_pick_92 : decode prog_5_method_23_code 92 = .ok (.i2l, 1) := by decide +kernel
theorem d_M_pick_93 : decode prog_5_method_23_code 93 = .ok (.lmul, 1) := by decide +kernel
theorem d_M_pick_94 : decode prog_5_method_23_code 94 = .ok (.ladd, 1) := by decide +kernel
theorem d_M_pick_95 : decode prog_5_method_23_code 95 = .ok (.invokevirtual 101, 3) := by decide +kernel
theorem d_M_pick_98 : decode prog_5_method_23_code 98 = .ok (.ireturn, 1) := by decide +kernel
theorem d_M_turn_0 : decode prog_5_method_24_code 0 = .ok (.aload_n 0, 1) := by decide +kernel
theorem d_M_turn_1 : decode prog_5_method_24_code 1 = .ok (.aload_n 0, 1) := by decide +kernel
theorem d_M_turn_2 : decode prog_5_method_24_code 2 = .ok (.iload_n 1, 1) := by decide +kernel
theorem d_M_turn_3 : decode prog_5_method_24_code 3 = .ok (.iload_n 2, 1) := by decide +kernel
theorem d_M_turn_4 : decode prog_5_method_24_code 4 = .ok (.invokevirtual 105, 3) := by decide +kernel
theorem d_M_turn_7 : decode prog_5_method_24_code 7 = .ok (.ifCond .eq 16, 3) := by decide +kernel
theorem d_M_turn_10 : decode prog_5_method_24_code 10 = .ok (.aload_n 0, 1) := by decide +kernel
theorem d_M_turn_11 : decode prog_5_method_24_code 11 = .ok (.iload_n 1, 1) := by decide +kernel
theorem d_M_turn_12 : decode prog_5_method_24_code 12 = .ok (.iload_n 3, 1) := by decide +kernel
theorem d_M_turn_13 : decode prog_5_method_24_code 13 = .ok (.invokevirtual 105, 3) := by decide +kernel
theorem d_M_turn_16 : decode prog_5_method_24_code 16 = .ok (.ifCond .eq 7, 3) := by decide +kernel
theorem d_M_turn_19 : decode prog_5_method_24_code 19 = .ok (.iconst 1, 1) := by decide +kernel
theorem d_M_turn_20 : decode prog_5_method_24_code 20 = .ok (.goto 4, 3) := by decide +kernel
theorem d_M_turn_23 : decode prog_5_method_24_code 23 = .ok (.iconst 0, 1) := by decide +kernel
theorem d_M_turn_24 : decode prog_5_method_24_code 24 = .ok (.aload_n 0, 1) := by decide +kernel
theorem d_M_turn_25 : decode prog_5_method_24_code 25 = .ok (.getfield 52, 3) := by decide +kernel
theorem d_M_turn_28 : decode prog_5_method_24_code 28 = .ok (.bipush 80, 2) := by decide +kernel
theorem d_M_turn_30 : decode prog_5_method_24_code 30 = .ok (.if_icmp .ge 7, 3) := by decide +kernel
theorem d_M_turn_33 : decode prog_5_method_24_code 33 = .ok (.iconst 1, 1) := by decide +kernel
theorem d_M_turn_34 : decode prog_5_method_24_code 34 = .ok (.goto 4, 3) := by decide +kernel
theorem d_M_turn_37 : decode prog_5_method_24_code 37 = .ok (.iconst 0, 1) := by decide +kernel
theorem d_M_turn_38 : decode prog_5_method_24_code 38 = .ok (.invokevirtual 90, 3) := by decide +kernel
theorem d_M_turn_41 : decode prog_5_method_24_code 41 = .ok (.ifCond .ne 5, 3) := by decide +kernel
theorem d_M_turn_44 : decode prog_5_method_24_code 44 = .ok (.iconst 0, 1) := by decide +kernel
theorem d_M_turn_45 : decode prog_5_method_24_code 45 = .ok (.ireturn, 1) := by decide +kernel
theorem d_M_turn_46 : decode prog_5_method_24_code 46 = .ok (.aload_n 0, 1) := by decide +kernel
theorem d_M_turn_47 : decode prog_5_method_24_code 47 = .ok (.iload_n 1, 1) := by decide +kernel
theorem d_M_turn_48 : decode prog_5_method_24_code 48 = .ok (.iconst (-1), 1) := by decide +kernel
theorem d_M_turn_49 : decode prog_5_method_24_code 49 = .ok (.iconst (-1), 1) := by decide +kernel
theorem d_M_turn_50 : decode prog_5_method_24_code 50 = .ok (.invokevirtual 113, 3) := by decide +kernel
theorem d_M_turn_53 : decode prog_5_method_24_code 53 = .ok (.aload_n 0, 1) := by decide +kernel
theorem d_M_turn_54 : decode prog_5_method_24_code 54 = .ok (.getfield 35, 3) := by decide +kernel
theorem d_M_turn_57 : decode prog_5_method_24_code 57 = .ok (.iload_n 2, 1) := by decide +kernel
theorem d_M_turn_58 : decode prog_5_method_24_code 58 = .ok (.aload_n 0, 1) := by decide +kernel
theorem d_M_turn_59 : decode prog_5_method_24_code 59 = .ok (.getfield 29, 3) := by decide +kernel
theorem d_M_turn_62 : decode prog_5_method_24_code 62 = .ok (.iconst 4, 1) := by decide +kernel
theorem d_M_turn_63 : decode prog_5_method_24_code 63 = .ok (.iload_n 1, 1) := by decide +kernel
theorem d_M_turn_64 : decode prog_5_method_24_code 64 = .ok (.imul, 1) := by decide +kernel
theorem d_M_turn_65 : decode prog_5_method_24_code 65 = .ok (.iload_n 3, 1) := by decide +kernel
theorem d_M_turn_66 : decode prog_5_method_24_code 66 = .ok (.iadd, 1) := by decide +kernel
theorem d_M_turn_67 : decode prog_5_method_24_code 67 = .ok (.iaload, 1) := by decide +kernel
theorem d_M_turn_68 : decode prog_5_method_24_code 68 = .ok (.i2l, 1) := by decide +kernel
theorem d_M_turn_69 : decode prog_5_method_24_code 69 = .ok (.lastore, 1) := by decide +kernel
theorem d_M_turn_70 : decode prog_5_method_24_code 70 = .ok (.aload_n 0, 1) := by decide +kernel
theorem d_M_turn_71 : decode prog_5_method_24_code 71 = .ok (.getfield 38, 3) := by decide +kernel
theorem d_M_turn_74 : decode prog_5_method_24_code 74 = .ok (.iload_n 2, 1) := by decide +kernel
theorem d_M_turn_75 : decode prog_5_method_24_code 75 = .ok (.aload_n 0, 1) := by decide +kernel
theorem d_M_turn_76 : decode prog_5_method_24_code 76 = .ok (.getfield 32, 3) := by decide +kernel
theorem d_M_turn_79 : decode prog_5_method_24_code 79 = .ok (.iconst 4, 1) := by decide +kernel
theorem d_M_turn_80 : decode prog_5_method_24_code 80 = .ok (.iload_n 1, 1) := by decide +kernel
theorem d_M_turn_81 : decode prog_5_method_24_code 81 = .ok (.imul, 1) := by decide +kernel
theorem d_M_turn_82 : decode prog_5_method_24_code 82 = .ok (.iload_n 3, 1) := by decide +kernel
theorem d_M_turn_83 : decode prog_5_method_24_code 83 = .ok (.iadd, 1) := by decide +kernel
theorem d_M_turn_84 : decode prog_5_method_24_code 84 = .ok (.iaload, 1) := by decide +kernel
theorem d_M_turn_85 : decode prog_5_method_24_code 85 = .ok (.i2l, 1) := by decide +kernel
theorem d_M_turn_86 : decode prog_5_method_24_code 86 = .ok (.lastore, 1) := by decide +kernel
theorem d_M_turn_87 : decode prog_5_method_24_code 87 = .ok (.aload_n 0, 1) := by decide +kernel
theorem d_M_turn_88 : decode prog_5_method_24_code 88 = .ok (.getfield 35, 3) := by decide +kernel
theorem d_M_turn_91 : decode prog_5_method_24_code 91 = .ok (.iload_n 3, 1) := by decide +kernel
theorem d_M_turn_92 : decode prog_5_method_24_code 92 = .ok (.aload_n 0, 1) := by decide +kernel
theorem d_M_turn_93 : decode prog_5_method_24_code 93 = .ok (.getfield 29, 3) := by decide +kernel
theorem d_M_turn_96 : decode prog_5_method_24_code 96 = .ok (.iconst 4, 1) := by decide +kernel
theorem d_M_turn_97 : decode prog_5_method_24_code 97 = .ok (.iload_n 1, 1) := by decide +kernel
theorem d_M_turn_98 : decode prog_5_method_24_code 98 = .ok (.imul, 1) := by decide +kernel
theorem d_M_turn_99 : decode prog_5_method_24_code 99 = .ok (.iload_n 2, 1) := by decide +kernel
theorem d_M_turn_100 : decode prog_5_method_24_code 100 = .ok (.iadd, 1) := by decide +kernel
theorem d_M_turn_101 : decode prog_5_method_24_code 101 = .ok (.iaload, 1) := by decide +kernel
theorem d_M_turn_102 : decode prog_5_method_24_code 102 = .ok (.i2l, 1) := by decide +kernel
theorem d_M_turn_103 : decode prog_5_method_24_code 103 = .ok (.lastore, 1) := by decide +kernel
theorem d_M_turn_104 : decode prog_5_method_24_code 104 = .ok (.aload_n 0, 1) := by decide +kernel
theorem d_M_turn_105 : decode prog_5_method_24_code 105 = .ok (.getfield 38, 3) := by decide +kernel
theorem d_M_turn_108 : decode prog_5_method_24_code 108 = .ok (.iload_n 3, 1) := by decide +kernel
theorem d_M_turn_109 : decode prog_5_method_24_code 109 = .ok (.aload_n 0, 1) := by decide +kernel
theorem d_M_turn_110 : decode prog_5_method_24_code 110 = .ok (.getfield 32, 3) := by decide +kernel
theorem d_M_turn_113 : decode prog_5_method_24_code 113 = .ok (.iconst 4, 1) := by decide +kernel
theorem d_M_turn_114 : decode prog_5_method_24_code 114 = .ok (.iload_n 1, 1) := by decide +kernel
theorem d_M_turn_115 : decode prog_5_method_24_code 115 = .ok (.imul, 1) := by decide +kernel
theorem d_M_turn_116 : decode prog_5_method_24_code 116 = .ok (.iload_n 2, 1) := by decide +kernel
theorem d_M_turn_117 : decode prog_5_method_24_code 117 = .ok (.iadd, 1) := by decide +kernel
theorem d_M_turn_118 : decode prog_5_method_24_code 118 = .ok (.iaload, 1) := by decide +kernel
theorem d_M_turn_119 : decode prog_5_method_24_code 119 = .ok (.i2l, 1) := by decide +kernel
theorem d_M_turn_120 : decode prog_5_method_24_code 120 = .ok (.lastore, 1) := by decide +kernel
theorem d_M_turn_121 : decode prog_5_method_24_code 121 = .ok (.aload_n 0, 1) := by decide +kernel
theorem d_M_turn_122 : decode prog_5_method_24_code 122 = .ok (.aload_n 0, 1) := by decide +kernel
theorem d_M_turn_123 : decode prog_5_method_24_code 123 = .ok (.getfield 20, 3) := by decide +kernel
theorem d_M_turn_126 : decode prog_5_method_24_code 126 = .ok (.iload_n 1, 1) := by decide +kernel
theorem d_M_turn_127 : decode prog_5_method_24_code 127 = .ok (.iaload, 1) := by decide +kernel
theorem d_M_turn_128 : decode prog_5_method_24_code 128 = .ok (.aload_n 0, 1) := by decide +kernel
theorem d_M_turn_129 : decode prog_5_method_24_code 129 = .ok (.getfield 23, 3) := by decide +kernel
theorem d_M_turn_132 : decode prog_5_method_24_code 132 = .ok (.iload_n 1, 1) := by decide +kernel
theorem d_M_turn_133 : decode prog_5_method_24_code 133 = .ok (.iaload, 1) := by decide +kernel
theorem d_M_turn_134 : decode prog_5_method_24_code 134 = .ok (.i2l, 1) := by decide +kernel
theorem d_M_turn_135 : decode prog_5_method_24_code 135 = .ok (.invokevirtual 101, 3) := by decide +kernel
theorem d_M_turn_138 : decode prog_5_method_24_code 138 = .ok (.ireturn, 1) := by decide +kernel
theorem d_M_spread_0 : decode prog_5_method_25_code 0 = .ok (.aload_n 0, 1) := by decide +kernel
theorem d_M_spread_1 : decode prog_5_method_25_code 1 = .ok (.iload_n 1, 1) := by decide +kernel
theorem d_M_spread_2 : decode prog_5_method_25_code 2 = .ok (.invokevirtual 55, 3) := by decide +kernel
theorem d_M_spread_5 : decode prog_5_method_25_code 5 = .ok (.ifCond .eq 21, 3) := by decide +kernel
theorem d_M_spread_8 : decode prog_5_method_25_code 8 = .ok (.iload_n 2, 1) := by decide +kernel
theorem d_M_spread_9 : decode prog_5_method_25_code 9 = .ok (.ifCond .lt 17, 3) := by decide +kernel
theorem d_M_spread_12 : decode prog_5_method_25_code 12 = .ok (.iload_n 2, 1) := by decide +kernel
theorem d_M_spread_13 : decode prog_5_method_25_code 13 = .ok (.aload_n 0, 1) := by decide +kernel
theorem d_M_spread_14 : decode prog_5_method_25_code 14 = .ok (.getfield 26, 3) := by decide +kernel
theorem d_M_spread_17 : decode prog_5_method_25_code 17 = .ok (.iload_n 1, 1) := by decide +kernel
theorem d_M_spread_18 : decode prog_5_method_25_code 18 = .ok (.iaload, 1) := by decide +kernel
theorem d_M_spread_19 : decode prog_5_method_25_code 19 = .ok (.if_icmp .gt 7, 3) := by decide +kernel
theorem d_M_spread_22 : decode prog_5_method_25_code 22 = .ok (.iconst 1, 1) := by decide +kernel
theorem d_M_spread_23 : decode prog_5_method_25_code 23 = .ok (.goto 4, 3) := by decide +kernel
theorem d_M_spread_26 : decode prog_5_method_25_code 26 = .ok (.iconst 0, 1) := by decide +kernel
theorem d_M_spread_27 : decode prog_5_method_25_code 27 = .ok (.istore 4, 2) := by decide +kernel
theorem d_M_spread_29 : decode prog_5_method_25_code 29 = .ok (.aload_n 0, 1) := by decide +kernel
theorem d_M_spread_30 : decode prog_5_method_25_code 30 = .ok (.getfield 52, 3) := by decide +kernel
theorem d_M_spread_33 : decode prog_5_method_25_code 33 = .ok (.bipush 80, 2) := by decide +kernel
theorem d_M_spread_35 : decode prog_5_method_25_code 35 = .ok (.if_icmp .ge 7, 3) := by decide +kernel
theorem d_M_spread_38 : decode prog_5_method_25_code 38 = .ok (.iconst 1, 1) := by decide +kernel
theorem d_M_spread_39 : decode prog_5_method_25_code 39 = .ok (.goto 4, 3) := by decide +kernel
theorem d_M_spread_42 : decode prog_5_method_25_code 42 = .ok (.iconst 0, 1) := by decide +kernel
theorem d_M_spread_43 : decode prog_5_method_25_code 43 = .ok (.istore 5, 2) := by decide +kernel
theorem d_M_spread_45 : decode prog_5_method_25_code 45 = .ok (.iload 4, 2) := by decide +kernel
theorem d_M_spread_47 : decode prog_5_method_25_code 47 = .ok (.ifCond .eq 115, 3) := by decide +kernel
theorem d_M_spread_50 : decode prog_5_method_25_code 50 = .ok (.iload_n 3, 1) := by decide +kernel
theorem d_M_spread_51 : decode prog_5_method_25_code 51 = .ok (.ifCond .lt 111, 3) := by decide +kernel
theorem d_M_spread_54 : decode prog_5_method_25_code 54 = .ok (.aload_n 0, 1) := by decide +kernel
theorem d_M_spread_55 : decode prog_5_method_25_code 55 = .ok (.iconst 0, 1) := by decide +kernel
theorem d_M_spread_56 : decode prog_5_method_25_code 56 = .ok (.putfield 59, 3) := by decide +kernel
theorem d_M_spread_59 : decode prog_5_method_25_code 59 = .ok (.iconst 0, 1) := by decide +kernel
theorem d_M_spread_60 : decode prog_5_method_25_code 60 = .ok (.istore 6, 2) := by decide +kernel
theorem d_M_spread_62 : decode prog_5_method_25_code 62 = .ok (.iload 6, 2) := by decide +kernel
theorem d_M_spread_64 : decode prog_5_method_25_code 64 = .ok (.aload_n 0, 1) := by decide +kernel
theorem d_M_spread_65 : decode prog_5_method_25_code 65 = .ok (.getfield 26, 3) := by decide +kernel
theorem d_M_spread_68 : decode prog_5_method_25_code 68 = .ok (.iload_n 1, 1) := by decide +kernel
theorem d_M_spread_69 : decode prog_5_method_25_code 69 = .ok (.iaload, 1) := by decide +kernel
theorem d_M_spread_70 : decode prog_5_method_25_code 70 = .ok (.if_icmp .gt 61, 3) := by decide +kernel
theorem d_M_spread_73 : decode prog_5_method_25_code 73 = .ok (.iload 6, 2) := by decide +kernel
theorem d_M_spread_75 : decode prog_5_method_25_code 75 = .ok (.iload_n 2, 1) := by decide +kernel
theorem d_M_spread_76 : decode prog_5_method_25_code 76 = .ok (.if_icmp .ne 10, 3) := by decide +kernel
theorem d_M_spread_79 : decode prog_5_method_25_code 79 = .ok (.aload_n 0, 1) := by decide +kernel
theorem d_M_spread_80 : decode prog_5_method_25_code 80 = .ok (.iload_n 3, 1) := by decide +kernel
theorem d_M_spread_81 : decode prog_5_method_25_code 81 = .ok (.i2l, 1) := by decide +kernel
theorem d_M_spread_82 : decode prog_5_method_25_code 82 = .ok (.lconst 0, 1) := by decide +kernel
theorem d_M_spread_83 : decode prog_5_method_25_code 83 = .ok (.invokevirtual 94, 3) := by decide +kernel
theorem d_M_spread_86 : decode prog_5_method_25_code 86 = .ok (.iload 6, 2) := by decide +kernel
theorem d_M_spread_88 : decode prog_5_method_25_code 88 = .ok (.aload_n 0, 1) := by decide +kernel
theorem d_M_spread_89 : decode prog_5_method_25_code 89 = .ok (.getfield 26, 3) := by decide +kernel
theorem d_M_spread_92 : decode prog_5_method_25_code 92 = .ok (.iload_n 1, 1) := by decide +kernel
theorem d_M_spread_93 : decode prog_5_method_25_code 93 = .ok (.iaload, 1) := by decide +kernel
theorem d_M_spread_94 : decode prog_5_method_25_code 94 = .ok (.if_icmp .ge 31, 3) := by decide +kernel
theorem d_M_spread_97 : decode prog_5_method_25_code 97 = .ok (.aload_n 0, 1) := by decide +kernel
theorem d_M_spread_98 : decode prog_5_method_25_code 98 = .ok (.aload_n 0, 1) := by decide +kernel
theorem d_M_spread_99 : decode prog_5_method_25_code 99 = .ok (.getfield 29, 3) := by decide +kernel
theorem d_M_spread_102 : decode prog_5_method_25_code 102 = .ok (.iconst 4, 1) := by decide +kernel
theorem d_M_spread_103 : decode prog_5_method_25_code 103 = .ok (.iload_n 1, 1) := by decide +kernel
theorem d_M_spread_104 : decode prog_5_method_25_code 104 = .ok (.imul, 1) := by decide +kernel
theorem d_M_spread_105 : decode prog_5_method_25_code 105 = .ok (.iload 6, 2) := by decide +kernel
theorem d_M_spread_107 : decode prog_5_method_25_code 107 = .ok (.iadd, 1) := by decide +kernel
theorem d_M_spread_108 : decode prog_5_method_25_code 108 = .ok (.iaload, 1) := by decide +kernel
theorem d_M_spread_109 : decode prog_5_method_25_code 109 = .ok (.i2l, 1) := by decide +kernel
theorem d_M_spread_110 : decode prog_5_method_25_code 110 = .ok (.aload_n 0, 1) := by decide +kernel
theorem d_M_spread_111 : decode prog_5_method_25_code 111 = .ok (.getfield 32, 3) := by decide +kernel
theorem d_M_spread_114 : decode prog_5_method_25_code 114 = .ok (.iconst 4, 1) := by decide +kernel
theorem d_M_spread_115 : decode prog_5_method_25_code 115 = .ok (.iload_n 1, 1) := by decide +kernel
theorem d_M_spread_116 : decode prog_5_method_25_code 116 = .ok (.imul, 1) := by decide +kernel
theorem d_M_spread_117 : decode prog_5_method_25_code 117 = .ok (.iload 6, 2) := by decide +kernel
theorem d_M_spread_119 : decode prog_5_method_25_code 119 = .ok (.iadd, 1) := by decide +kernel
theorem d_M_spread_120 : decode prog_5_method_25_code 120 = .ok (.iaload, 1) := by decide +kernel
theorem d_M_spread_121 : decode prog_5_method_25_code 121 = .ok (.i2l, 1) := by decide +kernel
theorem d_M_spread_122 : decode prog_5_method_25_code 122 = .ok (.invokevirtual 94, 3) := by decide +kernel
theorem d_M_spread_125 : decode prog_5_method_25_code 125 = .ok (.iinc 6 1, 3) := by decide +kernel
theorem d_M_spread_128 : decode prog_5_method_25_code 128 = .ok (.goto (-66), 3) := by decide +kernel
theorem d_M_spread_131 : decode prog_5_method_25_code 131 = .ok (.iload 5, 2) := by decide +kernel
theorem d_M_spread_133 : decode prog_5_method_25_code 133 = .ok (.ifCond .eq 26, 3) := by decide +kernel
theorem d_M_spread_136 : decode prog_5_method_25_code 136 = .ok (.aload_n 0, 1) := by decide +kernel
theorem d_M_spread_137 : decode prog_5_method_25_code 137 = .ok (.getfield 59, 3) := by decide +kernel
theorem d_M_spread_140 : decode prog_5_method_25_code 140 = .ok (.iconst 5, 1) := by decide +kernel
theorem d_M_spread_141 : decode prog_5_method_25_code 141 = .ok (.if_icmp .ge 18, 3) := by decide +kernel
theorem d_M_spread_144 : decode prog_5_method_25_code 144 = .ok (.aload_n 0, 1) := by decide +kernel
theorem d_M_spread_145 : decode prog_5_method_25_code 145 = .ok (.invokevirtual 78, 3) := by decide +kernel
theorem d_M_spread_148 : decode prog_5_method_25_code 148 = .ok (.ldc2_w 62, 3) := by decide +kernel
theorem d_M_spread_151 : decode prog_5_method_25_code 151 = .ok (.lcmp, 1) := by decide +kernel
theorem d_M_spread_152 : decode prog_5_method_25_code 152 = .ok (.ifCond .gt 7, 3) := by decide +kernel
theorem d_M_spread_155 : decode prog_5_method_25_code 155 = .ok (.iconst 1, 1) := by decide +kernel
theorem d_M_spread_156 : decode prog_5_method_25_code 156 = .ok (.goto 4, 3) := by decide +kernel
theorem d_M_spread_159 : decode prog_5_method_25_code 159 = .ok (.iconst 0, 1) := by decide +kernel
theorem d_M_spread_160 : decode prog_5_method_25_code 160 = .ok (.istore 5, 2) := by decide +kernel
theorem d_M_spread_162 : decode prog_5_method_25_code 162 = .ok (.aload_n 0, 1) := by decide +kernel
theorem d_M_spread_163 : decode prog_5_method_25_code 163 = .ok (.iload 4, 2) := by decide +kernel
theorem d_M_spread_165 : decode prog_5_method_25_code 165 = .ok (.iload_n 3, 1) := by decide +kernel
theorem d_M_spread_166 : decode prog_5_method_25_code 166 = .ok (.ifCond .lt 7, 3) := by decide +kernel
theorem d_M_spread_169 : decode prog_5_method_25_code 169 = .ok (.iconst 1, 1) := by decide +kernel
theorem d_M_spread_170 : decode prog_5_method_25_code 170 = .ok (.goto 4, 3) := by decide +kernel
theorem d_M_spread_173 : decode prog_5_method_25_code 173 = .ok (.iconst 0, 1) := by decide +kernel
theorem d_M_spread_174 : decode prog_5_method_25_code 174 = .ok (.iload 5, 2) := by decide +kernel
theorem d_M_spread_176 : decode prog_5_method_25_code 176 = .ok (.invokevirtual 109, 3) := by decide +kernel
theorem d_M_spread_179 : decode prog_5_method_25_code 179 = .ok (.ifCond .ne 5, 3) := by decide +kernel
theorem d_M_spread_182 : decode prog_5_method_25_code 182 = .ok (.iconst 0, 1) := by decide +kernel
theorem d_M_spread_183 : decode prog_5_method_25_code 183 = .ok (.ireturn, 1) := by decide +kernel
theorem d_M_spread_184 : decode prog_5_method_25_code 184 = .ok (.aload_n 0, 1) := by decide +kernel
theorem d_M_spread_185 : decode prog_5_method_25_code 185 = .ok (.aload_n 0, 1) := by decide +kernel
theorem d_M_spread_186 : decode prog_5_method_25_code 186 = .ok (.getfield 20, 3) := by decide +kernel
theorem d_M_spread_189 : decode prog_5_method_25_code 189 = .ok (.iload_n 1, 1) := by decide +kernel
theorem d_M_spread_190 : decode prog_5_method_25_code 190 = .ok (.iaload, 1) := by decide +kernel
theorem d_M_spread_191 : decode prog_5_method_25_code 191 = .ok (.aload_n 0, 1) := by decide +kernel
theorem d_M_spread_192 : decode prog_5_method_25_code 192 = .ok (.getfield 23, 3) := by decide +kernel
theorem d_M_spread_195 : decode prog_5_method_25_code 195 = .ok (.iload_n 1, 1) := by decide +kernel
theorem d_M_spread_196 : decode prog_5_method_25_code 196 = .ok (.iaload, 1) := by decide +kernel
theorem d_M_spread_197 : decode prog_5_method_25_code 197 = .ok (.i2l, 1) := by decide +kernel
theorem d_M_spread_198 : decode prog_5_method_25_code 198 = .ok (.invokevirtual 101, 3) := by decide +kernel
theorem d_M_spread_201 : decode prog_5_method_25_code 201 = .ok (.ireturn, 1) := by decide +kernel
theorem d_M_diagonal_0 : decode prog_5_method_26_code 0 = .ok (.aload_n 0, 1) := by decide +kernel
theorem d_M_diagonal_1 : decode prog_5_method_26_code 1 = .ok (.aload_n 0, 1) := by decide +kernel
theorem d_M_diagonal_2 : decode prog_5_method_26_code 2 = .ok (.iload_n 1, 1) := by decide +kernel
theorem d_M_diagonal_3 : decode prog_5_method_26_code 3 = .ok (.iload_n 2, 1) := by decide +kernel
theorem d_M_diagonal_4 : decode prog_5_method_26_code 4 = .ok (.invokevirtual 105, 3) := by decide +kernel
theorem d_M_diagonal_7 : decode prog_5_method_26_code 7 = .ok (.ifCond .eq 16, 3) := by decide +kernel
theorem d_M_diagonal_10 : decode prog_5_method_26_code 10 = .ok (.aload_n 0, 1) := by decide +kernel
theorem d_M_diagonal_11 : decode prog_5_method_26_code 11 = .ok (.iload_n 1, 1) := by decide +kernel
theorem d_M_diagonal_12 : decode prog_5_method_26_code 12 = .ok (.iload_n 3, 1) := by decide +kernel
theorem d_M_diagonal_13 : decode prog_5_method_26_code 13 = .ok (.invokevirtual 105, 3) := by decide +kernel
theorem d_M_diagonal_16 : decode prog_5_method_26_code 16 = .ok (.ifCond .eq 7, 3) := by decide +kernel
theorem d_M_diagonal_19 : decode prog_5_method_26_code 19 = .ok (.iconst 1, 1) := by decide +kernel
theorem d_M_diagonal_20 : decode prog_5_method_26_code 20 = .ok (.goto 4, 3) := by decide +kernel
theorem d_M_diagonal_23 : decode prog_5_method_26_code 23 = .ok (.iconst 0, 1) := by decide +kernel
theorem d_M_diagonal_24 : decode prog_5_method_26_code 24 = .ok (.iload_n 2, 1) := by decide +kernel
theorem d_M_diagonal_25 : decode prog_5_method_26_code 25 = .ok (.iload_n 3, 1) := by decide +kernel
theorem d_M_diagonal_26 : decode prog_5_method_26_code 26 = .ok (.if_icmp .eq 7, 3) := by decide +kernel
theorem d_M_diagonal_29 : decode prog_5_method_26_code 29 = .ok (.iconst 1, 1) := by decide +kernel
theorem d_M_diagonal_30 : decode prog_5_method_26_code 30 = .ok (.goto 4, 3) := by decide +kernel
theorem d_M_diagonal_33 : decode prog_5_method_26_code 33 = .ok (.iconst 0, 1) := by decide +kernel
theorem d_M_diagonal_34 : decode prog_5_method_26_code 34 = .ok (.aload_n 0, 1) := by decide +kernel
theorem d_M_diagonal_35 : decode prog_5_method_26_code 35 = .ok (.getfield 52, 3) := by decide +kernel
theorem d_M_diagonal_38 : decode prog_5_method_26_code 38 = .ok (.bipush 80, 2) := by decide +kernel
theorem d_M_diagonal_40 : decode prog_5_method_26_code 40 = .ok (.if_icmp .ge 7, 3) := by decide +kernel
theorem d_M_diagonal_43 : decode prog_5_method_26_code 43 = .ok (.iconst 1, 1) := by decide +kernel
theorem d_M_diagonal_44 : decode prog_5_method_26_code 44 = .ok (.goto 4, 3) := by decide +kernel
theorem d_M_diagonal_47 : decode prog_5_method_26_code 47 = .ok (.iconst 0, 1) := by decide +kernel
theorem d_M_diagonal_48 : decode prog_5_method_26_code 48 = .ok (.invokevirtual 109, 3) := by decide +kernel
theorem d_M_diagonal_51 : decode prog_5_method_26_code 51 = .ok (.ifCond .ne 5, 3) := by decide +kernel
theorem d_M_diagonal_54 : decode prog_5_method_26_code 54 = .ok (.iconst 0, 1) := by decide +kernel
theorem d_M_diagonal_55 : decode prog_5_method_26_code 55 = .ok (.ireturn, 1) := by decide +kernel
theorem d_M_diagonal_56 : decode prog_5_method_26_code 56 = .ok (.aload_n 0, 1) := by decide +kernel
theorem d_M_diagonal_57 : decode prog_5_method_26_code 57 = .ok (.getfield 29, 3) := by decide +kernel
theorem d_M_diagonal_60 : decode prog_5_method_26_code 60 = .ok (.iconst 4, 1) := by decide +kernel
theorem d_M_diagonal_61 : decode prog_5_method_26_code 61 = .ok (.iload_n 1, 1) := by decide +kernel
theorem d_M_diagonal_62 : decode prog_5_method_26_code 62 = .ok (.imul, 1) := by decide +kernel
theorem d_M_diagonal_63 : decode prog_5_method_26_code 63 = .ok (.iload_n 2, 1) := by decide +kernel
theorem d_M_diagonal_64 : decode prog_5_method_26_code 64 = .ok (.iadd, 1) := by decide +kernel
theorem d_M_diagonal_65 : decode prog_5_method_26_code 65 = .ok (.iaload, 1) := by decide +kernel
theorem d_M_diagonal_66 : decode prog_5_method_26_code 66 = .ok (.istore 4, 2) := by decide +kernel
theorem d_M_diagonal_68 : decode prog_5_method_26_code 68 = .ok (.aload_n 0, 1) := by decide +kernel
theorem d_M_diagonal_69 : decode prog_5_method_26_code 69 = .ok (.getfield 29, 3) := by decide +kernel
theorem d_M_diagonal_72 : decode prog_5_method_26_code 72 = .ok (.iconst 4, 1) := by decide +kernel
theorem d_M_diagonal_73 : decode prog_5_method_26_code 73 = .ok (.iload_n 1, 1) := by decide +kernel
theorem d_M_diagonal_74 : decode prog_5_method_26_code 74 = .ok (.imul, 1) := by decide +kernel
theorem d_M_diagonal_75 : decode prog_5_method_26_code 75 = .ok (.iload_n 3, 1) := by decide +kernel
theorem d_M_diagonal_76 : decode prog_5_method_26_code 76 = .ok (.iadd, 1) := by decide +kernel
theorem d_M_diagonal_77 : decode prog_5_method_26_code 77 = .ok (.iaload, 1) := by decide +kernel
theorem d_M_diagonal_78 : decode prog_5_method_26_code 78 = .ok (.istore 5, 2) := by decide +kernel
theorem d_M_diagonal_80 : decode prog_5_method_26_code 80 = .ok (.aload_n 0, 1) := by decide +kernel
theorem d_M_diagonal_81 : decode prog_5_method_26_code 81 = .ok (.iload_n 1, 1) := by decide +kernel
theorem d_M_diagonal_82 : decode prog_5_method_26_code 82 = .ok (.iload_n 2, 1) := by decide +kernel
theorem d_M_diagonal_83 : decode prog_5_method_26_code 83 = .ok (.iload_n 3, 1) := by decide +kernel
theorem d_M_diagonal_84 : decode prog_5_method_26_code 84 = .ok (.invokevirtual 113, 3) := by decide +kernel
theorem d_M_diagonal_87 : decode prog_5_method_26_code 87 = .ok (.aload_n 0, 1) := by decide +kernel
theorem d_M_diagonal_88 : decode prog_5_method_26_code 88 = .ok (.iload 4, 2) := by decide +kernel
theorem d_M_diagonal_90 : decode prog_5_method_26_code 90 = .ok (.iload 5, 2) := by decide +kernel
theorem d_M_diagonal_92 : decode prog_5_method_26_code 92 = .ok (.if_icmp .ge 9, 3) := by decide +kernel
theorem d_M_diagonal_95 : decode prog_5_method_26_code 95 = .ok (.iload 4, 2) := by decide +kernel
theorem d_M_diagonal_97 : decode prog_5_method_26_code 97 = .ok (.i2l, 1) := by decide +kernel
theorem d_M_diagonal_98 : decode prog_5_method_26_code 98 = .ok (.goto 6, 3) := by decide +kernel
theorem d_M_diagonal_101 : decode prog_5_method_26_code 101 = .ok (.iload 5, 2) := by decide +kernel
theorem d_M_diagonal_103 : decode prog_5_method_26_code 103 = .ok (.i2l, 1) := by decide +kernel
theorem d_M_diagonal_104 : decode prog_5_method_26_code 104 = .ok (.aload_n 0, 1) := by decide +kernel
theorem d_M_diagonal_105 : decode prog_5_method_26_code 105 = .ok (.getfield 32, 3) := by decide +kernel
theorem d_M_diagonal_108 : decode prog_5_method_26_code 108 = .ok (.iconst 4, 1) := by decide +kernel
theorem d_M_diagonal_109 : decode prog_5_method_26_code 109 = .ok (.iload_n 1, 1) := by decide +kernel
theorem d_M_diagonal_110 : decode prog_5_method_26_code 110 = .ok (.imul, 1) := by decide +kernel
theorem d_M_diagonal_111 : decode prog_5_method_26_code 111 = .ok (.iload_n 2, 1) := by decide +kernel
theorem d_M_diagonal_112 : decode prog_5_method_26_code 112 = .ok (.iadd, 1) := by decide +kernel
theorem d_M_diagonal_113 : decode prog_5_method_26_code 113 = .ok (.iaload, 1) := by decide +kernel
theorem d_M_diagonal_114 : decode prog_5_method_26_code 114 = .ok (.i2l, 1) := by decide +kernel
theorem d_M_diagonal_115 : decode prog_5_method_26_code 115 = .ok (.aload_n 0, 1) := by decide +kernel
theorem d_M_diagonal_116 : decode prog_5_method_26_code 116 = .ok (.getfield 32, 3) := by decide +kernel
theorem d_M_diagonal_119 : decode prog_5_method_26_code 119 = .ok (.iconst 4, 1) := by decide +kernel
theorem d_M_diagonal_120 : decode prog_5_method_26_code 120 = .ok (.iload_n 1, 1) := by decide +kernel
theorem d_M_diagonal_121 : decode prog_5_method_26_code 121 = .ok (.imul, 1) := by decide +kernel
theorem d_M_diagonal_122 : decode prog_5_method_26_code 122 = .ok (.iload_n 3, 1) := by decide +kernel
theorem d_M_diagonal_123 : decode prog_5_method_26_code 123 = .ok (.iadd, 1) := by decide +kernel
theorem d_M_diagonal_124 : decode prog_5_method_26_code 124 = .ok (.iaload, 1) := by decide +kernel
theorem d_M_diagonal_125 : decode prog_5_method_26_code 125 = .ok (.i2l, 1) := by decide +kernel
theorem d_M_diagonal_126 : decode prog_5_method_26_code 126 = .ok (.ladd, 1) := by decide +kernel
theorem d_M_diagonal_127 : decode prog_5_method_26_code 127 = .ok (.invokevirtual 94, 3) := by decide +kernel
theorem d_M_diagonal_130 : decode prog_5_method_26_code 130 = .ok (.aload_n 0, 1) := by decide +kernel
theorem d_M_diagonal_131 : decode prog_5_method_26_code 131 = .ok (.aload_n 0, 1) := by decide +kernel
theorem d_M_diagonal_132 : decode prog_5_method_26_code 132 = .ok (.getfield 20, 3) := by decide +kernel
theorem d_M_diagonal_135 : decode prog_5_method_26_code 135 = .ok (.iload_n 1, 1) := by decide +kernel
theorem d_M_diagonal_136 : decode prog_5_method_26_code 136 = .ok (.iaload, 1) := by decide +kernel
theorem d_M_diagonal_137 : decode prog_5_method_26_code 137 = .ok (.aload_n 0, 1) := by decide +kernel
theorem d_M_diagonal_138 : decode prog_5_method_26_code 138 = .ok (.getfield 23, 3) := by decide +kernel
theorem d_M_diagonal_141 : decode prog_5_method_26_code 141 = .ok (.iload_n 1, 1) := by decide +kernel
theorem d_M_diagonal_142 : decode prog_5_method_26_code 142 = .ok (.iaload, 1) := by decide +kernel
theorem d_M_diagonal_143 : decode prog_5_method_26_code 143 = .ok (.i2l, 1) := by decide +kernel
theorem d_M_diagonal_144 : decode prog_5_method_26_code 144 = .ok (.invokevirtual 101, 3) := by decide +kernel
theorem d_M_diagonal_147 : decode prog_5_method_26_code 147 = .ok (.ireturn, 1) := by decide +kernel
theorem d_M_shape_0 : decode prog_5_method_29_code 0 = .ok (.aload_n 0, 1) := by decide +kernel
theorem d_M_shape_1 : decode prog_5_method_29_code 1 = .ok (.iload_n 1, 1) := by decide +kernel
theorem d_M_shape_2 : decode prog_5_method_29_code 2 = .ok (.invokevirtual 55, 3) := by decide +kernel
theorem d_M_shape_5 : decode prog_5_method_29_code 5 = .ok (.istore 5, 2) := by decide +kernel
theorem d_M_shape_7 : decode prog_5_method_29_code 7 = .ok (.iload 5, 2) := by decide +kernel
theorem d_M_shape_9 : decode prog_5_method_29_code 9 = .ok (.ifCond .eq 32, 3) := by decide +kernel
theorem d_M_shape_12 : decode prog_5_method_29_code 12 = .ok (.aload_n 0, 1) := by decide +kernel
theorem d_M_shape_13 : decode prog_5_method_29_code 13 = .ok (.iload_n 2, 1) := by decide +kernel
theorem d_M_shape_14 : decode prog_5_method_29_code 14 = .ok (.iload_n 3, 1) := by decide +kernel
theorem d_M_shape_15 : decode prog_5_method_29_code 15 = .ok (.iload 4, 2) := by decide +kernel
theorem d_M_shape_17 : decode prog_5_method_29_code 17 = .ok (.invokevirtual 121, 3) := by decide +kernel
theorem d_M_shape_20 : decode prog_5_method_29_code 20 = .ok (.ifCond .eq 21, 3) := by decide +kernel
theorem d_M_shape_23 : decode prog_5_method_29_code 23 = .ok (.aload_n 0, 1) := by decide +kernel
theorem d_M_shape_24 : decode prog_5_method_29_code 24 = .ok (.invokevirtual 78, 3) := by decide +kernel
theorem d_M_shape_27 : decode prog_5_method_29_code 27 = .ok (.aload_n 0, 1) := by decide +kernel
theorem d_M_shape_28 : decode prog_5_method_29_code 28 = .ok (.iload_n 1, 1) := by decide +kernel
theorem d_M_shape_29 : decode prog_5_method_29_code 29 = .ok (.invokevirtual 117, 3) := by decide +kernel
theorem d_M_shape_32 : decode prog_5_method_29_code 32 = .ok (.i2l, 1) := by decide +kernel
theorem d_M_shape_33 : decode prog_5_method_29_code 33 = .ok (.lcmp, 1) := by decide +kernel
theorem d_M_shape_34 : decode prog_5_method_29_code 34 = .ok (.ifCond .ne 7, 3) := by decide +kernel
theorem d_M_shape_37 : decode prog_5_method_29_code 37 = .ok (.iconst 1, 1) := by decide +kernel
theorem d_M_shape_38 : decode prog_5_method_29_code 38 = .ok (.goto 4, 3) := by decide +kernel
theorem d_M_shape_41 : decode prog_5_method_29_code 41 = .ok (.iconst 0, 1) := by decide +kernel
theorem d_M_shape_42 : decode prog_5_method_29_code 42 = .ok (.istore 6, 2) := by decide +kernel
theorem d_M_shape_44 : decode prog_5_method_29_code 44 = .ok (.aload_n 0, 1) := by decide +kernel
theorem d_M_shape_45 : decode prog_5_method_29_code 45 = .ok (.iload 5, 2) := by decide +kernel
theorem d_M_shape_47 : decode prog_5_method_29_code 47 = .ok (.iload 6, 2) := by decide +kernel
theorem d_M_shape_49 : decode prog_5_method_29_code 49 = .ok (.iload 6, 2) := by decide +kernel
theorem d_M_shape_51 : decode prog_5_method_29_code 51 = .ok (.ifCond .eq 24, 3) := by decide +kernel
theorem d_M_shape_54 : decode prog_5_method_29_code 54 = .ok (.aload_n 0, 1) := by decide +kernel
theorem d_M_shape_55 : decode prog_5_method_29_code 55 = .ok (.getfield 52, 3) := by decide +kernel
theorem d_M_shape_58 : decode prog_5_method_29_code 58 = .ok (.bipush 80, 2) := by decide +kernel
theorem d_M_shape_60 : decode prog_5_method_29_code 60 = .ok (.if_icmp .ge 15, 3) := by decide +kernel
theorem d_M_shape_63 : decode prog_5_method_29_code 63 = .ok (.aload_n 0, 1) := by decide +kernel
theorem d_M_shape_64 : decode prog_5_method_29_code 64 = .ok (.iload_n 1, 1) := by decide +kernel
theorem d_M_shape_65 : decode prog_5_method_29_code 65 = .ok (.invokevirtual 125, 3) := by decide +kernel
theorem d_M_shape_68 : decode prog_5_method_29_code 68 = .ok (.ifCond .eq 7, 3) := by decide +kernel
theorem d_M_shape_71 : decode prog_5_method_29_code 71 = .ok (.iconst 1, 1) := by decide +kernel
theorem d_M_shape_72 : decode prog_5_method_29_code 72 = .ok (.goto 4, 3) := by decide +kernel
theorem d_M_shape_75 : decode prog_5_method_29_code 75 = .ok (.iconst 0, 1) := by decide +kernel
theorem d_M_shape_76 : decode prog_5_method_29_code 76 = .ok (.invokevirtual 109, 3) := by decide +kernel
theorem d_M_shape_79 : decode prog_5_method_29_code 79 = .ok (.ifCond .ne 5, 3) := by decide +kernel
theorem d_M_shape_82 : decode prog_5_method_29_code 82 = .ok (.iconst 0, 1) := by decide +kernel
theorem d_M_shape_83 : decode prog_5_method_29_code 83 = .ok (.ireturn, 1) := by decide +kernel
theorem d_M_shape_84 : decode prog_5_method_29_code 84 = .ok (.aload_n 0, 1) := by decide +kernel
theorem d_M_shape_85 : decode prog_5_method_29_code 85 = .ok (.aload_n 0, 1) := by decide +kernel
theorem d_M_shape_86 : decode prog_5_method_29_code 86 = .ok (.getfield 20, 3) := by decide +kernel
theorem d_M_shape_89 : decode prog_5_method_29_code 89 = .ok (.iload_n 1, 1) := by decide +kernel
theorem d_M_shape_90 : decode prog_5_method_29_code 90 = .ok (.iaload, 1) := by decide +kernel
theorem d_M_shape_91 : decode prog_5_method_29_code 91 = .ok (.aload_n 0, 1) := by decide +kernel
theorem d_M_shape_92 : decode prog_5_method_29_code 92 = .ok (.iload_n 1, 1) := by decide +kernel
theorem d_M_shape_93 : decode prog_5_method_29_code 93 = .ok (.invokevirtual 117, 3) := by decide +kernel
theorem d_M_shape_96 : decode prog_5_method_29_code 96 = .ok (.ifCond .ne 7, 3) := by decide +kernel
theorem d_M_shape_99 : decode prog_5_method_29_code 99 = .ok (.lconst 0, 1) := by decide +kernel
theorem d_M_shape_100 : decode prog_5_method_29_code 100 = .ok (.goto 10, 3) := by decide +kernel
theorem d_M_shape_103 : decode prog_5_method_29_code 103 = .ok (.aload_n 0, 1) := by decide +kernel
theorem d_M_shape_104 : decode prog_5_method_29_code 104 = .ok (.iload_n 1, 1) := by decide +kernel
theorem d_M_shape_105 : decode prog_5_method_29_code 105 = .ok (.iconst 0, 1) := by decide +kernel
theorem d_M_shape_106 : decode prog_5_method_29_code 106 = .ok (.invokevirtual 70, 3) := by decide +kernel
theorem d_M_shape_109 : decode prog_5_method_29_code 109 = .ok (.i2l, 1) := by decide +kernel
theorem d_M_shape_110 : decode prog_5_method_29_code 110 = .ok (.invokevirtual 101, 3) := by decide +kernel
theorem d_M_shape_113 : decode prog_5_method_29_code 113 = .ok (.ireturn, 1) := by decide +kernel
theorem d_M_tells_0 : decode prog_5_method_27_code 0 = .ok (.aload_n 0, 1) := by decide +kernel
theorem d_M_tells_1 : decode prog_5_method_27_code 1 = .ok (.iconst 0, 1) := by decide +kernel
theorem d_M_tells_2 : decode prog_5_method_27_code 2 = .ok (.putfield 59, 3) := by decide +kernel
theorem d_M_tells_5 : decode prog_5_method_27_code 5 = .ok (.iload_n 1, 1) := by decide +kernel
theorem d_M_tells_6 : decode prog_5_method_27_code 6 = .ok (.ifCond .lt 10, 3) := by decide +kernel
theorem d_M_tells_9 : decode prog_5_method_27_code 9 = .ok (.aload_n 0, 1) := by decide +kernel
theorem d_M_tells_10 : decode prog_5_method_27_code 10 = .ok (.iload_n 1, 1) := by decide +kernel
theorem d_M_tells_11 : decode prog_5_method_27_code 11 = .ok (.i2l, 1) := by decide +kernel
theorem d_M_tells_12 : decode prog_5_method_27_code 12 = .ok (.lconst 0, 1) := by decide +kernel
theorem d_M_tells_13 : decode prog_5_method_27_code 13 = .ok (.invokevirtual 94, 3) := by decide +kernel
theorem d_M_tells_16 : decode prog_5_method_27_code 16 = .ok (.iload_n 2, 1) := by decide +kernel
theorem d_M_tells_17 : decode prog_5_method_27_code 17 = .ok (.ifCond .lt 10, 3) := by decide +kernel
theorem d_M_tells_20 : decode prog_5_method_27_code 20 = .ok (.aload_n 0, 1) := by decide +kernel
theorem d_M_tells_21 : decode prog_5_method_27_code 21 = .ok (.iload_n 2, 1) := by decide +kernel
theorem d_M_tells_22 : decode prog_5_method_27_code 22 = .ok (.i2l, 1) := by decide +kernel
theorem d_M_tells_23 : decode prog_5_method_27_code 23 = .ok (.lconst 0, 1) := by decide +kernel
theorem d_M_tells_24 : decode prog_5_method_27_code 24 = .ok (.invokevirtual 94, 3) := by decide +kernel
theorem d_M_tells_27 : decode prog_5_method_27_code 27 = .ok (.iload_n 3, 1) := by decide +kernel
theorem d_M_tells_28 : decode prog_5_method_27_code 28 = .ok (.ifCond .lt 10, 3) := by decide +kernel
theorem d_M_tells_31 : decode prog_5_method_27_code 31 = .ok (.aload_n 0, 1) := by decide +kernel
theorem d_M_tells_32 : decode prog_5_method_27_code 32 = .ok (.iload_n 3, 1) := by decide +kernel
theorem d_M_tells_33 : decode prog_5_method_27_code 33 = .ok (.i2l, 1) := by decide +kernel
theorem d_M_tells_34 : decode prog_5_method_27_code 34 = .ok (.lconst 0, 1) := by decide +kernel
theorem d_M_tells_35 : decode prog_5_method_27_code 35 = .ok (.invokevirtual 94, 3) := by decide +kernel
theorem d_M_tells_38 : decode prog_5_method_27_code 38 = .ok (.iload_n 1, 1) := by decide +kernel
theorem d_M_tells_39 : decode prog_5_method_27_code 39 = .ok (.iconst (-1), 1) := by decide +kernel
theorem d_M_tells_40 : decode prog_5_method_27_code 40 = .ok (.if_icmp .lt 17, 3) := by decide +kernel
theorem d_M_tells_43 : decode prog_5_method_27_code 43 = .ok (.iload_n 2, 1) := by decide +kernel
theorem d_M_tells_44 : decode prog_5_method_27_code 44 = .ok (.iconst (-1), 1) := by decide +kernel
theorem d_M_tells_45 : decode prog_5_method_27_code 45 = .ok (.if_icmp .lt 12, 3) := by decide +kernel
theorem d_M_tells_48 : decode prog_5_method_27_code 48 = .ok (.iload_n 3, 1) := by decide +kernel
theorem d_M_tells_49 : decode prog_5_method_27_code 49 = .ok (.iconst (-1), 1) := by decide +kernel
theorem d_M_tells_50 : decode prog_5_method_27_code 50 = .ok (.if_icmp .lt 7, 3) := by decide +kernel
theorem d_M_tells_53 : decode prog_5_method_27_code 53 = .ok (.iconst 1, 1) := by decide +kernel
theorem d_M_tells_54 : decode prog_5_method_27_code 54 = .ok (.goto 4, 3) := by decide +kernel
theorem d_M_tells_57 : decode prog_5_method_27_code 57 = .ok (.iconst 0, 1) := by decide +kernel
theorem d_M_tells_58 : decode prog_5_method_27_code 58 = .ok (.ireturn, 1) := by decide +kernel
theorem d_M_items_0 : decode prog_5_method_8_code 0 = .ok (.iconst 1, 1) := by decide +kernel
theorem d_M_items_1 : decode prog_5_method_8_code 1 = .ok (.istore_n 2, 1) := by decide +kernel
theorem d_M_items_2 : decode prog_5_method_8_code 2 = .ok (.iconst 0, 1) := by decide +kernel
theorem d_M_items_3 : decode prog_5_method_8_code 3 = .ok (.istore_n 3, 1) := by decide +kernel
theorem d_M_items_4 : decode prog_5_method_8_code 4 = .ok (.iload_n 3, 1) := by decide +kernel
theorem d_M_items_5 : decode prog_5_method_8_code 5 = .ok (.aload_n 0, 1) := by decide +kernel
theorem d_M_items_6 : decode prog_5_method_8_code 6 = .ok (.getfield 26, 3) := by decide +kernel
theorem d_M_items_9 : decode prog_5_method_8_code 9 = .ok (.iload_n 1, 1) := by decide +kernel
theorem d_M_items_10 : decode prog_5_method_8_code 10 = .ok (.iaload, 1) := by decide +kernel
theorem d_M_items_11 : decode prog_5_method_8_code 11 = .ok (.if_icmp .ge 24, 3) := by decide +kernel
theorem d_M_items_14 : decode prog_5_method_8_code 14 = .ok (.aload_n 0, 1) := by decide +kernel
theorem d_M_items_15 : decode prog_5_method_8_code 15 = .ok (.getfield 29, 3) := by decide +kernel
theorem d_M_items_18 : decode prog_5_method_8_code 18 = .ok (.iconst 4, 1) := by decide +kernel
theorem d_M_items_19 : decode prog_5_method_8_code 19 = .ok (.iload_n 1, 1) := by decide +kernel
theorem d_M_items_20 : decode prog_5_method_8_code 20 = .ok (.imul, 1) := by decide +kernel
theorem d_M_items_21 : decode prog_5_method_8_code 21 = .ok (.iload_n 3, 1) := by decide +kernel
theorem d_M_items_22 : decode prog_5_method_8_code 22 = .ok (.iadd, 1) := by decide +kernel
theorem d_M_items_23 : decode prog_5_method_8_code 23 = .ok (.iaload, 1) := by decide +kernel
theorem d_M_items_24 : decode prog_5_method_8_code 24 = .ok (.ifCond .ne 5, 3) := by decide +kernel
theorem d_M_items_27 : decode prog_5_method_8_code 27 = .ok (.iconst 0, 1) := by decide +kernel
theorem d_M_items_28 : decode prog_5_method_8_code 28 = .ok (.ireturn, 1) := by decide +kernel
theorem d_M_items_29 : decode prog_5_method_8_code 29 = .ok (.iinc 3 1, 3) := by decide +kernel
theorem d_M_items_32 : decode prog_5_method_8_code 32 = .ok (.goto (-28), 3) := by decide +kernel
theorem d_M_items_35 : decode prog_5_method_8_code 35 = .ok (.iconst 0, 1) := by decide +kernel
theorem d_M_items_36 : decode prog_5_method_8_code 36 = .ok (.istore_n 3, 1) := by decide +kernel
theorem d_M_items_37 : decode prog_5_method_8_code 37 = .ok (.iload_n 3, 1) := by decide +kernel
theorem d_M_items_38 : decode prog_5_method_8_code 38 = .ok (.aload_n 0, 1) := by decide +kernel
theorem d_M_items_39 : decode prog_5_method_8_code 39 = .ok (.getfield 26, 3) := by decide +kernel
theorem d_M_items_42 : decode prog_5_method_8_code 42 = .ok (.iload_n 1, 1) := by decide +kernel
theorem d_M_items_43 : decode prog_5_method_8_code 43 = .ok (.iaload, 1) := by decide +kernel
theorem d_M_items_44 : decode prog_5_method_8_code 44 = .ok (.if_icmp .ge 22, 3) := by decide +kernel
theorem d_M_items_47 : decode prog_5_method_8_code 47 = .ok (.iload_n 2, 1) := by decide +kernel
theorem d_M_items_48 : decode prog_5_method_8_code 48 = .ok (.aload_n 0, 1) := by decide +kernel
theorem d_M_items_49 : decode prog_5_method_8_code 49 = .ok (.getfield 29, 3) := by decide +kernel
theorem d_M_items_52 : decode prog_5_method_8_code 52 = .ok (.iconst 4, 1) := by decide +kernel
theorem d_M_items_53 : decode prog_5_method_8_code 53 = .ok (.iload_n 1, 1) := by decide +kernel
theorem d_M_items_54 : decode prog_5_method_8_code 54 = .ok (.imul, 1) := by decide +kernel
theorem d_M_items_55 : decode prog_5_method_8_code 55 = .ok (.iload_n 3, 1) := by decide +kernel
theorem d_M_items_56 : decode prog_5_method_8_code 56 = .ok (.iadd, 1) := by decide +kernel
theorem d_M_items_57 : decode prog_5_method_8_code 57 = .ok (.iaload, 1) := by decide +kernel
theorem d_M_items_58 : decode prog_5_method_8_code 58 = .ok (.imul, 1) := by decide +kernel
theorem d_M_items_59 : decode prog_5_method_8_code 59 = .ok (.istore_n 2, 1) := by decide +kernel
theorem d_M_items_60 : decode prog_5_method_8_code 60 = .ok (.iinc 3 1, 3) := by decide +kernel
theorem d_M_items_63 : decode prog_5_method_8_code 63 = .ok (.goto (-26), 3) := by decide +kernel
theorem d_M_items_66 : decode prog_5_method_8_code 66 = .ok (.iload_n 2, 1) := by decide +kernel
theorem d_M_items_67 : decode prog_5_method_8_code 67 = .ok (.ireturn, 1) := by decide +kernel
theorem d_M_findSteps_0 : decode prog_5_method_28_code 0 = .ok (.aload_n 0, 1) := by decide +kernel
theorem d_M_findSteps_1 : decode prog_5_method_28_code 1 = .ok (.iload_n 1, 1) := by decide +kernel
theorem d_M_findSteps_2 : decode prog_5_method_28_code 2 = .ok (.invokevirtual 117, 3) := by decide +kernel
theorem d_M_findSteps_5 : decode prog_5_method_28_code 5 = .ok (.istore_n 2, 1) := by decide +kernel
theorem d_M_findSteps_6 : decode prog_5_method_28_code 6 = .ok (.iload_n 2, 1) := by decide +kernel
theorem d_M_findSteps_7 : decode prog_5_method_28_code 7 = .ok (.ifCond .ne 5, 3) := by decide +kernel
theorem d_M_findSteps_10 : decode prog_5_method_28_code 10 = .ok (.iconst 1, 1) := by decide +kernel
theorem d_M_findSteps_11 : decode prog_5_method_28_code 11 = .ok (.ireturn, 1) := by decide +kernel
theorem d_M_findSteps_12 : decode prog_5_method_28_code 12 = .ok (.iconst 1, 1) := by decide +kernel
theorem d_M_findSteps_13 : decode prog_5_method_28_code 13 = .ok (.istore_n 3, 1) := by decide +kernel
theorem d_M_findSteps_14 : decode prog_5_method_28_code 14 = .ok (.aload_n 0, 1) := by decide +kernel
theorem d_M_findSteps_15 : decode prog_5_method_28_code 15 = .ok (.getfield 59, 3) := by decide +kernel
theorem d_M_findSteps_18 : decode prog_5_method_28_code 18 = .ok (.iconst 1, 1) := by decide +kernel
theorem d_M_findSteps_19 : decode prog_5_method_28_code 19 = .ok (.isub, 1) := by decide +kernel
theorem d_M_findSteps_20 : decode prog_5_method_28_code 20 = .ok (.istore 4, 2) := by decide +kernel
theorem d_M_findSteps_22 : decode prog_5_method_28_code 22 = .ok (.iload 4, 2) := by decide +kernel
theorem d_M_findSteps_24 : decode prog_5_method_28_code 24 = .ok (.ifCond .lt 59, 3) := by decide +kernel
theorem d_M_findSteps_27 : decode prog_5_method_28_code 27 = .ok (.aload_n 0, 1) := by decide +kernel
theorem d_M_findSteps_28 : decode prog_5_method_28_code 28 = .ok (.getfield 38, 3) := by decide +kernel
theorem d_M_findSteps_31 : decode prog_5_method_28_code 31 = .ok (.iload 4, 2) := by decide +kernel
theorem d_M_findSteps_33 : decode prog_5_method_28_code 33 = .ok (.aload_n 0, 1) := by decide +kernel
theorem d_M_findSteps_34 : decode prog_5_method_28_code 34 = .ok (.getfield 35, 3) := by decide +kernel
theorem d_M_findSteps_37 : decode prog_5_method_28_code 37 = .ok (.iload 4, 2) := by decide +kernel
theorem d_M_findSteps_39 : decode prog_5_method_28_code 39 = .ok (.laload, 1) := by decide +kernel
theorem d_M_findSteps_40 : decode prog_5_method_28_code 40 = .ok (.ldc2_w 82, 3) := by decide +kernel
theorem d_M_findSteps_43 : decode prog_5_method_28_code 43 = .ok (.lcmp, 1) := by decide +kernel
theorem d_M_findSteps_44 : decode prog_5_method_28_code 44 = .ok (.ifCond .ge 7, 3) := by decide +kernel
theorem d_M_findSteps_47 : decode prog_5_method_28_code 47 = .ok (.lconst 0, 1) := by decide +kernel
theorem d_M_findSteps_48 : decode prog_5_method_28_code 48 = .ok (.goto 17, 3) := by decide +kernel
theorem d_M_findSteps_51 : decode prog_5_method_28_code 51 = .ok (.aload_n 0, 1) := by decide +kernel
theorem d_M_findSteps_52 : decode prog_5_method_28_code 52 = .ok (.iload_n 1, 1) := by decide +kernel
theorem d_M_findSteps_53 : decode prog_5_method_28_code 53 = .ok (.iload_n 3, 1) := by decide +kernel
theorem d_M_findSteps_54 : decode prog_5_method_28_code 54 = .ok (.invokevirtual 70, 3) := by decide +kernel
theorem d_M_findSteps_57 : decode prog_5_method_28_code 57 = .ok (.aload_n 0, 1) := by decide +kernel
theorem d_M_findSteps_58 : decode prog_5_method_28_code 58 = .ok (.iload_n 1, 1) := by decide +kernel
theorem d_M_findSteps_59 : decode prog_5_method_28_code 59 = .ok (.iconst 0, 1) := by decide +kernel
theorem d_M_findSteps_60 : decode prog_5_method_28_code 60 = .ok (.invokevirtual 70, 3) := by decide +kernel
theorem d_M_findSteps_63 : decode prog_5_method_28_code 63 = .ok (.isub, 1) := by decide +kernel
theorem d_M_findSteps_64 : decode prog_5_method_28_code 64 = .ok (.i2l, 1) := by decide +kernel
theorem d_M_findSteps_65 : decode prog_5_method_28_code 65 = .ok (.lastore, 1) := by decide +kernel
theorem d_M_findSteps_66 : decode prog_5_method_28_code 66 = .ok (.iload_n 3, 1) := by decide +kernel
theorem d_M_findSteps_67 : decode prog_5_method_28_code 67 = .ok (.aload_n 0, 1) := by decide +kernel
theorem d_M_findSteps_68 : decode prog_5_method_28_code 68 = .ok (.getfield 35, 3) := by decide +kernel
theorem d_M_findSteps_71 : decode prog_5_method_28_code 71 = .ok (.iload 4, 2) := by decide +kernel
theorem d_M_findSteps_73 : decode prog_5_method_28_code 73 = .ok (.laload, 1) := by decide +kernel
theorem d_M_findSteps_74 : decode prog_5_method_28_code 74 = .ok (.l2i, 1) := by decide +kernel
theorem d_M_findSteps_75 : decode prog_5_method_28_code 75 = .ok (.imul, 1) := by decide +kernel
theorem d_M_findSteps_76 : decode prog_5_method_28_code 76 = .ok (.istore_n 3, 1) := by decide +kernel
theorem d_M_findSteps_77 : decode prog_5_method_28_code 77 = .ok (.iinc 4 (-1), 3) := by decide +kernel
theorem d_M_findSteps_80 : decode prog_5_method_28_code 80 = .ok (.goto (-58), 3) := by decide +kernel
theorem d_M_findSteps_83 : decode prog_5_method_28_code 83 = .ok (.iconst 1, 1) := by decide +kernel
theorem d_M_findSteps_84 : decode prog_5_method_28_code 84 = .ok (.istore 4, 2) := by decide +kernel
theorem d_M_findSteps_86 : decode prog_5_method_28_code 86 = .ok (.iconst 0, 1) := by decide +kernel
theorem d_M_findSteps_87 : decode prog_5_method_28_code 87 = .ok (.istore 5, 2) := by decide +kernel
theorem d_M_findSteps_89 : decode prog_5_method_28_code 89 = .ok (.iload 5, 2) := by decide +kernel
theorem d_M_findSteps_91 : decode prog_5_method_28_code 91 = .ok (.iload_n 2, 1) := by decide +kernel
theorem d_M_findSteps_92 : decode prog_5_method_28_code 92 = .ok (.if_icmp .ge 105, 3) := by decide +kernel
theorem d_M_findSteps_95 : decode prog_5_method_28_code 95 = .ok (.iload 4, 2) := by decide +kernel
theorem d_M_findSteps_97 : decode prog_5_method_28_code 97 = .ok (.ifCond .eq 100, 3) := by decide +kernel
theorem d_M_findSteps_100 : decode prog_5_method_28_code 100 = .ok (.aload_n 0, 1) := by decide +kernel
theorem d_M_findSteps_101 : decode prog_5_method_28_code 101 = .ok (.iload_n 1, 1) := by decide +kernel
theorem d_M_findSteps_102 : decode prog_5_method_28_code 102 = .ok (.iconst 0, 1) := by decide +kernel
theorem d_M_findSteps_103 : decode prog_5_method_28_code 103 = .ok (.invokevirtual 70, 3) := by decide +kernel
theorem d_M_findSteps_106 : decode prog_5_method_28_code 106 = .ok (.i2l, 1) := by decide +kernel
theorem d_M_findSteps_107 : decode prog_5_method_28_code 107 = .ok (.lstore 6, 2) := by decide +kernel
theorem d_M_findSteps_109 : decode prog_5_method_28_code 109 = .ok (.iload 5, 2) := by decide +kernel
theorem d_M_findSteps_111 : decode prog_5_method_28_code 111 = .ok (.istore 8, 2) := by decide +kernel
theorem d_M_findSteps_113 : decode prog_5_method_28_code 113 = .ok (.aload_n 0, 1) := by decide +kernel
theorem d_M_findSteps_114 : decode prog_5_method_28_code 114 = .ok (.getfield 59, 3) := by decide +kernel
theorem d_M_findSteps_117 : decode prog_5_method_28_code 117 = .ok (.iconst 1, 1) := by decide +kernel
theorem d_M_findSteps_118 : decode prog_5_method_28_code 118 = .ok (.isub, 1) := by decide +kernel
theorem d_M_findSteps_119 : decode prog_5_method_28_code 119 = .ok (.istore 9, 2) := by decide +kernel
theorem d_M_findSteps_121 : decode prog_5_method_28_code 121 = .ok (.iload 9, 2) := by decide +kernel
theorem d_M_findSteps_123 : decode prog_5_method_28_code 123 = .ok (.ifCond .lt 47, 3) := by decide +kernel
theorem d_M_findSteps_126 : decode prog_5_method_28_code 126 = .ok (.lload 6, 2) := by decide +kernel
theorem d_M_findSteps_128 : decode prog_5_method_28_code 128 = .ok (.iload 8, 2) := by decide +kernel
theorem d_M_findSteps_130 : decode prog_5_method_28_code 130 = .ok (.aload_n 0, 1) := by decide +kernel
theorem d_M_findSteps_131 : decode prog_5_method_28_code 131 = .ok (.getfield 35, 3) := by decide +kernel
theorem d_M_findSteps_134 : decode prog_5_method_28_code 134 = .ok (.iload 9, 2) := by decide +kernel
theorem d_M_findSteps_136 : decode prog_5_method_28_code 136 = .ok (.laload, 1) := by decide +kernel
theorem d_M_findSteps_137 : decode prog_5_method_28_code 137 = .ok (.l2i, 1) := by decide +kernel
theorem d_M_findSteps_138 : decode prog_5_method_28_code 138 = .ok (.irem, 1) := by decide +kernel
theorem d_M_findSteps_139 : decode prog_5_method_28_code 139 = .ok (.i2l, 1) := by decide +kernel
theorem d_M_findSteps_140 : decode prog_5_method_28_code 140 = .ok (.aload_n 0, 1) := by decide +kernel
theorem d_M_findSteps_141 : decode prog_5_method_28_code 141 = .ok (.getfield 38, 3) := by decide +kernel
theorem d_M_findSteps_144 : decode prog_5_method_28_code 144 = .ok (.iload 9, 2) := by decide +kernel
theorem d_M_findSteps_146 : decode prog_5_method_28_code 146 = .ok (.laload, 1) := by decide +kernel
theorem d_M_findSteps_147 : decode prog_5_method_28_code 147 = .ok (.lmul, 1) := by decide +kernel
theorem d_M_findSteps_148 : decode prog_5_method_28_code 148 = .ok (.ladd, 1) := by decide +kernel
theorem d_M_findSteps_149 : decode prog_5_method_28_code 149 = .ok (.lstore 6, 2) := by decide +kernel
theorem d_M_findSteps_151 : decode prog_5_method_28_code 151 = .ok (.iload 8, 2) := by decide +kernel
theorem d_M_findSteps_153 : decode prog_5_method_28_code 153 = .ok (.aload_n 0, 1) := by decide +kernel
theorem d_M_findSteps_154 : decode prog_5_method_28_code 154 = .ok (.getfield 35, 3) := by decide +kernel
theorem d_M_findSteps_157 : decode prog_5_method_28_code 157 = .ok (.iload 9, 2) := by decide +kernel
theorem d_M_findSteps_159 : decode prog_5_method_28_code 159 = .ok (.laload, 1) := by decide +kernel
theorem d_M_findSteps_160 : decode prog_5_method_28_code 160 = .ok (.l2i, 1) := by decide +kernel
theorem d_M_findSteps_161 : decode prog_5_method_28_code 161 = .ok (.idiv, 1) := by decide +kernel
theorem d_M_findSteps_162 : decode prog_5_method_28_code 162 = .ok (.istore 8, 2) := by decide +kernel
theorem d_M_findSteps_164 : decode prog_5_method_28_code 164 = .ok (.iinc 9 (-1), 3) := by decide +kernel
theorem d_M_findSteps_167 : decode prog_5_method_28_code 167 = .ok (.goto (-46), 3) := by decide +kernel
theorem d_M_findSteps_170 : decode prog_5_method_28_code 170 = .ok (.lload 6, 2) := by decide +kernel
theorem d_M_findSteps_172 : decode prog_5_method_28_code 172 = .ok (.aload_n 0, 1) := by decide +kernel
theorem d_M_findSteps_173 : decode prog_5_method_28_code 173 = .ok (.iload_n 1, 1) := by decide +kernel
theorem d_M_findSteps_174 : decode prog_5_method_28_code 174 = .ok (.iload 5, 2) := by decide +kernel
theorem d_M_findSteps_176 : decode prog_5_method_28_code 176 = .ok (.invokevirtual 70, 3) := by decide +kernel
theorem d_M_findSteps_179 : decode prog_5_method_28_code 179 = .ok (.i2l, 1) := by decide +kernel
theorem d_M_findSteps_180 : decode prog_5_method_28_code 180 = .ok (.lcmp, 1) := by decide +kernel
theorem d_M_findSteps_181 : decode prog_5_method_28_code 181 = .ok (.ifCond .ne 7, 3) := by decide +kernel
theorem d_M_findSteps_184 : decode prog_5_method_28_code 184 = .ok (.iconst 1, 1) := by decide +kernel
theorem d_M_findSteps_185 : decode prog_5_method_28_code 185 = .ok (.goto 4, 3) := by decide +kernel
theorem d_M_findSteps_188 : decode prog_5_method_28_code 188 = .ok (.iconst 0, 1) := by decide +kernel
theorem d_M_findSteps_189 : decode prog_5_method_28_code 189 = .ok (.istore 4, 2) := by decide +kernel
theorem d_M_findSteps_191 : decode prog_5_method_28_code 191 = .ok (.iinc 5 1, 3) := by decide +kernel
theorem d_M_findSteps_194 : decode prog_5_method_28_code 194 = .ok (.goto (-105), 3) := by decide +kernel
theorem d_M_findSteps_197 : decode prog_5_method_28_code 197 = .ok (.iload 4, 2) := by decide +kernel
theorem d_M_findSteps_199 : decode prog_5_method_28_code 199 = .ok (.ireturn, 1) := by decide +kernel
theorem d_M_place_0 : decode prog_5_method_10_code 0 = .ok (.aload_n 0, 1) := by decide +kernel
theorem d_M_place_1 : decode prog_5_method_10_code 1 = .ok (.getfield 23, 3) := by decide +kernel
theorem d_M_place_4 : decode prog_5_method_10_code 4 = .ok (.iload_n 1, 1) := by decide +kernel
theorem d_M_place_5 : decode prog_5_method_10_code 5 = .ok (.iaload, 1) := by decide +kernel
theorem d_M_place_6 : decode prog_5_method_10_code 6 = .ok (.istore_n 3, 1) := by decide +kernel
theorem d_M_place_7 : decode prog_5_method_10_code 7 = .ok (.iconst 0, 1) := by decide +kernel
theorem d_M_place_8 : decode prog_5_method_10_code 8 = .ok (.istore 4, 2) := by decide +kernel
theorem d_M_place_10 : decode prog_5_method_10_code 10 = .ok (.iload 4, 2) := by decide +kernel
theorem d_M_place_12 : decode prog_5_method_10_code 12 = .ok (.aload_n 0, 1) := by decide +kernel
theorem d_M_place_13 : decode prog_5_method_10_code 13 = .ok (.getfield 26, 3) := by decide +kernel
theorem d_M_place_16 : decode prog_5_method_10_code 16 = .ok (.iload_n 1, 1) := by decide +kernel
theorem d_M_place_17 : decode prog_5_method_10_code 17 = .ok (.iaload, 1) := by decide +kernel
theorem d_M_place_18 : decode prog_5_method_10_code 18 = .ok (.if_icmp .ge 32, 3) := by decide +kernel
theorem d_M_place_21 : decode prog_5_method_10_code 21 = .ok (.iload_n 3, 1) := by decide +kernel
theorem d_M_place_22 : decode prog_5_method_10_code 22 = .ok (.aload_n 0, 1) := by decide +kernel
theorem d_M_place_23 : decode prog_5_method_10_code 23 = .ok (.iload_n 1, 1) := by decide +kernel
theorem d_M_place_24 : decode prog_5_method_10_code 24 = .ok (.iload 4, 2) := by decide +kernel
theorem d_M_place_26 : decode prog_5_method_10_code 26 = .ok (.iload_n 2, 1) := by decide +kernel
theorem d_M_place_27 : decode prog_5_method_10_code 27 = .ok (.invokevirtual 66, 3) := by decide +kernel
theorem d_M_place_30 : decode prog_5_method_10_code 30 = .ok (.aload_n 0, 1) := by decide +kernel
theorem d_M_place_31 : decode prog_5_method_10_code 31 = .ok (.getfield 32, 3) := by decide +kernel
theorem d_M_place_34 : decode prog_5_method_10_code 34 = .ok (.iconst 4, 1) := by decide +kernel
theorem d_M_place_35 : decode prog_5_method_10_code 35 = .ok (.iload_n 1, 1) := by decide +kernel
theorem d_M_place_36 : decode prog_5_method_10_code 36 = .ok (.imul, 1) := by decide +kernel
theorem d_M_place_37 : decode prog_5_method_10_code 37 = .ok (.iload 4, 2) := by decide +kernel
theorem d_M_place_39 : decode prog_5_method_10_code 39 = .ok (.iadd, 1) := by decide +kernel
theorem d_M_place_40 : decode prog_5_method_10_code 40 = .ok (.iaload, 1) := by decide +kernel
theorem d_M_place_41 : decode prog_5_method_10_code 41 = .ok (.imul, 1) := by decide +kernel
theorem d_M_place_42 : decode prog_5_method_10_code 42 = .ok (.iadd, 1) := by decide +kernel
theorem d_M_place_43 : decode prog_5_method_10_code 43 = .ok (.istore_n 3, 1) := by decide +kernel
theorem d_M_place_44 : decode prog_5_method_10_code 44 = .ok (.iinc 4 1, 3) := by decide +kernel
theorem d_M_place_47 : decode prog_5_method_10_code 47 = .ok (.goto (-37), 3) := by decide +kernel
theorem d_M_place_50 : decode prog_5_method_10_code 50 = .ok (.iload_n 3, 1) := by decide +kernel
theorem d_M_place_51 : decode prog_5_method_10_code 51 = .ok (.ireturn, 1) := by decide +kernel
theorem d_M_indexOf_0 : decode prog_5_method_9_code 0 = .ok (.iload_n 3, 1) := by decide +kernel
theorem d_M_indexOf_1 : decode prog_5_method_9_code 1 = .ok (.istore 4, 2) := by decide +kernel
theorem d_M_indexOf_3 : decode prog_5_method_9_code 3 = .ok (.aload_n 0, 1) := by decide +kernel
theorem d_M_indexOf_4 : decode prog_5_method_9_code 4 = .ok (.getfield 26, 3) := by decide +kernel
theorem d_M_indexOf_7 : decode prog_5_method_9_code 7 = .ok (.iload_n 1, 1) := by decide +kernel
theorem d_M_indexOf_8 : decode prog_5_method_9_code 8 = .ok (.iaload, 1) := by decide +kernel
theorem d_M_indexOf_9 : decode prog_5_method_9_code 9 = .ok (.iconst 1, 1) := by decide +kernel
theorem d_M_indexOf_10 : decode prog_5_method_9_code 10 = .ok (.isub, 1) := by decide +kernel
theorem d_M_indexOf_11 : decode prog_5_method_9_code 11 = .ok (.istore 5, 2) := by decide +kernel
theorem d_M_indexOf_13 : decode prog_5_method_9_code 13 = .ok (.iload 5, 2) := by decide +kernel
theorem d_M_indexOf_15 : decode prog_5_method_9_code 15 = .ok (.iload_n 2, 1) := by decide +kernel
theorem d_M_indexOf_16 : decode prog_5_method_9_code 16 = .ok (.if_icmp .le 25, 3) := by decide +kernel
theorem d_M_indexOf_19 : decode prog_5_method_9_code 19 = .ok (.iload 4, 2) := by decide +kernel
theorem d_M_indexOf_21 : decode prog_5_method_9_code 21 = .ok (.aload_n 0, 1) := by decide +kernel
theorem d_M_indexOf_22 : decode prog_5_method_9_code 22 = .ok (.getfield 29, 3) := by decide +kernel
theorem d_M_indexOf_25 : decode prog_5_method_9_code 25 = .ok (.iconst 4, 1) := by decide +kernel
theorem d_M_indexOf_26 : decode prog_5_method_9_code 26 = .ok (.iload_n 1, 1) := by decide +kernel
theorem d_M_indexOf_27 : decode prog_5_method_9_code 27 = .ok (.imul, 1) := by decide +kernel
theorem d_M_indexOf_28 : decode prog_5_method_9_code 28 = .ok (.iload 5, 2) := by decide +kernel
theorem d_M_indexOf_30 : decode prog_5_method_9_code 30 = .ok (.iadd, 1) := by decide +kernel
theorem d_M_indexOf_31 : decode prog_5_method_9_code 31 = .ok (.iaload, 1) := by decide +kernel
theorem d_M_indexOf_32 : decode prog_5_method_9_code 32 = .ok (.idiv, 1) := by decide +kernel
theorem d_M_indexOf_33 : decode prog_5_method_9_code 33 = .ok (.istore 4, 2) := by decide +kernel
theorem d_M_indexOf_35 : decode prog_5_method_9_code 35 = .ok (.iinc 5 (-1), 3) := by decide +kernel
theorem d_M_indexOf_38 : decode prog_5_method_9_code 38 = .ok (.goto (-25), 3) := by decide +kernel
theorem d_M_indexOf_41 : decode prog_5_method_9_code 41 = .ok (.iload 4, 2) := by decide +kernel
theorem d_M_indexOf_43 : decode prog_5_method_9_code 43 = .ok (.aload_n 0, 1) := by decide +kernel
theorem d_M_indexOf_44 : decode prog_5_method_9_code 44 = .ok (.getfield 29, 3) := by decide +kernel
theorem d_M_indexOf_47 : decode prog_5_method_9_code 47 = .ok (.iconst 4, 1) := by decide +kernel
theorem d_M_indexOf_48 : decode prog_5_method_9_code 48 = .ok (.iload_n 1, 1) := by decide +kernel
theorem d_M_indexOf_49 : decode prog_5_method_9_code 49 = .ok (.imul, 1) := by decide +kernel
theorem d_M_indexOf_50 : decode prog_5_method_9_code 50 = .ok (.iload_n 2, 1) := by decide +kernel
theorem d_M_indexOf_51 : decode prog_5_method_9_code 51 = .ok (.iadd, 1) := by decide +kernel
theorem d_M_indexOf_52 : decode prog_5_method_9_code 52 = .ok (.iaload, 1) := by decide +kernel
theorem d_M_indexOf_53 : decode prog_5_method_9_code 53 = .ok (.irem, 1) := by decide +kernel
theorem d_M_indexOf_54 : decode prog_5_method_9_code 54 = .ok (.ireturn, 1) := by decide +kernel
