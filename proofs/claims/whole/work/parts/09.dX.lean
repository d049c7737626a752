/-! decode rows -/
theorem d_X_init_0 : decode prog_1_method_1_code 0 = .ok (.aload_n 0, 1) := by decide +kernel
theorem d_X_init_1 : decode prog_1_method_1_code 1 = .ok (.invokespecial 1, 3) := by decide +kernel
theorem d_X_init_4 : decode prog_1_method_1_code 4 = .ok (.aload_n 0, 1) := by decide +kernel
theorem d_X_init_5 : decode prog_1_method_1_code 5 = .ok (.bipush 12, 2) := by decide +kernel
theorem d_X_init_7 : decode prog_1_method_1_code 7 = .ok (.anewarray 9, 3) := by decide +kernel
theorem d_X_init_10 : decode prog_1_method_1_code 10 = .ok (.putfield 11, 3) := by decide +kernel
theorem d_X_init_13 : decode prog_1_method_1_code 13 = .ok (.aload_n 0, 1) := by decide +kernel
theorem d_X_init_14 : decode prog_1_method_1_code 14 = .ok (.bipush 80, 2) := by decide +kernel
theorem d_X_init_16 : decode prog_1_method_1_code 16 = .ok (.anewarray 15, 3) := by decide +kernel
theorem d_X_init_19 : decode prog_1_method_1_code 19 = .ok (.putfield 17, 3) := by decide +kernel
theorem d_X_init_22 : decode prog_1_method_1_code 22 = .ok (.aload_n 0, 1) := by decide +kernel
theorem d_X_init_23 : decode prog_1_method_1_code 23 = .ok (.sipush 3000, 3) := by decide +kernel
theorem d_X_init_26 : decode prog_1_method_1_code 26 = .ok (.newarray .int, 2) := by decide +kernel
theorem d_X_init_28 : decode prog_1_method_1_code 28 = .ok (.putfield 21, 3) := by decide +kernel
theorem d_X_init_31 : decode prog_1_method_1_code 31 = .ok (.aload_n 0, 1) := by decide +kernel
theorem d_X_init_32 : decode prog_1_method_1_code 32 = .ok (.sipush 3000, 3) := by decide +kernel
theorem d_X_init_35 : decode prog_1_method_1_code 35 = .ok (.newarray .long, 2) := by decide +kernel
theorem d_X_init_37 : decode prog_1_method_1_code 37 = .ok (.putfield 25, 3) := by decide +kernel
theorem d_X_init_40 : decode prog_1_method_1_code 40 = .ok (.aload_n 0, 1) := by decide +kernel
theorem d_X_init_41 : decode prog_1_method_1_code 41 = .ok (.sipush 300, 3) := by decide +kernel
theorem d_X_init_44 : decode prog_1_method_1_code 44 = .ok (.newarray .boolean, 2) := by decide +kernel
theorem d_X_init_46 : decode prog_1_method_1_code 46 = .ok (.putfield 29, 3) := by decide +kernel
theorem d_X_init_49 : decode prog_1_method_1_code 49 = .ok (.aload_n 0, 1) := by decide +kernel
theorem d_X_init_50 : decode prog_1_method_1_code 50 = .ok (.iconst 0, 1) := by decide +kernel
theorem d_X_init_51 : decode prog_1_method_1_code 51 = .ok (.putfield 33, 3) := by decide +kernel
theorem d_X_init_54 : decode prog_1_method_1_code 54 = .ok (.aload_n 0, 1) := by decide +kernel
theorem d_X_init_55 : decode prog_1_method_1_code 55 = .ok (.iconst 0, 1) := by decide +kernel
theorem d_X_init_56 : decode prog_1_method_1_code 56 = .ok (.putfield 37, 3) := by decide +kernel
theorem d_X_init_59 : decode prog_1_method_1_code 59 = .ok (.return_, 1) := by decide +kernel
theorem d_X_store_0 : decode prog_1_method_2_code 0 = .ok (.iload_n 1, 1) := by decide +kernel
theorem d_X_store_1 : decode prog_1_method_2_code 1 = .ok (.invokestatic 40, 3) := by decide +kernel
theorem d_X_store_4 : decode prog_1_method_2_code 4 = .ok (.iload_n 2, 1) := by decide +kernel
theorem d_X_store_5 : decode prog_1_method_2_code 5 = .ok (.ifCond .lt 10, 3) := by decide +kernel
theorem d_X_store_8 : decode prog_1_method_2_code 8 = .ok (.iload_n 2, 1) := by decide +kernel
theorem d_X_store_9 : decode prog_1_method_2_code 9 = .ok (.sipush 300, 3) := by decide +kernel
theorem d_X_store_12 : decode prog_1_method_2_code 12 = .ok (.if_icmp .le 13, 3) := by decide +kernel
theorem d_X_store_15 : decode prog_1_method_2_code 15 = .ok (.new 44, 3) := by decide +kernel
theorem d_X_store_18 : decode prog_1_method_2_code 18 = .ok (.dup, 1) := by decide +kernel
theorem d_X_store_19 : decode prog_1_method_2_code 19 = .ok (.ldc 46, 2) := by decide +kernel
theorem d_X_store_21 : decode prog_1_method_2_code 21 = .ok (.invokespecial 48, 3) := by decide +kernel
theorem d_X_store_24 : decode prog_1_method_2_code 24 = .ok (.athrow, 1) := by decide +kernel
theorem d_X_store_25 : decode prog_1_method_2_code 25 = .ok (.aload_n 0, 1) := by decide +kernel
theorem d_X_store_26 : decode prog_1_method_2_code 26 = .ok (.invokevirtual 51, 3) := by decide +kernel
theorem d_X_store_29 : decode prog_1_method_2_code 29 = .ok (.new 9, 3) := by decide +kernel
theorem d_X_store_32 : decode prog_1_method_2_code 32 = .ok (.dup, 1) := by decide +kernel
theorem d_X_store_33 : decode prog_1_method_2_code 33 = .ok (.aload_n 0, 1) := by decide +kernel
theorem d_X_store_34 : decode prog_1_method_2_code 34 = .ok (.getfield 33, 3) := by decide +kernel
theorem d_X_store_37 : decode prog_1_method_2_code 37 = .ok (.iload_n 1, 1) := by decide +kernel
theorem d_X_store_38 : decode prog_1_method_2_code 38 = .ok (.iload_n 2, 1) := by decide +kernel
theorem d_X_store_39 : decode prog_1_method_2_code 39 = .ok (.invokespecial 54, 3) := by decide +kernel
theorem d_X_store_42 : decode prog_1_method_2_code 42 = .ok (.astore_n 3, 1) := by decide +kernel
theorem d_X_store_43 : decode prog_1_method_2_code 43 = .ok (.new 15, 3) := by decide +kernel
theorem d_X_store_46 : decode prog_1_method_2_code 46 = .ok (.dup, 1) := by decide +kernel
theorem d_X_store_47 : decode prog_1_method_2_code 47 = .ok (.aload_n 3, 1) := by decide +kernel
theorem d_X_store_48 : decode prog_1_method_2_code 48 = .ok (.iconst 0, 1) := by decide +kernel
theorem d_X_store_49 : decode prog_1_method_2_code 49 = .ok (.invokespecial 57, 3) := by decide +kernel
theorem d_X_store_52 : decode prog_1_method_2_code 52 = .ok (.astore 4, 2) := by decide +kernel
theorem d_X_store_54 : decode prog_1_method_2_code 54 = .ok (.aload 4, 2) := by decide +kernel
theorem d_X_store_56 : decode prog_1_method_2_code 56 = .ok (.iconst 0, 1) := by decide +kernel
theorem d_X_store_57 : decode prog_1_method_2_code 57 = .ok (.iload_n 2, 1) := by decide +kernel
theorem d_X_store_58 : decode prog_1_method_2_code 58 = .ok (.iconst 1, 1) := by decide +kernel
theorem d_X_store_59 : decode prog_1_method_2_code 59 = .ok (.invokevirtual 60, 3) := by decide +kernel
theorem d_X_store_62 : decode prog_1_method_2_code 62 = .ok (.aload_n 0, 1) := by decide +kernel
theorem d_X_store_63 : decode prog_1_method_2_code 63 = .ok (.aload_n 3, 1) := by decide +kernel
theorem d_X_store_64 : decode prog_1_method_2_code 64 = .ok (.invokevirtual 63, 3) := by decide +kernel
theorem d_X_store_67 : decode prog_1_method_2_code 67 = .ok (.aload_n 0, 1) := by decide +kernel
theorem d_X_store_68 : decode prog_1_method_2_code 68 = .ok (.aload 4, 2) := by decide +kernel
theorem d_X_store_70 : decode prog_1_method_2_code 70 = .ok (.invokevirtual 67, 3) := by decide +kernel
theorem d_X_store_73 : decode prog_1_method_2_code 73 = .ok (.ireturn, 1) := by decide +kernel
theorem d_X_needLane_0 : decode prog_1_method_25_code 0 = .ok (.iload_n 0, 1) := by decide +kernel
theorem d_X_needLane_1 : decode prog_1_method_25_code 1 = .ok (.ifCond .lt 8, 3) := by decide +kernel
theorem d_X_needLane_4 : decode prog_1_method_25_code 4 = .ok (.iload_n 0, 1) := by decide +kernel
theorem d_X_needLane_5 : decode prog_1_method_25_code 5 = .ok (.iconst 3, 1) := by decide +kernel
theorem d_X_needLane_6 : decode prog_1_method_25_code 6 = .ok (.if_icmp .le 13, 3) := by decide +kernel
theorem d_X_needLane_9 : decode prog_1_method_25_code 9 = .ok (.new 44, 3) := by decide +kernel
theorem d_X_needLane_12 : decode prog_1_method_25_code 12 = .ok (.dup, 1) := by decide +kernel
theorem d_X_needLane_13 : decode prog_1_method_25_code 13 = .ok (.ldc 250, 2) := by decide +kernel
theorem d_X_needLane_15 : decode prog_1_method_25_code 15 = .ok (.invokespecial 48, 3) := by decide +kernel
theorem d_X_needLane_18 : decode prog_1_method_25_code 18 = .ok (.athrow, 1) := by decide +kernel
theorem d_X_needLane_19 : decode prog_1_method_25_code 19 = .ok (.return_, 1) := by decide +kernel
theorem d_X_needRoomForStore_0 : decode prog_1_method_30_code 0 = .ok (.aload_n 0, 1) := by decide +kernel
theorem d_X_needRoomForStore_1 : decode prog_1_method_30_code 1 = .ok (.getfield 33, 3) := by decide +kernel
theorem d_X_needRoomForStore_4 : decode prog_1_method_30_code 4 = .ok (.bipush 12, 2) := by decide +kernel
theorem d_X_needRoomForStore_6 : decode prog_1_method_30_code 6 = .ok (.if_icmp .ge 12, 3) := by decide +kernel
theorem d_X_needRoomForStore_9 : decode prog_1_method_30_code 9 = .ok (.aload_n 0, 1) := by decide +kernel
theorem d_X_needRoomForStore_10 : decode prog_1_method_30_code 10 = .ok (.getfield 37, 3) := by decide +kernel
theorem d_X_needRoomForStore_13 : decode prog_1_method_30_code 13 = .ok (.bipush 80, 2) := by decide +kernel
theorem d_X_needRoomForStore_15 : decode prog_1_method_30_code 15 = .ok (.if_icmp .lt 14, 3) := by decide +kernel
theorem d_X_needRoomForStore_18 : decode prog_1_method_30_code 18 = .ok (.new 111, 3) := by decide +kernel
theorem d_X_needRoomForStore_21 : decode prog_1_method_30_code 21 = .ok (.dup, 1) := by decide +kernel
theorem d_X_needRoomForStore_22 : decode prog_1_method_30_code 22 = .ok (.ldc_w 265, 3) := by decide +kernel
theorem d_X_needRoomForStore_25 : decode prog_1_method_30_code 25 = .ok (.invokespecial 115, 3) := by decide +kernel
theorem d_X_needRoomForStore_28 : decode prog_1_method_30_code 28 = .ok (.athrow, 1) := by decide +kernel
theorem d_X_needRoomForStore_29 : decode prog_1_method_30_code 29 = .ok (.return_, 1) := by decide +kernel
theorem d_X_keepStore_0 : decode prog_1_method_31_code 0 = .ok (.aload_n 0, 1) := by decide +kernel
theorem d_X_keepStore_1 : decode prog_1_method_31_code 1 = .ok (.getfield 11, 3) := by decide +kernel
theorem d_X_keepStore_4 : decode prog_1_method_31_code 4 = .ok (.aload_n 0, 1) := by decide +kernel
theorem d_X_keepStore_5 : decode prog_1_method_31_code 5 = .ok (.getfield 33, 3) := by decide +kernel
theorem d_X_keepStore_8 : decode prog_1_method_31_code 8 = .ok (.aload_n 1, 1) := by decide +kernel
theorem d_X_keepStore_9 : decode prog_1_method_31_code 9 = .ok (.aastore, 1) := by decide +kernel
theorem d_X_keepStore_10 : decode prog_1_method_31_code 10 = .ok (.aload_n 0, 1) := by decide +kernel
theorem d_X_keepStore_11 : decode prog_1_method_31_code 11 = .ok (.dup, 1) := by decide +kernel
theorem d_X_keepStore_12 : decode prog_1_method_31_code 12 = .ok (.getfield 33, 3) := by decide +kernel
theorem d_X_keepStore_15 : decode prog_1_method_31_code 15 = .ok (.iconst 1, 1) := by decide +kernel
theorem d_X_keepStore_16 : decode prog_1_method_31_code 16 = .ok (.iadd, 1) := by decide +kernel
theorem d_X_keepStore_17 : decode prog_1_method_31_code 17 = .ok (.putfield 33, 3) := by decide +kernel
theorem d_X_keepStore_20 : decode prog_1_method_31_code 20 = .ok (.return_, 1) := by decide +kernel
theorem d_X_keepView_0 : decode prog_1_method_32_code 0 = .ok (.aload_n 1, 1) := by decide +kernel
theorem d_X_keepView_1 : decode prog_1_method_32_code 1 = .ok (.invokevirtual 136, 3) := by decide +kernel
theorem d_X_keepView_4 : decode prog_1_method_32_code 4 = .ok (.aload_n 0, 1) := by decide +kernel
theorem d_X_keepView_5 : decode prog_1_method_32_code 5 = .ok (.getfield 37, 3) := by decide +kernel
theorem d_X_keepView_8 : decode prog_1_method_32_code 8 = .ok (.bipush 80, 2) := by decide +kernel
theorem d_X_keepView_10 : decode prog_1_method_32_code 10 = .ok (.if_icmp .ge 13, 3) := by decide +kernel
theorem d_X_keepView_13 : decode prog_1_method_32_code 13 = .ok (.aload_n 1, 1) := by decide +kernel
theorem d_X_keepView_14 : decode prog_1_method_32_code 14 = .ok (.getfield 139, 3) := by decide +kernel
theorem d_X_keepView_17 : decode prog_1_method_32_code 17 = .ok (.sipush 3000, 3) := by decide +kernel
theorem d_X_keepView_20 : decode prog_1_method_32_code 20 = .ok (.if_icmp .le 14, 3) := by decide +kernel
theorem d_X_keepView_23 : decode prog_1_method_32_code 23 = .ok (.new 111, 3) := by decide +kernel
theorem d_X_keepView_26 : decode prog_1_method_32_code 26 = .ok (.dup, 1) := by decide +kernel
theorem d_X_keepView_27 : decode prog_1_method_32_code 27 = .ok (.ldc_w 267, 3) := by decide +kernel
theorem d_X_keepView_30 : decode prog_1_method_32_code 30 = .ok (.invokespecial 115, 3) := by decide +kernel
theorem d_X_keepView_33 : decode prog_1_method_32_code 33 = .ok (.athrow, 1) := by decide +kernel
theorem d_X_keepView_34 : decode prog_1_method_32_code 34 = .ok (.aload_n 0, 1) := by decide +kernel
theorem d_X_keepView_35 : decode prog_1_method_32_code 35 = .ok (.getfield 17, 3) := by decide +kernel
theorem d_X_keepView_38 : decode prog_1_method_32_code 38 = .ok (.aload_n 0, 1) := by decide +kernel
theorem d_X_keepView_39 : decode prog_1_method_32_code 39 = .ok (.getfield 37, 3) := by decide +kernel
theorem d_X_keepView_42 : decode prog_1_method_32_code 42 = .ok (.aload_n 1, 1) := by decide +kernel
theorem d_X_keepView_43 : decode prog_1_method_32_code 43 = .ok (.aastore, 1) := by decide +kernel
theorem d_X_keepView_44 : decode prog_1_method_32_code 44 = .ok (.aload_n 1, 1) := by decide +kernel
theorem d_X_keepView_45 : decode prog_1_method_32_code 45 = .ok (.getfield 129, 3) := by decide +kernel
theorem d_X_keepView_48 : decode prog_1_method_32_code 48 = .ok (.dup, 1) := by decide +kernel
theorem d_X_keepView_49 : decode prog_1_method_32_code 49 = .ok (.getfield 237, 3) := by decide +kernel
theorem d_X_keepView_52 : decode prog_1_method_32_code 52 = .ok (.iconst 1, 1) := by decide +kernel
theorem d_X_keepView_53 : decode prog_1_method_32_code 53 = .ok (.iadd, 1) := by decide +kernel
theorem d_X_keepView_54 : decode prog_1_method_32_code 54 = .ok (.putfield 237, 3) := by decide +kernel
theorem d_X_keepView_57 : decode prog_1_method_32_code 57 = .ok (.aload_n 0, 1) := by decide +kernel
theorem d_X_keepView_58 : decode prog_1_method_32_code 58 = .ok (.dup, 1) := by decide +kernel
theorem d_X_keepView_59 : decode prog_1_method_32_code 59 = .ok (.getfield 37, 3) := by decide +kernel
theorem d_X_keepView_62 : decode prog_1_method_32_code 62 = .ok (.iconst 1, 1) := by decide +kernel
theorem d_X_keepView_63 : decode prog_1_method_32_code 63 = .ok (.iadd, 1) := by decide +kernel
theorem d_X_keepView_64 : decode prog_1_method_32_code 64 = .ok (.putfield 37, 3) := by decide +kernel
theorem d_X_keepView_67 : decode prog_1_method_32_code 67 = .ok (.aload_n 0, 1) := by decide +kernel
theorem d_X_keepView_68 : decode prog_1_method_32_code 68 = .ok (.getfield 37, 3) := by decide +kernel
theorem d_X_keepView_71 : decode prog_1_method_32_code 71 = .ok (.iconst 1, 1) := by decide +kernel
theorem d_X_keepView_72 : decode prog_1_method_32_code 72 = .ok (.isub, 1) := by decide +kernel
theorem d_X_keepView_73 : decode prog_1_method_32_code 73 = .ok (.ireturn, 1) := by decide +kernel
theorem d_X_slice_0 : decode prog_1_method_3_code 0 = .ok (.aload_n 0, 1) := by decide +kernel
theorem d_X_slice_1 : decode prog_1_method_3_code 1 = .ok (.iload_n 1, 1) := by decide +kernel
theorem d_X_slice_2 : decode prog_1_method_3_code 2 = .ok (.invokevirtual 71, 3) := by decide +kernel
theorem d_X_slice_5 : decode prog_1_method_3_code 5 = .ok (.astore 6, 2) := by decide +kernel
theorem d_X_slice_7 : decode prog_1_method_3_code 7 = .ok (.aload 6, 2) := by decide +kernel
theorem d_X_slice_9 : decode prog_1_method_3_code 9 = .ok (.iload_n 2, 1) := by decide +kernel
theorem d_X_slice_10 : decode prog_1_method_3_code 10 = .ok (.invokestatic 75, 3) := by decide +kernel
theorem d_X_slice_13 : decode prog_1_method_3_code 13 = .ok (.aload 6, 2) := by decide +kernel
theorem d_X_slice_15 : decode prog_1_method_3_code 15 = .ok (.getfield 79, 3) := by decide +kernel
theorem d_X_slice_18 : decode prog_1_method_3_code 18 = .ok (.iload_n 2, 1) := by decide +kernel
theorem d_X_slice_19 : decode prog_1_method_3_code 19 = .ok (.iaload, 1) := by decide +kernel
theorem d_X_slice_20 : decode prog_1_method_3_code 20 = .ok (.iload_n 3, 1) := by decide +kernel
theorem d_X_slice_21 : decode prog_1_method_3_code 21 = .ok (.iload 4, 2) := by decide +kernel
theorem d_X_slice_23 : decode prog_1_method_3_code 23 = .ok (.iload 5, 2) := by decide +kernel
theorem d_X_slice_25 : decode prog_1_method_3_code 25 = .ok (.invokestatic 82, 3) := by decide +kernel
theorem d_X_slice_28 : decode prog_1_method_3_code 28 = .ok (.aload 6, 2) := by decide +kernel
theorem d_X_slice_30 : decode prog_1_method_3_code 30 = .ok (.invokevirtual 86, 3) := by decide +kernel
theorem d_X_slice_33 : decode prog_1_method_3_code 33 = .ok (.astore 7, 2) := by decide +kernel
theorem d_X_slice_35 : decode prog_1_method_3_code 35 = .ok (.aload 7, 2) := by decide +kernel
theorem d_X_slice_37 : decode prog_1_method_3_code 37 = .ok (.dup, 1) := by decide +kernel
theorem d_X_slice_38 : decode prog_1_method_3_code 38 = .ok (.getfield 90, 3) := by decide +kernel
theorem d_X_slice_41 : decode prog_1_method_3_code 41 = .ok (.iload_n 3, 1) := by decide +kernel
theorem d_X_slice_42 : decode prog_1_method_3_code 42 = .ok (.aload 6, 2) := by decide +kernel
theorem d_X_slice_44 : decode prog_1_method_3_code 44 = .ok (.getfield 93, 3) := by decide +kernel
theorem d_X_slice_47 : decode prog_1_method_3_code 47 = .ok (.iload_n 2, 1) := by decide +kernel
theorem d_X_slice_48 : decode prog_1_method_3_code 48 = .ok (.iaload, 1) := by decide +kernel
theorem d_X_slice_49 : decode prog_1_method_3_code 49 = .ok (.imul, 1) := by decide +kernel
theorem d_X_slice_50 : decode prog_1_method_3_code 50 = .ok (.iadd, 1) := by decide +kernel
theorem d_X_slice_51 : decode prog_1_method_3_code 51 = .ok (.putfield 90, 3) := by decide +kernel
theorem d_X_slice_54 : decode prog_1_method_3_code 54 = .ok (.aload 7, 2) := by decide +kernel
theorem d_X_slice_56 : decode prog_1_method_3_code 56 = .ok (.getfield 79, 3) := by decide +kernel
theorem d_X_slice_59 : decode prog_1_method_3_code 59 = .ok (.iload_n 2, 1) := by decide +kernel
theorem d_X_slice_60 : decode prog_1_method_3_code 60 = .ok (.iload 5, 2) := by decide +kernel
theorem d_X_slice_62 : decode prog_1_method_3_code 62 = .ok (.iastore, 1) := by decide +kernel
theorem d_X_slice_63 : decode prog_1_method_3_code 63 = .ok (.aload 7, 2) := by decide +kernel
theorem d_X_slice_65 : decode prog_1_method_3_code 65 = .ok (.getfield 93, 3) := by decide +kernel
theorem d_X_slice_68 : decode prog_1_method_3_code 68 = .ok (.iload_n 2, 1) := by decide +kernel
theorem d_X_slice_69 : decode prog_1_method_3_code 69 = .ok (.iload 4, 2) := by decide +kernel
theorem d_X_slice_71 : decode prog_1_method_3_code 71 = .ok (.aload 6, 2) := by decide +kernel
theorem d_X_slice_73 : decode prog_1_method_3_code 73 = .ok (.getfield 93, 3) := by decide +kernel
theorem d_X_slice_76 : decode prog_1_method_3_code 76 = .ok (.iload_n 2, 1) := by decide +kernel
theorem d_X_slice_77 : decode prog_1_method_3_code 77 = .ok (.iaload, 1) := by decide +kernel
theorem d_X_slice_78 : decode prog_1_method_3_code 78 = .ok (.imul, 1) := by decide +kernel
theorem d_X_slice_79 : decode prog_1_method_3_code 79 = .ok (.iastore, 1) := by decide +kernel
theorem d_X_slice_80 : decode prog_1_method_3_code 80 = .ok (.aload_n 0, 1) := by decide +kernel
theorem d_X_slice_81 : decode prog_1_method_3_code 81 = .ok (.aload 7, 2) := by decide +kernel
theorem d_X_slice_83 : decode prog_1_method_3_code 83 = .ok (.invokevirtual 67, 3) := by decide +kernel
theorem d_X_slice_86 : decode prog_1_method_3_code 86 = .ok (.ireturn, 1) := by decide +kernel
theorem d_X_viewAt_0 : decode prog_1_method_22_code 0 = .ok (.iload_n 1, 1) := by decide +kernel
theorem d_X_viewAt_1 : decode prog_1_method_22_code 1 = .ok (.ifCond .lt 11, 3) := by decide +kernel
theorem d_X_viewAt_4 : decode prog_1_method_22_code 4 = .ok (.iload_n 1, 1) := by decide +kernel
theorem d_X_viewAt_5 : decode prog_1_method_22_code 5 = .ok (.aload_n 0, 1) := by decide +kernel
theorem d_X_viewAt_6 : decode prog_1_method_22_code 6 = .ok (.getfield 37, 3) := by decide +kernel
theorem d_X_viewAt_9 : decode prog_1_method_22_code 9 = .ok (.if_icmp .lt 13, 3) := by decide +kernel
theorem d_X_viewAt_12 : decode prog_1_method_22_code 12 = .ok (.new 96, 3) := by decide +kernel
theorem d_X_viewAt_15 : decode prog_1_method_22_code 15 = .ok (.dup, 1) := by decide +kernel
theorem d_X_viewAt_16 : decode prog_1_method_22_code 16 = .ok (.ldc 244, 2) := by decide +kernel
theorem d_X_viewAt_18 : decode prog_1_method_22_code 18 = .ok (.invokespecial 100, 3) := by decide +kernel
theorem d_X_viewAt_21 : decode prog_1_method_22_code 21 = .ok (.athrow, 1) := by decide +kernel
theorem d_X_viewAt_22 : decode prog_1_method_22_code 22 = .ok (.aload_n 0, 1) := by decide +kernel
theorem d_X_viewAt_23 : decode prog_1_method_22_code 23 = .ok (.getfield 17, 3) := by decide +kernel
theorem d_X_viewAt_26 : decode prog_1_method_22_code 26 = .ok (.iload_n 1, 1) := by decide +kernel
theorem d_X_viewAt_27 : decode prog_1_method_22_code 27 = .ok (.aaload, 1) := by decide +kernel
theorem d_X_viewAt_28 : decode prog_1_method_22_code 28 = .ok (.areturn, 1) := by decide +kernel
theorem d_X_needAxis_0 : decode prog_1_method_23_code 0 = .ok (.iload_n 1, 1) := by decide +kernel
theorem d_X_needAxis_1 : decode prog_1_method_23_code 1 = .ok (.ifCond .lt 11, 3) := by decide +kernel
theorem d_X_needAxis_4 : decode prog_1_method_23_code 4 = .ok (.iload_n 1, 1) := by decide +kernel
theorem d_X_needAxis_5 : decode prog_1_method_23_code 5 = .ok (.aload_n 0, 1) := by decide +kernel
theorem d_X_needAxis_6 : decode prog_1_method_23_code 6 = .ok (.getfield 104, 3) := by decide +kernel
theorem d_X_needAxis_9 : decode prog_1_method_23_code 9 = .ok (.if_icmp .lt 13, 3) := by decide +kernel
theorem d_X_needAxis_12 : decode prog_1_method_23_code 12 = .ok (.new 96, 3) := by decide +kernel
theorem d_X_needAxis_15 : decode prog_1_method_23_code 15 = .ok (.dup, 1) := by decide +kernel
theorem d_X_needAxis_16 : decode prog_1_method_23_code 16 = .ok (.ldc 246, 2) := by decide +kernel
theorem d_X_needAxis_18 : decode prog_1_method_23_code 18 = .ok (.invokespecial 100, 3) := by decide +kernel
theorem d_X_needAxis_21 : decode prog_1_method_23_code 21 = .ok (.athrow, 1) := by decide +kernel
theorem d_X_needAxis_22 : decode prog_1_method_23_code 22 = .ok (.return_, 1) := by decide +kernel
theorem d_X_needPart_0 : decode prog_1_method_26_code 0 = .ok (.iload_n 3, 1) := by decide +kernel
theorem d_X_needPart_1 : decode prog_1_method_26_code 1 = .ok (.ifCond .lt 7, 3) := by decide +kernel
theorem d_X_needPart_4 : decode prog_1_method_26_code 4 = .ok (.iload_n 2, 1) := by decide +kernel
theorem d_X_needPart_5 : decode prog_1_method_26_code 5 = .ok (.ifCond .ne 13, 3) := by decide +kernel
theorem d_X_needPart_8 : decode prog_1_method_26_code 8 = .ok (.new 44, 3) := by decide +kernel
theorem d_X_needPart_11 : decode prog_1_method_26_code 11 = .ok (.dup, 1) := by decide +kernel
theorem d_X_needPart_12 : decode prog_1_method_26_code 12 = .ok (.ldc 252, 2) := by decide +kernel
theorem d_X_needPart_14 : decode prog_1_method_26_code 14 = .ok (.invokespecial 48, 3) := by decide +kernel
theorem d_X_needPart_17 : decode prog_1_method_26_code 17 = .ok (.athrow, 1) := by decide +kernel
theorem d_X_needPart_18 : decode prog_1_method_26_code 18 = .ok (.iload_n 1, 1) := by decide +kernel
theorem d_X_needPart_19 : decode prog_1_method_26_code 19 = .ok (.i2l, 1) := by decide +kernel
theorem d_X_needPart_20 : decode prog_1_method_26_code 20 = .ok (.iload_n 3, 1) := by decide +kernel
theorem d_X_needPart_21 : decode prog_1_method_26_code 21 = .ok (.i2l, 1) := by decide +kernel
theorem d_X_needPart_22 : decode prog_1_method_26_code 22 = .ok (.lconst 1, 1) := by decide +kernel
theorem d_X_needPart_23 : decode prog_1_method_26_code 23 = .ok (.lsub, 1) := by decide +kernel
theorem d_X_needPart_24 : decode prog_1_method_26_code 24 = .ok (.iload_n 2, 1) := by decide +kernel
theorem d_X_needPart_25 : decode prog_1_method_26_code 25 = .ok (.i2l, 1) := by decide +kernel
theorem d_X_needPart_26 : decode prog_1_method_26_code 26 = .ok (.lmul, 1) := by decide +kernel
theorem d_X_needPart_27 : decode prog_1_method_26_code 27 = .ok (.ladd, 1) := by decide +kernel
theorem d_X_needPart_28 : decode prog_1_method_26_code 28 = .ok (.lstore 4, 2) := by decide +kernel
theorem d_X_needPart_30 : decode prog_1_method_26_code 30 = .ok (.iload_n 3, 1) := by decide +kernel
theorem d_X_needPart_31 : decode prog_1_method_26_code 31 = .ok (.ifCond .le 37, 3) := by decide +kernel
theorem d_X_needPart_34 : decode prog_1_method_26_code 34 = .ok (.iload_n 1, 1) := by decide +kernel
theorem d_X_needPart_35 : decode prog_1_method_26_code 35 = .ok (.ifCond .lt 23, 3) := by decide +kernel
theorem d_X_needPart_38 : decode prog_1_method_26_code 38 = .ok (.iload_n 1, 1) := by decide +kernel
theorem d_X_needPart_39 : decode prog_1_method_26_code 39 = .ok (.iload_n 0, 1) := by decide +kernel
theorem d_X_needPart_40 : decode prog_1_method_26_code 40 = .ok (.if_icmp .ge 18, 3) := by decide +kernel
theorem d_X_needPart_43 : decode prog_1_method_26_code 43 = .ok (.lload 4, 2) := by decide +kernel
theorem d_X_needPart_45 : decode prog_1_method_26_code 45 = .ok (.lconst 0, 1) := by decide +kernel
theorem d_X_needPart_46 : decode prog_1_method_26_code 46 = .ok (.lcmp, 1) := by decide +kernel
theorem d_X_needPart_47 : decode prog_1_method_26_code 47 = .ok (.ifCond .lt 11, 3) := by decide +kernel
theorem d_X_needPart_50 : decode prog_1_method_26_code 50 = .ok (.lload 4, 2) := by decide +kernel
theorem d_X_needPart_52 : decode prog_1_method_26_code 52 = .ok (.iload_n 0, 1) := by decide +kernel
theorem d_X_needPart_53 : decode prog_1_method_26_code 53 = .ok (.i2l, 1) := by decide +kernel
theorem d_X_needPart_54 : decode prog_1_method_26_code 54 = .ok (.lcmp, 1) := by decide +kernel
theorem d_X_needPart_55 : decode prog_1_method_26_code 55 = .ok (.ifCond .lt 13, 3) := by decide +kernel
theorem d_X_needPart_58 : decode prog_1_method_26_code 58 = .ok (.new 44, 3) := by decide +kernel
theorem d_X_needPart_61 : decode prog_1_method_26_code 61 = .ok (.dup, 1) := by decide +kernel
theorem d_X_needPart_62 : decode prog_1_method_26_code 62 = .ok (.ldc 254, 2) := by decide +kernel
theorem d_X_needPart_64 : decode prog_1_method_26_code 64 = .ok (.invokespecial 48, 3) := by decide +kernel
theorem d_X_needPart_67 : decode prog_1_method_26_code 67 = .ok (.athrow, 1) := by decide +kernel
theorem d_X_needPart_68 : decode prog_1_method_26_code 68 = .ok (.return_, 1) := by decide +kernel
theorem d_X_pick_0 : decode prog_1_method_4_code 0 = .ok (.aload_n 0, 1) := by decide +kernel
theorem d_X_pick_1 : decode prog_1_method_4_code 1 = .ok (.iload_n 1, 1) := by decide +kernel
theorem d_X_pick_2 : decode prog_1_method_4_code 2 = .ok (.invokevirtual 71, 3) := by decide +kernel
theorem d_X_pick_5 : decode prog_1_method_4_code 5 = .ok (.astore 4, 2) := by decide +kernel
theorem d_X_pick_7 : decode prog_1_method_4_code 7 = .ok (.aload 4, 2) := by decide +kernel
theorem d_X_pick_9 : decode prog_1_method_4_code 9 = .ok (.iload_n 2, 1) := by decide +kernel
theorem d_X_pick_10 : decode prog_1_method_4_code 10 = .ok (.invokestatic 75, 3) := by decide +kernel
theorem d_X_pick_13 : decode prog_1_method_4_code 13 = .ok (.iload_n 3, 1) := by decide +kernel
theorem d_X_pick_14 : decode prog_1_method_4_code 14 = .ok (.ifCond .lt 14, 3) := by decide +kernel
theorem d_X_pick_17 : decode prog_1_method_4_code 17 = .ok (.iload_n 3, 1) := by decide +kernel
theorem d_X_pick_18 : decode prog_1_method_4_code 18 = .ok (.aload 4, 2) := by decide +kernel
theorem d_X_pick_20 : decode prog_1_method_4_code 20 = .ok (.getfield 79, 3) := by decide +kernel
theorem d_X_pick_23 : decode prog_1_method_4_code 23 = .ok (.iload_n 2, 1) := by decide +kernel
theorem d_X_pick_24 : decode prog_1_method_4_code 24 = .ok (.iaload, 1) := by decide +kernel
theorem d_X_pick_25 : decode prog_1_method_4_code 25 = .ok (.if_icmp .lt 13, 3) := by decide +kernel
theorem d_X_pick_28 : decode prog_1_method_4_code 28 = .ok (.new 96, 3) := by decide +kernel
theorem d_X_pick_31 : decode prog_1_method_4_code 31 = .ok (.dup, 1) := by decide +kernel
theorem d_X_pick_32 : decode prog_1_method_4_code 32 = .ok (.ldc 98, 2) := by decide +kernel
theorem d_X_pick_34 : decode prog_1_method_4_code 34 = .ok (.invokespecial 100, 3) := by decide +kernel
theorem d_X_pick_37 : decode prog_1_method_4_code 37 = .ok (.athrow, 1) := by decide +kernel
theorem d_X_pick_38 : decode prog_1_method_4_code 38 = .ok (.aload 4, 2) := by decide +kernel
theorem d_X_pick_40 : decode prog_1_method_4_code 40 = .ok (.invokevirtual 86, 3) := by decide +kernel
theorem d_X_pick_43 : decode prog_1_method_4_code 43 = .ok (.astore 5, 2) := by decide +kernel
theorem d_X_pick_45 : decode prog_1_method_4_code 45 = .ok (.aload 5, 2) := by decide +kernel
theorem d_X_pick_47 : decode prog_1_method_4_code 47 = .ok (.dup, 1) := by decide +kernel
theorem d_X_pick_48 : decode prog_1_method_4_code 48 = .ok (.getfield 90, 3) := by decide +kernel
theorem d_X_pick_51 : decode prog_1_method_4_code 51 = .ok (.iload_n 3, 1) := by decide +kernel
theorem d_X_pick_52 : decode prog_1_method_4_code 52 = .ok (.aload 4, 2) := by decide +kernel
theorem d_X_pick_54 : decode prog_1_method_4_code 54 = .ok (.getfield 93, 3) := by decide +kernel
theorem d_X_pick_57 : decode prog_1_method_4_code 57 = .ok (.iload_n 2, 1) := by decide +kernel
theorem d_X_pick_58 : decode prog_1_method_4_code 58 = .ok (.iaload, 1) := by decide +kernel
theorem d_X_pick_59 : decode prog_1_method_4_code 59 = .ok (.imul, 1) := by decide +kernel
theorem d_X_pick_60 : decode prog_1_method_4_code 60 = .ok (.iadd, 1) := by decide +kernel
theorem d_X_pick_61 : decode prog_1_method_4_code 61 = .ok (.putfield 90, 3) := by decide +kernel
theorem d_X_pick_64 : decode prog_1_method_4_code 64 = .ok (.aload 5, 2) := by decide +kernel
theorem d_X_pick_66 : decode prog_1_method_4_code 66 = .ok (.iload_n 2, 1) := by decide +kernel
theorem d_X_pick_67 : decode prog_1_method_4_code 67 = .ok (.invokevirtual 101, 3) := by decide +kernel
theorem d_X_pick_70 : decode prog_1_method_4_code 70 = .ok (.aload_n 0, 1) := by decide +kernel
theorem d_X_pick_71 : decode prog_1_method_4_code 71 = .ok (.aload 5, 2) := by decide +kernel
theorem d_X_pick_73 : decode prog_1_method_4_code 73 = .ok (.invokevirtual 67, 3) := by decide +kernel
theorem d_X_pick_76 : decode prog_1_method_4_code 76 = .ok (.ireturn, 1) := by decide +kernel
theorem d_X_turn_0 : decode prog_1_method_5_code 0 = .ok (.aload_n 0, 1) := by decide +kernel
theorem d_X_turn_1 : decode prog_1_method_5_code 1 = .ok (.iload_n 1, 1) := by decide +kernel
theorem d_X_turn_2 : decode prog_1_method_5_code 2 = .ok (.invokevirtual 71, 3) := by decide +kernel
theorem d_X_turn_5 : decode prog_1_method_5_code 5 = .ok (.astore 4, 2) := by decide +kernel
theorem d_X_turn_7 : decode prog_1_method_5_code 7 = .ok (.aload 4, 2) := by decide +kernel
theorem d_X_turn_9 : decode prog_1_method_5_code 9 = .ok (.iload_n 2, 1) := by decide +kernel
theorem d_X_turn_10 : decode prog_1_method_5_code 10 = .ok (.invokestatic 75, 3) := by decide +kernel
theorem d_X_turn_13 : decode prog_1_method_5_code 13 = .ok (.aload 4, 2) := by decide +kernel
theorem d_X_turn_15 : decode prog_1_method_5_code 15 = .ok (.iload_n 3, 1) := by decide +kernel
theorem d_X_turn_16 : decode prog_1_method_5_code 16 = .ok (.invokestatic 75, 3) := by decide +kernel
theorem d_X_turn_19 : decode prog_1_method_5_code 19 = .ok (.aload 4, 2) := by decide +kernel
theorem d_X_turn_21 : decode prog_1_method_5_code 21 = .ok (.invokevirtual 86, 3) := by decide +kernel
theorem d_X_turn_24 : decode prog_1_method_5_code 24 = .ok (.astore 5, 2) := by decide +kernel
theorem d_X_turn_26 : decode prog_1_method_5_code 26 = .ok (.aload 5, 2) := by decide +kernel
theorem d_X_turn_28 : decode prog_1_method_5_code 28 = .ok (.getfield 79, 3) := by decide +kernel
theorem d_X_turn_31 : decode prog_1_method_5_code 31 = .ok (.iload_n 2, 1) := by decide +kernel
theorem d_X_turn_32 : decode prog_1_method_5_code 32 = .ok (.aload 4, 2) := by decide +kernel
theorem d_X_turn_34 : decode prog_1_method_5_code 34 = .ok (.getfield 79, 3) := by decide +kernel
theorem d_X_turn_37 : decode prog_1_method_5_code 37 = .ok (.iload_n 3, 1) := by decide +kernel
theorem d_X_turn_38 : decode prog_1_method_5_code 38 = .ok (.iaload, 1) := by decide +kernel
theorem d_X_turn_39 : decode prog_1_method_5_code 39 = .ok (.iastore, 1) := by decide +kernel
theorem d_X_turn_40 : decode prog_1_method_5_code 40 = .ok (.aload 5, 2) := by decide +kernel
theorem d_X_turn_42 : decode prog_1_method_5_code 42 = .ok (.getfield 93, 3) := by decide +kernel
theorem d_X_turn_45 : decode prog_1_method_5_code 45 = .ok (.iload_n 2, 1) := by decide +kernel
theorem d_X_turn_46 : decode prog_1_method_5_code 46 = .ok (.aload 4, 2) := by decide +kernel
theorem d_X_turn_48 : decode prog_1_method_5_code 48 = .ok (.getfield 93, 3) := by decide +kernel
theorem d_X_turn_51 : decode prog_1_method_5_code 51 = .ok (.iload_n 3, 1) := by decide +kernel
theorem d_X_turn_52 : decode prog_1_method_5_code 52 = .ok (.iaload, 1) := by decide +kernel
theorem d_X_turn_53 : decode prog_1_method_5_code 53 = .ok (.iastore, 1) := by decide +kernel
theorem d_X_turn_54 : decode prog_1_method_5_code 54 = .ok (.aload 5, 2) := by decide +kernel
theorem d_X_turn_56 : decode prog_1_method_5_code 56 = .ok (.getfield 79, 3) := by decide +kernel
theorem d_X_turn_59 : decode prog_1_method_5_code 59 = .ok (.iload_n 3, 1) := by decide +kernel
theorem d_X_turn_60 : decode prog_1_method_5_code 60 = .ok (.aload 4, 2) := by decide +kernel
theorem d_X_turn_62 : decode prog_1_method_5_code 62 = .ok (.getfield 79, 3) := by decide +kernel
theorem d_X_turn_65 : decode prog_1_method_5_code 65 = .ok (.iload_n 2, 1) := by decide +kernel
theorem d_X_turn_66 : decode prog_1_method_5_code 66 = .ok (.iaload, 1) := by decide +kernel
theorem d_X_turn_67 : decode prog_1_method_5_code 67 = .ok (.iastore, 1) := by decide +kernel
theorem d_X_turn_68 : decode prog_1_method_5_code 68 = .ok (.aload 5, 2) := by decide +kernel
theorem d_X_turn_70 : decode prog_1_method_5_code 70 = .ok (.getfield 93, 3) := by decide +kernel
theorem d_X_turn_73 : decode prog_1_method_5_code 73 = .ok (.iload_n 3, 1) := by decide +kernel
theorem d_X_turn_74 : decode prog_1_method_5_code 74 = .ok (.aload 4, 2) := by decide +kernel
theorem d_X_turn_76 : decode prog_1_method_5_code 76 = .ok (.getfield 93, 3) := by decide +kernel
theorem d_X_turn_79 : decode prog_1_method_5_code 79 = .ok (.iload_n 2, 1) := by decide +kernel
theorem d_X_turn_80 : decode prog_1_method_5_code 80 = .ok (.iaload, 1) := by decide +kernel
theorem d_X_turn_81 : decode prog_1_method_5_code 81 = .ok (.iastore, 1) := by decide +kernel
theorem d_X_turn_82 : decode prog_1_method_5_code 82 = .ok (.aload_n 0, 1) := by decide +kernel
theorem d_X_turn_83 : decode prog_1_method_5_code 83 = .ok (.aload 5, 2) := by decide +kernel
theorem d_X_turn_85 : decode prog_1_method_5_code 85 = .ok (.invokevirtual 67, 3) := by decide +kernel
theorem d_X_turn_88 : decode prog_1_method_5_code 88 = .ok (.ireturn, 1) := by decide +kernel
theorem d_X_spread_0 : decode prog_1_method_6_code 0 = .ok (.aload_n 0, 1) := by decide +kernel
theorem d_X_spread_1 : decode prog_1_method_6_code 1 = .ok (.iload_n 1, 1) := by decide +kernel
theorem d_X_spread_2 : decode prog_1_method_6_code 2 = .ok (.invokevirtual 71, 3) := by decide +kernel
theorem d_X_spread_5 : decode prog_1_method_6_code 5 = .ok (.astore 4, 2) := by decide +kernel
theorem d_X_spread_7 : decode prog_1_method_6_code 7 = .ok (.iload_n 2, 1) := by decide +kernel
theorem d_X_spread_8 : decode prog_1_method_6_code 8 = .ok (.ifCond .lt 12, 3) := by decide +kernel
theorem d_X_spread_11 : decode prog_1_method_6_code 11 = .ok (.iload_n 2, 1) := by decide +kernel
theorem d_X_spread_12 : decode prog_1_method_6_code 12 = .ok (.aload 4, 2) := by decide +kernel
theorem d_X_spread_14 : decode prog_1_method_6_code 14 = .ok (.getfield 104, 3) := by decide +kernel
theorem d_X_spread_17 : decode prog_1_method_6_code 17 = .ok (.if_icmp .le 13, 3) := by decide +kernel
theorem d_X_spread_20 : decode prog_1_method_6_code 20 = .ok (.new 96, 3) := by decide +kernel
theorem d_X_spread_23 : decode prog_1_method_6_code 23 = .ok (.dup, 1) := by decide +kernel
theorem d_X_spread_24 : decode prog_1_method_6_code 24 = .ok (.ldc 107, 2) := by decide +kernel
theorem d_X_spread_26 : decode prog_1_method_6_code 26 = .ok (.invokespecial 100, 3) := by decide +kernel
theorem d_X_spread_29 : decode prog_1_method_6_code 29 = .ok (.athrow, 1) := by decide +kernel
theorem d_X_spread_30 : decode prog_1_method_6_code 30 = .ok (.iload_n 3, 1) := by decide +kernel
theorem d_X_spread_31 : decode prog_1_method_6_code 31 = .ok (.ifCond .ge 13, 3) := by decide +kernel
theorem d_X_spread_34 : decode prog_1_method_6_code 34 = .ok (.new 44, 3) := by decide +kernel
theorem d_X_spread_37 : decode prog_1_method_6_code 37 = .ok (.dup, 1) := by decide +kernel
theorem d_X_spread_38 : decode prog_1_method_6_code 38 = .ok (.ldc 109, 2) := by decide +kernel
theorem d_X_spread_40 : decode prog_1_method_6_code 40 = .ok (.invokespecial 48, 3) := by decide +kernel
theorem d_X_spread_43 : decode prog_1_method_6_code 43 = .ok (.athrow, 1) := by decide +kernel
theorem d_X_spread_44 : decode prog_1_method_6_code 44 = .ok (.aload 4, 2) := by decide +kernel
theorem d_X_spread_46 : decode prog_1_method_6_code 46 = .ok (.getfield 104, 3) := by decide +kernel
theorem d_X_spread_49 : decode prog_1_method_6_code 49 = .ok (.iconst 4, 1) := by decide +kernel
theorem d_X_spread_50 : decode prog_1_method_6_code 50 = .ok (.if_icmp .lt 13, 3) := by decide +kernel
theorem d_X_spread_53 : decode prog_1_method_6_code 53 = .ok (.new 111, 3) := by decide +kernel
theorem d_X_spread_56 : decode prog_1_method_6_code 56 = .ok (.dup, 1) := by decide +kernel
theorem d_X_spread_57 : decode prog_1_method_6_code 57 = .ok (.ldc 113, 2) := by decide +kernel
theorem d_X_spread_59 : decode prog_1_method_6_code 59 = .ok (.invokespecial 115, 3) := by decide +kernel
theorem d_X_spread_62 : decode prog_1_method_6_code 62 = .ok (.athrow, 1) := by decide +kernel
theorem d_X_spread_63 : decode prog_1_method_6_code 63 = .ok (.aload 4, 2) := by decide +kernel
theorem d_X_spread_65 : decode prog_1_method_6_code 65 = .ok (.invokevirtual 86, 3) := by decide +kernel
theorem d_X_spread_68 : decode prog_1_method_6_code 68 = .ok (.astore 5, 2) := by decide +kernel
theorem d_X_spread_70 : decode prog_1_method_6_code 70 = .ok (.aload 5, 2) := by decide +kernel
theorem d_X_spread_72 : decode prog_1_method_6_code 72 = .ok (.iload_n 2, 1) := by decide +kernel
theorem d_X_spread_73 : decode prog_1_method_6_code 73 = .ok (.iload_n 3, 1) := by decide +kernel
theorem d_X_spread_74 : decode prog_1_method_6_code 74 = .ok (.iconst 0, 1) := by decide +kernel
theorem d_X_spread_75 : decode prog_1_method_6_code 75 = .ok (.invokevirtual 60, 3) := by decide +kernel
theorem d_X_spread_78 : decode prog_1_method_6_code 78 = .ok (.aload_n 0, 1) := by decide +kernel
theorem d_X_spread_79 : decode prog_1_method_6_code 79 = .ok (.aload 5, 2) := by decide +kernel
theorem d_X_spread_81 : decode prog_1_method_6_code 81 = .ok (.invokevirtual 67, 3) := by decide +kernel
theorem d_X_spread_84 : decode prog_1_method_6_code 84 = .ok (.ireturn, 1) := by decide +kernel
theorem d_X_diagonal_0 : decode prog_1_method_7_code 0 = .ok (.aload_n 0, 1) := by decide +kernel
theorem d_X_diagonal_1 : decode prog_1_method_7_code 1 = .ok (.iload_n 1, 1) := by decide +kernel
theorem d_X_diagonal_2 : decode prog_1_method_7_code 2 = .ok (.invokevirtual 71, 3) := by decide +kernel
theorem d_X_diagonal_5 : decode prog_1_method_7_code 5 = .ok (.astore 4, 2) := by decide +kernel
theorem d_X_diagonal_7 : decode prog_1_method_7_code 7 = .ok (.aload 4, 2) := by decide +kernel
theorem d_X_diagonal_9 : decode prog_1_method_7_code 9 = .ok (.iload_n 2, 1) := by decide +kernel
theorem d_X_diagonal_10 : decode prog_1_method_7_code 10 = .ok (.invokestatic 75, 3) := by decide +kernel
theorem d_X_diagonal_13 : decode prog_1_method_7_code 13 = .ok (.aload 4, 2) := by decide +kernel
theorem d_X_diagonal_15 : decode prog_1_method_7_code 15 = .ok (.iload_n 3, 1) := by decide +kernel
theorem d_X_diagonal_16 : decode prog_1_method_7_code 16 = .ok (.invokestatic 75, 3) := by decide +kernel
theorem d_X_diagonal_19 : decode prog_1_method_7_code 19 = .ok (.iload_n 2, 1) := by decide +kernel
theorem d_X_diagonal_20 : decode prog_1_method_7_code 20 = .ok (.iload_n 3, 1) := by decide +kernel
theorem d_X_diagonal_21 : decode prog_1_method_7_code 21 = .ok (.if_icmp .ne 13, 3) := by decide +kernel
theorem d_X_diagonal_24 : decode prog_1_method_7_code 24 = .ok (.new 44, 3) := by decide +kernel
theorem d_X_diagonal_27 : decode prog_1_method_7_code 27 = .ok (.dup, 1) := by decide +kernel
theorem d_X_diagonal_28 : decode prog_1_method_7_code 28 = .ok (.ldc 116, 2) := by decide +kernel
theorem d_X_diagonal_30 : decode prog_1_method_7_code 30 = .ok (.invokespecial 48, 3) := by decide +kernel
theorem d_X_diagonal_33 : decode prog_1_method_7_code 33 = .ok (.athrow, 1) := by decide +kernel
theorem d_X_diagonal_34 : decode prog_1_method_7_code 34 = .ok (.aload 4, 2) := by decide +kernel
theorem d_X_diagonal_36 : decode prog_1_method_7_code 36 = .ok (.invokevirtual 86, 3) := by decide +kernel
theorem d_X_diagonal_39 : decode prog_1_method_7_code 39 = .ok (.astore 5, 2) := by decide +kernel
theorem d_X_diagonal_41 : decode prog_1_method_7_code 41 = .ok (.aload 5, 2) := by decide +kernel
theorem d_X_diagonal_43 : decode prog_1_method_7_code 43 = .ok (.iload_n 2, 1) := by decide +kernel
theorem d_X_diagonal_44 : decode prog_1_method_7_code 44 = .ok (.iload_n 3, 1) := by decide +kernel
theorem d_X_diagonal_45 : decode prog_1_method_7_code 45 = .ok (.invokestatic 118, 3) := by decide +kernel
theorem d_X_diagonal_48 : decode prog_1_method_7_code 48 = .ok (.invokevirtual 101, 3) := by decide +kernel
theorem d_X_diagonal_51 : decode prog_1_method_7_code 51 = .ok (.aload 5, 2) := by decide +kernel
theorem d_X_diagonal_53 : decode prog_1_method_7_code 53 = .ok (.iload_n 2, 1) := by decide +kernel
theorem d_X_diagonal_54 : decode prog_1_method_7_code 54 = .ok (.iload_n 3, 1) := by decide +kernel
theorem d_X_diagonal_55 : decode prog_1_method_7_code 55 = .ok (.invokestatic 124, 3) := by decide +kernel
theorem d_X_diagonal_58 : decode prog_1_method_7_code 58 = .ok (.invokevirtual 101, 3) := by decide +kernel
theorem d_X_diagonal_61 : decode prog_1_method_7_code 61 = .ok (.aload 5, 2) := by decide +kernel
theorem d_X_diagonal_63 : decode prog_1_method_7_code 63 = .ok (.aload 5, 2) := by decide +kernel
theorem d_X_diagonal_65 : decode prog_1_method_7_code 65 = .ok (.getfield 104, 3) := by decide +kernel
theorem d_X_diagonal_68 : decode prog_1_method_7_code 68 = .ok (.aload 4, 2) := by decide +kernel
theorem d_X_diagonal_70 : decode prog_1_method_7_code 70 = .ok (.getfield 79, 3) := by decide +kernel
theorem d_X_diagonal_73 : decode prog_1_method_7_code 73 = .ok (.iload_n 2, 1) := by decide +kernel
theorem d_X_diagonal_74 : decode prog_1_method_7_code 74 = .ok (.iaload, 1) := by decide +kernel
theorem d_X_diagonal_75 : decode prog_1_method_7_code 75 = .ok (.aload 4, 2) := by decide +kernel
theorem d_X_diagonal_77 : decode prog_1_method_7_code 77 = .ok (.getfield 79, 3) := by decide +kernel
theorem d_X_diagonal_80 : decode prog_1_method_7_code 80 = .ok (.iload_n 3, 1) := by decide +kernel
theorem d_X_diagonal_81 : decode prog_1_method_7_code 81 = .ok (.iaload, 1) := by decide +kernel
theorem d_X_diagonal_82 : decode prog_1_method_7_code 82 = .ok (.invokestatic 124, 3) := by decide +kernel
theorem d_X_diagonal_85 : decode prog_1_method_7_code 85 = .ok (.aload 4, 2) := by decide +kernel
theorem d_X_diagonal_87 : decode prog_1_method_7_code 87 = .ok (.getfield 93, 3) := by decide +kernel
theorem d_X_diagonal_90 : decode prog_1_method_7_code 90 = .ok (.iload_n 2, 1) := by decide +kernel
theorem d_X_diagonal_91 : decode prog_1_method_7_code 91 = .ok (.iaload, 1) := by decide +kernel
theorem d_X_diagonal_92 : decode prog_1_method_7_code 92 = .ok (.aload 4, 2) := by decide +kernel
theorem d_X_diagonal_94 : decode prog_1_method_7_code 94 = .ok (.getfield 93, 3) := by decide +kernel
theorem d_X_diagonal_97 : decode prog_1_method_7_code 97 = .ok (.iload_n 3, 1) := by decide +kernel
theorem d_X_diagonal_98 : decode prog_1_method_7_code 98 = .ok (.iaload, 1) := by decide +kernel
theorem d_X_diagonal_99 : decode prog_1_method_7_code 99 = .ok (.iadd, 1) := by decide +kernel
theorem d_X_diagonal_100 : decode prog_1_method_7_code 100 = .ok (.invokevirtual 60, 3) := by decide +kernel
theorem d_X_diagonal_103 : decode prog_1_method_7_code 103 = .ok (.aload_n 0, 1) := by decide +kernel
theorem d_X_diagonal_104 : decode prog_1_method_7_code 104 = .ok (.aload 5, 2) := by decide +kernel
theorem d_X_diagonal_106 : decode prog_1_method_7_code 106 = .ok (.invokevirtual 67, 3) := by decide +kernel
theorem d_X_diagonal_109 : decode prog_1_method_7_code 109 = .ok (.ireturn, 1) := by decide +kernel
theorem d_X_shape_0 : decode prog_1_method_8_code 0 = .ok (.aload_n 0, 1) := by decide +kernel
theorem d_X_shape_1 : decode prog_1_method_8_code 1 = .ok (.iload_n 1, 1) := by decide +kernel
theorem d_X_shape_2 : decode prog_1_method_8_code 2 = .ok (.invokevirtual 71, 3) := by decide +kernel
theorem d_X_shape_5 : decode prog_1_method_8_code 5 = .ok (.astore 5, 2) := by decide +kernel
theorem d_X_shape_7 : decode prog_1_method_8_code 7 = .ok (.iload_n 2, 1) := by decide +kernel
theorem d_X_shape_8 : decode prog_1_method_8_code 8 = .ok (.iconst (-1), 1) := by decide +kernel
theorem d_X_shape_9 : decode prog_1_method_8_code 9 = .ok (.if_icmp .lt 14, 3) := by decide +kernel
theorem d_X_shape_12 : decode prog_1_method_8_code 12 = .ok (.iload_n 3, 1) := by decide +kernel
theorem d_X_shape_13 : decode prog_1_method_8_code 13 = .ok (.iconst (-1), 1) := by decide +kernel
theorem d_X_shape_14 : decode prog_1_method_8_code 14 = .ok (.if_icmp .lt 9, 3) := by decide +kernel
theorem d_X_shape_17 : decode prog_1_method_8_code 17 = .ok (.iload 4, 2) := by decide +kernel
theorem d_X_shape_19 : decode prog_1_method_8_code 19 = .ok (.iconst (-1), 1) := by decide +kernel
theorem d_X_shape_20 : decode prog_1_method_8_code 20 = .ok (.if_icmp .ge 13, 3) := by decide +kernel
theorem d_X_shape_23 : decode prog_1_method_8_code 23 = .ok (.new 44, 3) := by decide +kernel
theorem d_X_shape_26 : decode prog_1_method_8_code 26 = .ok (.dup, 1) := by decide +kernel
theorem d_X_shape_27 : decode prog_1_method_8_code 27 = .ok (.ldc 127, 2) := by decide +kernel
theorem d_X_shape_29 : decode prog_1_method_8_code 29 = .ok (.invokespecial 48, 3) := by decide +kernel
theorem d_X_shape_32 : decode prog_1_method_8_code 32 = .ok (.athrow, 1) := by decide +kernel
theorem d_X_shape_33 : decode prog_1_method_8_code 33 = .ok (.new 15, 3) := by decide +kernel
theorem d_X_shape_36 : decode prog_1_method_8_code 36 = .ok (.dup, 1) := by decide +kernel
theorem d_X_shape_37 : decode prog_1_method_8_code 37 = .ok (.aload 5, 2) := by decide +kernel
theorem d_X_shape_39 : decode prog_1_method_8_code 39 = .ok (.getfield 129, 3) := by decide +kernel
theorem d_X_shape_42 : decode prog_1_method_8_code 42 = .ok (.aload 5, 2) := by decide +kernel
theorem d_X_shape_44 : decode prog_1_method_8_code 44 = .ok (.getfield 90, 3) := by decide +kernel
theorem d_X_shape_47 : decode prog_1_method_8_code 47 = .ok (.invokespecial 57, 3) := by decide +kernel
theorem d_X_shape_50 : decode prog_1_method_8_code 50 = .ok (.astore 6, 2) := by decide +kernel
theorem d_X_shape_52 : decode prog_1_method_8_code 52 = .ok (.aload 6, 2) := by decide +kernel
theorem d_X_shape_54 : decode prog_1_method_8_code 54 = .ok (.iload_n 2, 1) := by decide +kernel
theorem d_X_shape_55 : decode prog_1_method_8_code 55 = .ok (.invokevirtual 133, 3) := by decide +kernel
theorem d_X_shape_58 : decode prog_1_method_8_code 58 = .ok (.aload 6, 2) := by decide +kernel
theorem d_X_shape_60 : decode prog_1_method_8_code 60 = .ok (.iload_n 3, 1) := by decide +kernel
theorem d_X_shape_61 : decode prog_1_method_8_code 61 = .ok (.invokevirtual 133, 3) := by decide +kernel
theorem d_X_shape_64 : decode prog_1_method_8_code 64 = .ok (.aload 6, 2) := by decide +kernel
theorem d_X_shape_66 : decode prog_1_method_8_code 66 = .ok (.iload 4, 2) := by decide +kernel
theorem d_X_shape_68 : decode prog_1_method_8_code 68 = .ok (.invokevirtual 133, 3) := by decide +kernel
theorem d_X_shape_71 : decode prog_1_method_8_code 71 = .ok (.aload 6, 2) := by decide +kernel
theorem d_X_shape_73 : decode prog_1_method_8_code 73 = .ok (.invokevirtual 136, 3) := by decide +kernel
theorem d_X_shape_76 : decode prog_1_method_8_code 76 = .ok (.aload 6, 2) := by decide +kernel
theorem d_X_shape_78 : decode prog_1_method_8_code 78 = .ok (.getfield 139, 3) := by decide +kernel
theorem d_X_shape_81 : decode prog_1_method_8_code 81 = .ok (.aload 5, 2) := by decide +kernel
theorem d_X_shape_83 : decode prog_1_method_8_code 83 = .ok (.getfield 139, 3) := by decide +kernel
theorem d_X_shape_86 : decode prog_1_method_8_code 86 = .ok (.if_icmp .eq 13, 3) := by decide +kernel
theorem d_X_shape_89 : decode prog_1_method_8_code 89 = .ok (.new 44, 3) := by decide +kernel
theorem d_X_shape_92 : decode prog_1_method_8_code 92 = .ok (.dup, 1) := by decide +kernel
theorem d_X_shape_93 : decode prog_1_method_8_code 93 = .ok (.ldc 142, 2) := by decide +kernel
theorem d_X_shape_95 : decode prog_1_method_8_code 95 = .ok (.invokespecial 48, 3) := by decide +kernel
theorem d_X_shape_98 : decode prog_1_method_8_code 98 = .ok (.athrow, 1) := by decide +kernel
theorem d_X_shape_99 : decode prog_1_method_8_code 99 = .ok (.aload_n 0, 1) := by decide +kernel
theorem d_X_shape_100 : decode prog_1_method_8_code 100 = .ok (.aload 5, 2) := by decide +kernel
theorem d_X_shape_102 : decode prog_1_method_8_code 102 = .ok (.aload 5, 2) := by decide +kernel
theorem d_X_shape_104 : decode prog_1_method_8_code 104 = .ok (.invokevirtual 144, 3) := by decide +kernel
theorem d_X_shape_107 : decode prog_1_method_8_code 107 = .ok (.aload_n 0, 1) := by decide +kernel
theorem d_X_shape_108 : decode prog_1_method_8_code 108 = .ok (.aload 6, 2) := by decide +kernel
theorem d_X_shape_110 : decode prog_1_method_8_code 110 = .ok (.invokevirtual 148, 3) := by decide +kernel
theorem d_X_shape_113 : decode prog_1_method_8_code 113 = .ok (.aload_n 0, 1) := by decide +kernel
theorem d_X_shape_114 : decode prog_1_method_8_code 114 = .ok (.aload 6, 2) := by decide +kernel
theorem d_X_shape_116 : decode prog_1_method_8_code 116 = .ok (.invokevirtual 152, 3) := by decide +kernel
theorem d_X_shape_119 : decode prog_1_method_8_code 119 = .ok (.ifCond .ne 13, 3) := by decide +kernel
theorem d_X_shape_122 : decode prog_1_method_8_code 122 = .ok (.new 111, 3) := by decide +kernel
theorem d_X_shape_125 : decode prog_1_method_8_code 125 = .ok (.dup, 1) := by decide +kernel
theorem d_X_shape_126 : decode prog_1_method_8_code 126 = .ok (.ldc 156, 2) := by decide +kernel
theorem d_X_shape_128 : decode prog_1_method_8_code 128 = .ok (.invokespecial 115, 3) := by decide +kernel
theorem d_X_shape_131 : decode prog_1_method_8_code 131 = .ok (.athrow, 1) := by decide +kernel
theorem d_X_shape_132 : decode prog_1_method_8_code 132 = .ok (.aload_n 0, 1) := by decide +kernel
theorem d_X_shape_133 : decode prog_1_method_8_code 133 = .ok (.aload 6, 2) := by decide +kernel
theorem d_X_shape_135 : decode prog_1_method_8_code 135 = .ok (.invokevirtual 67, 3) := by decide +kernel
theorem d_X_shape_138 : decode prog_1_method_8_code 138 = .ok (.ireturn, 1) := by decide +kernel
theorem d_X_layOut_0 : decode prog_1_method_33_code 0 = .ok (.aload_n 2, 1) := by decide +kernel
theorem d_X_layOut_1 : decode prog_1_method_33_code 1 = .ok (.getfield 139, 3) := by decide +kernel
theorem d_X_layOut_4 : decode prog_1_method_33_code 4 = .ok (.ifCond .ne 4, 3) := by decide +kernel
theorem d_X_layOut_7 : decode prog_1_method_33_code 7 = .ok (.return_, 1) := by decide +kernel
theorem d_X_layOut_8 : decode prog_1_method_33_code 8 = .ok (.aload_n 0, 1) := by decide +kernel
theorem d_X_layOut_9 : decode prog_1_method_33_code 9 = .ok (.getfield 21, 3) := by decide +kernel
theorem d_X_layOut_12 : decode prog_1_method_33_code 12 = .ok (.iconst 0, 1) := by decide +kernel
theorem d_X_layOut_13 : decode prog_1_method_33_code 13 = .ok (.aload_n 1, 1) := by decide +kernel
theorem d_X_layOut_14 : decode prog_1_method_33_code 14 = .ok (.getfield 90, 3) := by decide +kernel
theorem d_X_layOut_17 : decode prog_1_method_33_code 17 = .ok (.iastore, 1) := by decide +kernel
theorem d_X_layOut_18 : decode prog_1_method_33_code 18 = .ok (.iconst 1, 1) := by decide +kernel
theorem d_X_layOut_19 : decode prog_1_method_33_code 19 = .ok (.istore_n 3, 1) := by decide +kernel
theorem d_X_layOut_20 : decode prog_1_method_33_code 20 = .ok (.aload_n 2, 1) := by decide +kernel
theorem d_X_layOut_21 : decode prog_1_method_33_code 21 = .ok (.getfield 104, 3) := by decide +kernel
theorem d_X_layOut_24 : decode prog_1_method_33_code 24 = .ok (.aload_n 1, 1) := by decide +kernel
theorem d_X_layOut_25 : decode prog_1_method_33_code 25 = .ok (.getfield 104, 3) := by decide +kernel
theorem d_X_layOut_28 : decode prog_1_method_33_code 28 = .ok (.isub, 1) := by decide +kernel
theorem d_X_layOut_29 : decode prog_1_method_33_code 29 = .ok (.istore 4, 2) := by decide +kernel
theorem d_X_layOut_31 : decode prog_1_method_33_code 31 = .ok (.aload_n 2, 1) := by decide +kernel
theorem d_X_layOut_32 : decode prog_1_method_33_code 32 = .ok (.getfield 104, 3) := by decide +kernel
theorem d_X_layOut_35 : decode prog_1_method_33_code 35 = .ok (.iconst 1, 1) := by decide +kernel
theorem d_X_layOut_36 : decode prog_1_method_33_code 36 = .ok (.isub, 1) := by decide +kernel
theorem d_X_layOut_37 : decode prog_1_method_33_code 37 = .ok (.istore 5, 2) := by decide +kernel
theorem d_X_layOut_39 : decode prog_1_method_33_code 39 = .ok (.iload 5, 2) := by decide +kernel
theorem d_X_layOut_41 : decode prog_1_method_33_code 41 = .ok (.ifCond .lt 81, 3) := by decide +kernel
theorem d_X_layOut_44 : decode prog_1_method_33_code 44 = .ok (.iload 5, 2) := by decide +kernel
theorem d_X_layOut_46 : decode prog_1_method_33_code 46 = .ok (.iload 4, 2) := by decide +kernel
theorem d_X_layOut_48 : decode prog_1_method_33_code 48 = .ok (.if_icmp .ge 7, 3) := by decide +kernel
theorem d_X_layOut_51 : decode prog_1_method_33_code 51 = .ok (.iconst 0, 1) := by decide +kernel
theorem d_X_layOut_52 : decode prog_1_method_33_code 52 = .ok (.goto 13, 3) := by decide +kernel
theorem d_X_layOut_55 : decode prog_1_method_33_code 55 = .ok (.aload_n 1, 1) := by decide +kernel
theorem d_X_layOut_56 : decode prog_1_method_33_code 56 = .ok (.getfield 93, 3) := by decide +kernel
theorem d_X_layOut_59 : decode prog_1_method_33_code 59 = .ok (.iload 5, 2) := by decide +kernel
theorem d_X_layOut_61 : decode prog_1_method_33_code 61 = .ok (.iload 4, 2) := by decide +kernel
theorem d_X_layOut_63 : decode prog_1_method_33_code 63 = .ok (.isub, 1) := by decide +kernel
theorem d_X_layOut_64 : decode prog_1_method_33_code 64 = .ok (.iaload, 1) := by decide +kernel
theorem d_X_layOut_65 : decode prog_1_method_33_code 65 = .ok (.istore 6, 2) := by decide +kernel
theorem d_X_layOut_67 : decode prog_1_method_33_code 67 = .ok (.iload_n 3, 1) := by decide +kernel
theorem d_X_layOut_68 : decode prog_1_method_33_code 68 = .ok (.aload_n 2, 1) := by decide +kernel
theorem d_X_layOut_69 : decode prog_1_method_33_code 69 = .ok (.getfield 79, 3) := by decide +kernel
theorem d_X_layOut_72 : decode prog_1_method_33_code 72 = .ok (.iload 5, 2) := by decide +kernel
theorem d_X_layOut_74 : decode prog_1_method_33_code 74 = .ok (.iaload, 1) := by decide +kernel
theorem d_X_layOut_75 : decode prog_1_method_33_code 75 = .ok (.imul, 1) := by decide +kernel
theorem d_X_layOut_76 : decode prog_1_method_33_code 76 = .ok (.istore 7, 2) := by decide +kernel
theorem d_X_layOut_78 : decode prog_1_method_33_code 78 = .ok (.iload_n 3, 1) := by decide +kernel
theorem d_X_layOut_79 : decode prog_1_method_33_code 79 = .ok (.istore 8, 2) := by decide +kernel
theorem d_X_layOut_81 : decode prog_1_method_33_code 81 = .ok (.iload 8, 2) := by decide +kernel
theorem d_X_layOut_83 : decode prog_1_method_33_code 83 = .ok (.iload 7, 2) := by decide +kernel
theorem d_X_layOut_85 : decode prog_1_method_33_code 85 = .ok (.if_icmp .ge 28, 3) := by decide +kernel
theorem d_X_layOut_88 : decode prog_1_method_33_code 88 = .ok (.aload_n 0, 1) := by decide +kernel
theorem d_X_layOut_89 : decode prog_1_method_33_code 89 = .ok (.getfield 21, 3) := by decide +kernel
theorem d_X_layOut_92 : decode prog_1_method_33_code 92 = .ok (.iload 8, 2) := by decide +kernel
theorem d_X_layOut_94 : decode prog_1_method_33_code 94 = .ok (.aload_n 0, 1) := by decide +kernel
theorem d_X_layOut_95 : decode prog_1_method_33_code 95 = .ok (.getfield 21, 3) := by decide +kernel
theorem d_X_layOut_98 : decode prog_1_method_33_code 98 = .ok (.iload 8, 2) := by decide +kernel
theorem d_X_layOut_100 : decode prog_1_method_33_code 100 = .ok (.iload_n 3, 1) := by decide +kernel
theorem d_X_layOut_101 : decode prog_1_method_33_code 101 = .ok (.isub, 1) := by decide +kernel
theorem d_X_layOut_102 : decode prog_1_method_33_code 102 = .ok (.iaload, 1) := by decide +kernel
theorem d_X_layOut_103 : decode prog_1_method_33_code 103 = .ok (.iload 6, 2) := by decide +kernel
theorem d_X_layOut_105 : decode prog_1_method_33_code 105 = .ok (.iadd, 1) := by decide +kernel
theorem d_X_layOut_106 : decode prog_1_method_33_code 106 = .ok (.iastore, 1) := by decide +kernel
theorem d_X_layOut_107 : decode prog_1_method_33_code 107 = .ok (.iinc 8 1, 3) := by decide +kernel
theorem d_X_layOut_110 : decode prog_1_method_33_code 110 = .ok (.goto (-29), 3) := by decide +kernel
theorem d_X_layOut_113 : decode prog_1_method_33_code 113 = .ok (.iload 7, 2) := by decide +kernel
theorem d_X_layOut_115 : decode prog_1_method_33_code 115 = .ok (.istore_n 3, 1) := by decide +kernel
theorem d_X_layOut_116 : decode prog_1_method_33_code 116 = .ok (.iinc 5 (-1), 3) := by decide +kernel
theorem d_X_layOut_119 : decode prog_1_method_33_code 119 = .ok (.goto (-80), 3) := by decide +kernel
theorem d_X_layOut_122 : decode prog_1_method_33_code 122 = .ok (.return_, 1) := by decide +kernel
theorem d_X_guessSteps_0 : decode prog_1_method_36_code 0 = .ok (.aload_n 1, 1) := by decide +kernel
theorem d_X_guessSteps_1 : decode prog_1_method_36_code 1 = .ok (.getfield 139, 3) := by decide +kernel
theorem d_X_guessSteps_4 : decode prog_1_method_36_code 4 = .ok (.ifCond .ne 4, 3) := by decide +kernel
theorem d_X_guessSteps_7 : decode prog_1_method_36_code 7 = .ok (.return_, 1) := by decide +kernel
theorem d_X_guessSteps_8 : decode prog_1_method_36_code 8 = .ok (.iconst 1, 1) := by decide +kernel
theorem d_X_guessSteps_9 : decode prog_1_method_36_code 9 = .ok (.istore_n 2, 1) := by decide +kernel
theorem d_X_guessSteps_10 : decode prog_1_method_36_code 10 = .ok (.aload_n 1, 1) := by decide +kernel
theorem d_X_guessSteps_11 : decode prog_1_method_36_code 11 = .ok (.getfield 104, 3) := by decide +kernel
theorem d_X_guessSteps_14 : decode prog_1_method_36_code 14 = .ok (.iconst 1, 1) := by decide +kernel
theorem d_X_guessSteps_15 : decode prog_1_method_36_code 15 = .ok (.isub, 1) := by decide +kernel
theorem d_X_guessSteps_16 : decode prog_1_method_36_code 16 = .ok (.istore_n 3, 1) := by decide +kernel
theorem d_X_guessSteps_17 : decode prog_1_method_36_code 17 = .ok (.iload_n 3, 1) := by decide +kernel
theorem d_X_guessSteps_18 : decode prog_1_method_36_code 18 = .ok (.ifCond .lt 47, 3) := by decide +kernel
theorem d_X_guessSteps_21 : decode prog_1_method_36_code 21 = .ok (.aload_n 1, 1) := by decide +kernel
theorem d_X_guessSteps_22 : decode prog_1_method_36_code 22 = .ok (.getfield 79, 3) := by decide +kernel
theorem d_X_guessSteps_25 : decode prog_1_method_36_code 25 = .ok (.iload_n 3, 1) := by decide +kernel
theorem d_X_guessSteps_26 : decode prog_1_method_36_code 26 = .ok (.iaload, 1) := by decide +kernel
theorem d_X_guessSteps_27 : decode prog_1_method_36_code 27 = .ok (.iconst 1, 1) := by decide +kernel
theorem d_X_guessSteps_28 : decode prog_1_method_36_code 28 = .ok (.if_icmp .le 22, 3) := by decide +kernel
theorem d_X_guessSteps_31 : decode prog_1_method_36_code 31 = .ok (.aload_n 1, 1) := by decide +kernel
theorem d_X_guessSteps_32 : decode prog_1_method_36_code 32 = .ok (.getfield 93, 3) := by decide +kernel
theorem d_X_guessSteps_35 : decode prog_1_method_36_code 35 = .ok (.iload_n 3, 1) := by decide +kernel
theorem d_X_guessSteps_36 : decode prog_1_method_36_code 36 = .ok (.aload_n 0, 1) := by decide +kernel
theorem d_X_guessSteps_37 : decode prog_1_method_36_code 37 = .ok (.getfield 21, 3) := by decide +kernel
theorem d_X_guessSteps_40 : decode prog_1_method_36_code 40 = .ok (.iload_n 2, 1) := by decide +kernel
theorem d_X_guessSteps_41 : decode prog_1_method_36_code 41 = .ok (.iaload, 1) := by decide +kernel
theorem d_X_guessSteps_42 : decode prog_1_method_36_code 42 = .ok (.aload_n 0, 1) := by decide +kernel
theorem d_X_guessSteps_43 : decode prog_1_method_36_code 43 = .ok (.getfield 21, 3) := by decide +kernel
theorem d_X_guessSteps_46 : decode prog_1_method_36_code 46 = .ok (.iconst 0, 1) := by decide +kernel
theorem d_X_guessSteps_47 : decode prog_1_method_36_code 47 = .ok (.iaload, 1) := by decide +kernel
theorem d_X_guessSteps_48 : decode prog_1_method_36_code 48 = .ok (.isub, 1) := by decide +kernel
theorem d_X_guessSteps_49 : decode prog_1_method_36_code 49 = .ok (.iastore, 1) := by decide +kernel
theorem d_X_guessSteps_50 : decode prog_1_method_36_code 50 = .ok (.iload_n 2, 1) := by decide +kernel
theorem d_X_guessSteps_51 : decode prog_1_method_36_code 51 = .ok (.aload_n 1, 1) := by decide +kernel
theorem d_X_guessSteps_52 : decode prog_1_method_36_code 52 = .ok (.getfield 79, 3) := by decide +kernel
theorem d_X_guessSteps_55 : decode prog_1_method_36_code 55 = .ok (.iload_n 3, 1) := by decide +kernel
theorem d_X_guessSteps_56 : decode prog_1_method_36_code 56 = .ok (.iaload, 1) := by decide +kernel
theorem d_X_guessSteps_57 : decode prog_1_method_36_code 57 = .ok (.imul, 1) := by decide +kernel
theorem d_X_guessSteps_58 : decode prog_1_method_36_code 58 = .ok (.istore_n 2, 1) := by decide +kernel
theorem d_X_guessSteps_59 : decode prog_1_method_36_code 59 = .ok (.iinc 3 (-1), 3) := by decide +kernel
theorem d_X_guessSteps_62 : decode prog_1_method_36_code 62 = .ok (.goto (-45), 3) := by decide +kernel
theorem d_X_guessSteps_65 : decode prog_1_method_36_code 65 = .ok (.return_, 1) := by decide +kernel
theorem d_X_liesAsLaidOut_0 : decode prog_1_method_37_code 0 = .ok (.iconst 0, 1) := by decide +kernel
theorem d_X_liesAsLaidOut_1 : decode prog_1_method_37_code 1 = .ok (.istore_n 2, 1) := by decide +kernel
theorem d_X_liesAsLaidOut_2 : decode prog_1_method_37_code 2 = .ok (.iload_n 2, 1) := by decide +kernel
theorem d_X_liesAsLaidOut_3 : decode prog_1_method_37_code 3 = .ok (.aload_n 1, 1) := by decide +kernel
theorem d_X_liesAsLaidOut_4 : decode prog_1_method_37_code 4 = .ok (.getfield 139, 3) := by decide +kernel
theorem d_X_liesAsLaidOut_7 : decode prog_1_method_37_code 7 = .ok (.if_icmp .ge 25, 3) := by decide +kernel
theorem d_X_liesAsLaidOut_10 : decode prog_1_method_37_code 10 = .ok (.aload_n 1, 1) := by decide +kernel
theorem d_X_liesAsLaidOut_11 : decode prog_1_method_37_code 11 = .ok (.iload_n 2, 1) := by decide +kernel
theorem d_X_liesAsLaidOut_12 : decode prog_1_method_37_code 12 = .ok (.invokevirtual 179, 3) := by decide +kernel
theorem d_X_liesAsLaidOut_15 : decode prog_1_method_37_code 15 = .ok (.aload_n 0, 1) := by decide +kernel
theorem d_X_liesAsLaidOut_16 : decode prog_1_method_37_code 16 = .ok (.getfield 21, 3) := by decide +kernel
theorem d_X_liesAsLaidOut_19 : decode prog_1_method_37_code 19 = .ok (.iload_n 2, 1) := by decide +kernel
theorem d_X_liesAsLaidOut_20 : decode prog_1_method_37_code 20 = .ok (.iaload, 1) := by decide +kernel
theorem d_X_liesAsLaidOut_21 : decode prog_1_method_37_code 21 = .ok (.if_icmp .eq 5, 3) := by decide +kernel
theorem d_X_liesAsLaidOut_24 : decode prog_1_method_37_code 24 = .ok (.iconst 0, 1) := by decide +kernel
theorem d_X_liesAsLaidOut_25 : decode prog_1_method_37_code 25 = .ok (.ireturn, 1) := by decide +kernel
theorem d_X_liesAsLaidOut_26 : decode prog_1_method_37_code 26 = .ok (.iinc 2 1, 3) := by decide +kernel
theorem d_X_liesAsLaidOut_29 : decode prog_1_method_37_code 29 = .ok (.goto (-27), 3) := by decide +kernel
theorem d_X_liesAsLaidOut_32 : decode prog_1_method_37_code 32 = .ok (.iconst 1, 1) := by decide +kernel
theorem d_X_liesAsLaidOut_33 : decode prog_1_method_37_code 33 = .ok (.ireturn, 1) := by decide +kernel
theorem d_X_compact_0 : decode prog_1_method_9_code 0 = .ok (.aload_n 0, 1) := by decide +kernel
theorem d_X_compact_1 : decode prog_1_method_9_code 1 = .ok (.iload_n 1, 1) := by decide +kernel
theorem d_X_compact_2 : decode prog_1_method_9_code 2 = .ok (.invokevirtual 71, 3) := by decide +kernel
theorem d_X_compact_5 : decode prog_1_method_9_code 5 = .ok (.astore_n 3, 1) := by decide +kernel
theorem d_X_compact_6 : decode prog_1_method_9_code 6 = .ok (.iload_n 2, 1) := by decide +kernel
theorem d_X_compact_7 : decode prog_1_method_9_code 7 = .ok (.invokestatic 40, 3) := by decide +kernel
theorem d_X_compact_10 : decode prog_1_method_9_code 10 = .ok (.aload_n 3, 1) := by decide +kernel
theorem d_X_compact_11 : decode prog_1_method_9_code 11 = .ok (.getfield 139, 3) := by decide +kernel
theorem d_X_compact_14 : decode prog_1_method_9_code 14 = .ok (.invokestatic 158, 3) := by decide +kernel
theorem d_X_compact_17 : decode prog_1_method_9_code 17 = .ok (.aload_n 0, 1) := by decide +kernel
theorem d_X_compact_18 : decode prog_1_method_9_code 18 = .ok (.invokevirtual 51, 3) := by decide +kernel
theorem d_X_compact_21 : decode prog_1_method_9_code 21 = .ok (.new 9, 3) := by decide +kernel
theorem d_X_compact_24 : decode prog_1_method_9_code 24 = .ok (.dup, 1) := by decide +kernel
theorem d_X_compact_25 : decode prog_1_method_9_code 25 = .ok (.aload_n 0, 1) := by decide +kernel
theorem d_X_compact_26 : decode prog_1_method_9_code 26 = .ok (.getfield 33, 3) := by decide +kernel
theorem d_X_compact_29 : decode prog_1_method_9_code 29 = .ok (.iload_n 2, 1) := by decide +kernel
theorem d_X_compact_30 : decode prog_1_method_9_code 30 = .ok (.aload_n 3, 1) := by decide +kernel
theorem d_X_compact_31 : decode prog_1_method_9_code 31 = .ok (.getfield 139, 3) := by decide +kernel
theorem d_X_compact_34 : decode prog_1_method_9_code 34 = .ok (.invokespecial 54, 3) := by decide +kernel
theorem d_X_compact_37 : decode prog_1_method_9_code 37 = .ok (.astore 4, 2) := by decide +kernel
theorem d_X_compact_39 : decode prog_1_method_9_code 39 = .ok (.new 15, 3) := by decide +kernel
theorem d_X_compact_42 : decode prog_1_method_9_code 42 = .ok (.dup, 1) := by decide +kernel
theorem d_X_compact_43 : decode prog_1_method_9_code 43 = .ok (.aload 4, 2) := by decide +kernel
theorem d_X_compact_45 : decode prog_1_method_9_code 45 = .ok (.iconst 0, 1) := by decide +kernel
theorem d_X_compact_46 : decode prog_1_method_9_code 46 = .ok (.invokespecial 57, 3) := by decide +kernel
theorem d_X_compact_49 : decode prog_1_method_9_code 49 = .ok (.astore 5, 2) := by decide +kernel
theorem d_X_compact_51 : decode prog_1_method_9_code 51 = .ok (.aload 5, 2) := by decide +kernel
theorem d_X_compact_53 : decode prog_1_method_9_code 53 = .ok (.aload_n 3, 1) := by decide +kernel
theorem d_X_compact_54 : decode prog_1_method_9_code 54 = .ok (.iconst (-1), 1) := by decide +kernel
theorem d_X_compact_55 : decode prog_1_method_9_code 55 = .ok (.invokevirtual 161, 3) := by decide +kernel
theorem d_X_compact_58 : decode prog_1_method_9_code 58 = .ok (.aload 5, 2) := by decide +kernel
theorem d_X_compact_60 : decode prog_1_method_9_code 60 = .ok (.invokevirtual 164, 3) := by decide +kernel
theorem d_X_compact_63 : decode prog_1_method_9_code 63 = .ok (.aload_n 0, 1) := by decide +kernel
theorem d_X_compact_64 : decode prog_1_method_9_code 64 = .ok (.aload_n 3, 1) := by decide +kernel
theorem d_X_compact_65 : decode prog_1_method_9_code 65 = .ok (.aload_n 3, 1) := by decide +kernel
theorem d_X_compact_66 : decode prog_1_method_9_code 66 = .ok (.invokevirtual 167, 3) := by decide +kernel
theorem d_X_compact_69 : decode prog_1_method_9_code 69 = .ok (.aload_n 0, 1) := by decide +kernel
theorem d_X_compact_70 : decode prog_1_method_9_code 70 = .ok (.aload 4, 2) := by decide +kernel
theorem d_X_compact_72 : decode prog_1_method_9_code 72 = .ok (.invokevirtual 63, 3) := by decide +kernel
theorem d_X_compact_75 : decode prog_1_method_9_code 75 = .ok (.aload_n 0, 1) := by decide +kernel
theorem d_X_compact_76 : decode prog_1_method_9_code 76 = .ok (.aload 5, 2) := by decide +kernel
theorem d_X_compact_78 : decode prog_1_method_9_code 78 = .ok (.invokevirtual 67, 3) := by decide +kernel
theorem d_X_compact_81 : decode prog_1_method_9_code 81 = .ok (.istore 6, 2) := by decide +kernel
theorem d_X_compact_83 : decode prog_1_method_9_code 83 = .ok (.aload_n 0, 1) := by decide +kernel
theorem d_X_compact_84 : decode prog_1_method_9_code 84 = .ok (.aload 5, 2) := by decide +kernel
theorem d_X_compact_86 : decode prog_1_method_9_code 86 = .ok (.invokevirtual 170, 3) := by decide +kernel
theorem d_X_compact_89 : decode prog_1_method_9_code 89 = .ok (.pop, 1) := by decide +kernel
theorem d_X_compact_90 : decode prog_1_method_9_code 90 = .ok (.iload 6, 2) := by decide +kernel
theorem d_X_compact_92 : decode prog_1_method_9_code 92 = .ok (.ireturn, 1) := by decide +kernel
theorem d_X_needFewNumbers_0 : decode prog_1_method_29_code 0 = .ok (.iload_n 0, 1) := by decide +kernel
theorem d_X_needFewNumbers_1 : decode prog_1_method_29_code 1 = .ok (.sipush 300, 3) := by decide +kernel
theorem d_X_needFewNumbers_4 : decode prog_1_method_29_code 4 = .ok (.if_icmp .le 14, 3) := by decide +kernel
theorem d_X_needFewNumbers_7 : decode prog_1_method_29_code 7 = .ok (.new 111, 3) := by decide +kernel
theorem d_X_needFewNumbers_10 : decode prog_1_method_29_code 10 = .ok (.dup, 1) := by decide +kernel
theorem d_X_needFewNumbers_11 : decode prog_1_method_29_code 11 = .ok (.ldc_w 263, 3) := by decide +kernel
theorem d_X_needFewNumbers_14 : decode prog_1_method_29_code 14 = .ok (.invokespecial 115, 3) := by decide +kernel
theorem d_X_needFewNumbers_17 : decode prog_1_method_29_code 17 = .ok (.athrow, 1) := by decide +kernel
theorem d_X_needFewNumbers_18 : decode prog_1_method_29_code 18 = .ok (.return_, 1) := by decide +kernel
theorem d_X_readItems_0 : decode prog_1_method_34_code 0 = .ok (.aload_n 0, 1) := by decide +kernel
theorem d_X_readItems_1 : decode prog_1_method_34_code 1 = .ok (.aload_n 1, 1) := by decide +kernel
theorem d_X_readItems_2 : decode prog_1_method_34_code 2 = .ok (.aload_n 2, 1) := by decide +kernel
theorem d_X_readItems_3 : decode prog_1_method_34_code 3 = .ok (.invokevirtual 144, 3) := by decide +kernel
theorem d_X_readItems_6 : decode prog_1_method_34_code 6 = .ok (.iconst 0, 1) := by decide +kernel
theorem d_X_readItems_7 : decode prog_1_method_34_code 7 = .ok (.istore_n 3, 1) := by decide +kernel
theorem d_X_readItems_8 : decode prog_1_method_34_code 8 = .ok (.iload_n 3, 1) := by decide +kernel
theorem d_X_readItems_9 : decode prog_1_method_34_code 9 = .ok (.aload_n 2, 1) := by decide +kernel
theorem d_X_readItems_10 : decode prog_1_method_34_code 10 = .ok (.getfield 139, 3) := by decide +kernel
theorem d_X_readItems_13 : decode prog_1_method_34_code 13 = .ok (.if_icmp .ge 29, 3) := by decide +kernel
theorem d_X_readItems_16 : decode prog_1_method_34_code 16 = .ok (.aload_n 0, 1) := by decide +kernel
theorem d_X_readItems_17 : decode prog_1_method_34_code 17 = .ok (.getfield 25, 3) := by decide +kernel
theorem d_X_readItems_20 : decode prog_1_method_34_code 20 = .ok (.iload_n 3, 1) := by decide +kernel
theorem d_X_readItems_21 : decode prog_1_method_34_code 21 = .ok (.aload_n 1, 1) := by decide +kernel
theorem d_X_readItems_22 : decode prog_1_method_34_code 22 = .ok (.getfield 129, 3) := by decide +kernel
theorem d_X_readItems_25 : decode prog_1_method_34_code 25 = .ok (.getfield 176, 3) := by decide +kernel
theorem d_X_readItems_28 : decode prog_1_method_34_code 28 = .ok (.aload_n 0, 1) := by decide +kernel
theorem d_X_readItems_29 : decode prog_1_method_34_code 29 = .ok (.getfield 21, 3) := by decide +kernel
theorem d_X_readItems_32 : decode prog_1_method_34_code 32 = .ok (.iload_n 3, 1) := by decide +kernel
theorem d_X_readItems_33 : decode prog_1_method_34_code 33 = .ok (.iaload, 1) := by decide +kernel
theorem d_X_readItems_34 : decode prog_1_method_34_code 34 = .ok (.laload, 1) := by decide +kernel
theorem d_X_readItems_35 : decode prog_1_method_34_code 35 = .ok (.lastore, 1) := by decide +kernel
theorem d_X_readItems_36 : decode prog_1_method_34_code 36 = .ok (.iinc 3 1, 3) := by decide +kernel
theorem d_X_readItems_39 : decode prog_1_method_34_code 39 = .ok (.goto (-31), 3) := by decide +kernel
theorem d_X_readItems_42 : decode prog_1_method_34_code 42 = .ok (.return_, 1) := by decide +kernel
theorem d_X_writeItems_0 : decode prog_1_method_35_code 0 = .ok (.aload_n 0, 1) := by decide +kernel
theorem d_X_writeItems_1 : decode prog_1_method_35_code 1 = .ok (.aload_n 1, 1) := by decide +kernel
theorem d_X_writeItems_2 : decode prog_1_method_35_code 2 = .ok (.aload_n 1, 1) := by decide +kernel
theorem d_X_writeItems_3 : decode prog_1_method_35_code 3 = .ok (.invokevirtual 144, 3) := by decide +kernel
theorem d_X_writeItems_6 : decode prog_1_method_35_code 6 = .ok (.iconst 0, 1) := by decide +kernel
theorem d_X_writeItems_7 : decode prog_1_method_35_code 7 = .ok (.istore_n 2, 1) := by decide +kernel
theorem d_X_writeItems_8 : decode prog_1_method_35_code 8 = .ok (.iconst 0, 1) := by decide +kernel
theorem d_X_writeItems_9 : decode prog_1_method_35_code 9 = .ok (.istore_n 3, 1) := by decide +kernel
theorem d_X_writeItems_10 : decode prog_1_method_35_code 10 = .ok (.iload_n 3, 1) := by decide +kernel
theorem d_X_writeItems_11 : decode prog_1_method_35_code 11 = .ok (.aload_n 1, 1) := by decide +kernel
theorem d_X_writeItems_12 : decode prog_1_method_35_code 12 = .ok (.getfield 139, 3) := by decide +kernel
theorem d_X_writeItems_15 : decode prog_1_method_35_code 15 = .ok (.if_icmp .ge 63, 3) := by decide +kernel
theorem d_X_writeItems_18 : decode prog_1_method_35_code 18 = .ok (.aload_n 1, 1) := by decide +kernel
theorem d_X_writeItems_19 : decode prog_1_method_35_code 19 = .ok (.getfield 129, 3) := by decide +kernel
theorem d_X_writeItems_22 : decode prog_1_method_35_code 22 = .ok (.aload_n 0, 1) := by decide +kernel
theorem d_X_writeItems_23 : decode prog_1_method_35_code 23 = .ok (.getfield 25, 3) := by decide +kernel
theorem d_X_writeItems_26 : decode prog_1_method_35_code 26 = .ok (.iload_n 3, 1) := by decide +kernel
theorem d_X_writeItems_27 : decode prog_1_method_35_code 27 = .ok (.laload, 1) := by decide +kernel
theorem d_X_writeItems_28 : decode prog_1_method_35_code 28 = .ok (.invokevirtual 186, 3) := by decide +kernel
theorem d_X_writeItems_31 : decode prog_1_method_35_code 31 = .ok (.lstore 4, 2) := by decide +kernel
theorem d_X_writeItems_33 : decode prog_1_method_35_code 33 = .ok (.aload_n 1, 1) := by decide +kernel
theorem d_X_writeItems_34 : decode prog_1_method_35_code 34 = .ok (.getfield 129, 3) := by decide +kernel
theorem d_X_writeItems_37 : decode prog_1_method_35_code 37 = .ok (.getfield 176, 3) := by decide +kernel
theorem d_X_writeItems_40 : decode prog_1_method_35_code 40 = .ok (.aload_n 0, 1) := by decide +kernel
theorem d_X_writeItems_41 : decode prog_1_method_35_code 41 = .ok (.getfield 21, 3) := by decide +kernel
theorem d_X_writeItems_44 : decode prog_1_method_35_code 44 = .ok (.iload_n 3, 1) := by decide +kernel
theorem d_X_writeItems_45 : decode prog_1_method_35_code 45 = .ok (.iaload, 1) := by decide +kernel
theorem d_X_writeItems_46 : decode prog_1_method_35_code 46 = .ok (.laload, 1) := by decide +kernel
theorem d_X_writeItems_47 : decode prog_1_method_35_code 47 = .ok (.lload 4, 2) := by decide +kernel
theorem d_X_writeItems_49 : decode prog_1_method_35_code 49 = .ok (.lcmp, 1) := by decide +kernel
theorem d_X_writeItems_50 : decode prog_1_method_35_code 50 = .ok (.ifCond .eq 6, 3) := by decide +kernel
theorem d_X_writeItems_53 : decode prog_1_method_35_code 53 = .ok (.iinc 2 1, 3) := by decide +kernel
theorem d_X_writeItems_56 : decode prog_1_method_35_code 56 = .ok (.aload_n 1, 1) := by decide +kernel
theorem d_X_writeItems_57 : decode prog_1_method_35_code 57 = .ok (.getfield 129, 3) := by decide +kernel
theorem d_X_writeItems_60 : decode prog_1_method_35_code 60 = .ok (.getfield 176, 3) := by decide +kernel
theorem d_X_writeItems_63 : decode prog_1_method_35_code 63 = .ok (.aload_n 0, 1) := by decide +kernel
theorem d_X_writeItems_64 : decode prog_1_method_35_code 64 = .ok (.getfield 21, 3) := by decide +kernel
theorem d_X_writeItems_67 : decode prog_1_method_35_code 67 = .ok (.iload_n 3, 1) := by decide +kernel
theorem d_X_writeItems_68 : decode prog_1_method_35_code 68 = .ok (.iaload, 1) := by decide +kernel
theorem d_X_writeItems_69 : decode prog_1_method_35_code 69 = .ok (.lload 4, 2) := by decide +kernel
theorem d_X_writeItems_71 : decode prog_1_method_35_code 71 = .ok (.lastore, 1) := by decide +kernel
theorem d_X_writeItems_72 : decode prog_1_method_35_code 72 = .ok (.iinc 3 1, 3) := by decide +kernel
theorem d_X_writeItems_75 : decode prog_1_method_35_code 75 = .ok (.goto (-65), 3) := by decide +kernel
theorem d_X_writeItems_78 : decode prog_1_method_35_code 78 = .ok (.iload_n 2, 1) := by decide +kernel
theorem d_X_writeItems_79 : decode prog_1_method_35_code 79 = .ok (.ireturn, 1) := by decide +kernel
theorem d_X_at_0 : decode prog_1_method_10_code 0 = .ok (.aload_n 0, 1) := by decide +kernel
theorem d_X_at_1 : decode prog_1_method_10_code 1 = .ok (.iload_n 1, 1) := by decide +kernel
theorem d_X_at_2 : decode prog_1_method_10_code 2 = .ok (.invokevirtual 71, 3) := by decide +kernel
theorem d_X_at_5 : decode prog_1_method_10_code 5 = .ok (.astore_n 3, 1) := by decide +kernel
theorem d_X_at_6 : decode prog_1_method_10_code 6 = .ok (.aload_n 3, 1) := by decide +kernel
theorem d_X_at_7 : decode prog_1_method_10_code 7 = .ok (.iload_n 2, 1) := by decide +kernel
theorem d_X_at_8 : decode prog_1_method_10_code 8 = .ok (.invokestatic 173, 3) := by decide +kernel
theorem d_X_at_11 : decode prog_1_method_10_code 11 = .ok (.aload_n 3, 1) := by decide +kernel
theorem d_X_at_12 : decode prog_1_method_10_code 12 = .ok (.getfield 129, 3) := by decide +kernel
theorem d_X_at_15 : decode prog_1_method_10_code 15 = .ok (.getfield 176, 3) := by decide +kernel
theorem d_X_at_18 : decode prog_1_method_10_code 18 = .ok (.aload_n 3, 1) := by decide +kernel
theorem d_X_at_19 : decode prog_1_method_10_code 19 = .ok (.iload_n 2, 1) := by decide +kernel
theorem d_X_at_20 : decode prog_1_method_10_code 20 = .ok (.invokevirtual 179, 3) := by decide +kernel
theorem d_X_at_23 : decode prog_1_method_10_code 23 = .ok (.laload, 1) := by decide +kernel
theorem d_X_at_24 : decode prog_1_method_10_code 24 = .ok (.lreturn, 1) := by decide +kernel
theorem d_X_needItem_0 : decode prog_1_method_24_code 0 = .ok (.iload_n 1, 1) := by decide +kernel
theorem d_X_needItem_1 : decode prog_1_method_24_code 1 = .ok (.ifCond .lt 11, 3) := by decide +kernel
theorem d_X_needItem_4 : decode prog_1_method_24_code 4 = .ok (.iload_n 1, 1) := by decide +kernel
theorem d_X_needItem_5 : decode prog_1_method_24_code 5 = .ok (.aload_n 0, 1) := by decide +kernel
theorem d_X_needItem_6 : decode prog_1_method_24_code 6 = .ok (.getfield 139, 3) := by decide +kernel
theorem d_X_needItem_9 : decode prog_1_method_24_code 9 = .ok (.if_icmp .lt 13, 3) := by decide +kernel
theorem d_X_needItem_12 : decode prog_1_method_24_code 12 = .ok (.new 96, 3) := by decide +kernel
theorem d_X_needItem_15 : decode prog_1_method_24_code 15 = .ok (.dup, 1) := by decide +kernel
theorem d_X_needItem_16 : decode prog_1_method_24_code 16 = .ok (.ldc 248, 2) := by decide +kernel
theorem d_X_needItem_18 : decode prog_1_method_24_code 18 = .ok (.invokespecial 100, 3) := by decide +kernel
theorem d_X_needItem_21 : decode prog_1_method_24_code 21 = .ok (.athrow, 1) := by decide +kernel
theorem d_X_needItem_22 : decode prog_1_method_24_code 22 = .ok (.return_, 1) := by decide +kernel
theorem d_X_put_0 : decode prog_1_method_11_code 0 = .ok (.aload_n 0, 1) := by decide +kernel
theorem d_X_put_1 : decode prog_1_method_11_code 1 = .ok (.iload_n 1, 1) := by decide +kernel
theorem d_X_put_2 : decode prog_1_method_11_code 2 = .ok (.invokevirtual 71, 3) := by decide +kernel
theorem d_X_put_5 : decode prog_1_method_11_code 5 = .ok (.astore 5, 2) := by decide +kernel
theorem d_X_put_7 : decode prog_1_method_11_code 7 = .ok (.aload 5, 2) := by decide +kernel
theorem d_X_put_9 : decode prog_1_method_11_code 9 = .ok (.iload_n 2, 1) := by decide +kernel
theorem d_X_put_10 : decode prog_1_method_11_code 10 = .ok (.invokestatic 173, 3) := by decide +kernel
theorem d_X_put_13 : decode prog_1_method_11_code 13 = .ok (.aload 5, 2) := by decide +kernel
theorem d_X_put_15 : decode prog_1_method_11_code 15 = .ok (.invokestatic 183, 3) := by decide +kernel
theorem d_X_put_18 : decode prog_1_method_11_code 18 = .ok (.aload 5, 2) := by decide +kernel
theorem d_X_put_20 : decode prog_1_method_11_code 20 = .ok (.iload_n 2, 1) := by decide +kernel
theorem d_X_put_21 : decode prog_1_method_11_code 21 = .ok (.invokevirtual 179, 3) := by decide +kernel
theorem d_X_put_24 : decode prog_1_method_11_code 24 = .ok (.istore 6, 2) := by decide +kernel
theorem d_X_put_26 : decode prog_1_method_11_code 26 = .ok (.aload 5, 2) := by decide +kernel
theorem d_X_put_28 : decode prog_1_method_11_code 28 = .ok (.getfield 129, 3) := by decide +kernel
theorem d_X_put_31 : decode prog_1_method_11_code 31 = .ok (.getfield 176, 3) := by decide +kernel
theorem d_X_put_34 : decode prog_1_method_11_code 34 = .ok (.iload 6, 2) := by decide +kernel
theorem d_X_put_36 : decode prog_1_method_11_code 36 = .ok (.laload, 1) := by decide +kernel
theorem d_X_put_37 : decode prog_1_method_11_code 37 = .ok (.lstore 7, 2) := by decide +kernel
theorem d_X_put_39 : decode prog_1_method_11_code 39 = .ok (.aload 5, 2) := by decide +kernel
theorem d_X_put_41 : decode prog_1_method_11_code 41 = .ok (.getfield 129, 3) := by decide +kernel
theorem d_X_put_44 : decode prog_1_method_11_code 44 = .ok (.getfield 176, 3) := by decide +kernel
theorem d_X_put_47 : decode prog_1_method_11_code 47 = .ok (.iload 6, 2) := by decide +kernel
theorem d_X_put_49 : decode prog_1_method_11_code 49 = .ok (.aload 5, 2) := by decide +kernel
theorem d_X_put_51 : decode prog_1_method_11_code 51 = .ok (.getfield 129, 3) := by decide +kernel
theorem d_X_put_54 : decode prog_1_method_11_code 54 = .ok (.lload_n 3, 1) := by decide +kernel
theorem d_X_put_55 : decode prog_1_method_11_code 55 = .ok (.invokevirtual 186, 3) := by decide +kernel
theorem d_X_put_58 : decode prog_1_method_11_code 58 = .ok (.lastore, 1) := by decide +kernel
theorem d_X_put_59 : decode prog_1_method_11_code 59 = .ok (.lload 7, 2) := by decide +kernel
theorem d_X_put_61 : decode prog_1_method_11_code 61 = .ok (.lreturn, 1) := by decide +kernel
theorem d_X_needFree_0 : decode prog_1_method_28_code 0 = .ok (.aload_n 0, 1) := by decide +kernel
theorem d_X_needFree_1 : decode prog_1_method_28_code 1 = .ok (.invokevirtual 217, 3) := by decide +kernel
theorem d_X_needFree_4 : decode prog_1_method_28_code 4 = .ok (.ifCond .eq 14, 3) := by decide +kernel
theorem d_X_needFree_7 : decode prog_1_method_28_code 7 = .ok (.new 111, 3) := by decide +kernel
theorem d_X_needFree_10 : decode prog_1_method_28_code 10 = .ok (.dup, 1) := by decide +kernel
theorem d_X_needFree_11 : decode prog_1_method_28_code 11 = .ok (.ldc_w 261, 3) := by decide +kernel
theorem d_X_needFree_14 : decode prog_1_method_28_code 14 = .ok (.invokespecial 115, 3) := by decide +kernel
theorem d_X_needFree_17 : decode prog_1_method_28_code 17 = .ok (.athrow, 1) := by decide +kernel
theorem d_X_needFree_18 : decode prog_1_method_28_code 18 = .ok (.return_, 1) := by decide +kernel
theorem d_X_copy_0 : decode prog_1_method_12_code 0 = .ok (.aload_n 0, 1) := by decide +kernel
theorem d_X_copy_1 : decode prog_1_method_12_code 1 = .ok (.iload_n 1, 1) := by decide +kernel
theorem d_X_copy_2 : decode prog_1_method_12_code 2 = .ok (.invokevirtual 71, 3) := by decide +kernel
theorem d_X_copy_5 : decode prog_1_method_12_code 5 = .ok (.astore_n 3, 1) := by decide +kernel
theorem d_X_copy_6 : decode prog_1_method_12_code 6 = .ok (.aload_n 0, 1) := by decide +kernel
theorem d_X_copy_7 : decode prog_1_method_12_code 7 = .ok (.iload_n 2, 1) := by decide +kernel
theorem d_X_copy_8 : decode prog_1_method_12_code 8 = .ok (.invokevirtual 71, 3) := by decide +kernel
theorem d_X_copy_11 : decode prog_1_method_12_code 11 = .ok (.astore 4, 2) := by decide +kernel
theorem d_X_copy_13 : decode prog_1_method_12_code 13 = .ok (.aload_n 3, 1) := by decide +kernel
theorem d_X_copy_14 : decode prog_1_method_12_code 14 = .ok (.aload 4, 2) := by decide +kernel
theorem d_X_copy_16 : decode prog_1_method_12_code 16 = .ok (.invokestatic 190, 3) := by decide +kernel
theorem d_X_copy_19 : decode prog_1_method_12_code 19 = .ok (.aload 4, 2) := by decide +kernel
theorem d_X_copy_21 : decode prog_1_method_12_code 21 = .ok (.invokestatic 183, 3) := by decide +kernel
theorem d_X_copy_24 : decode prog_1_method_12_code 24 = .ok (.aload_n 0, 1) := by decide +kernel
theorem d_X_copy_25 : decode prog_1_method_12_code 25 = .ok (.aload_n 3, 1) := by decide +kernel
theorem d_X_copy_26 : decode prog_1_method_12_code 26 = .ok (.aload 4, 2) := by decide +kernel
theorem d_X_copy_28 : decode prog_1_method_12_code 28 = .ok (.invokevirtual 167, 3) := by decide +kernel
theorem d_X_copy_31 : decode prog_1_method_12_code 31 = .ok (.aload_n 0, 1) := by decide +kernel
theorem d_X_copy_32 : decode prog_1_method_12_code 32 = .ok (.aload 4, 2) := by decide +kernel
theorem d_X_copy_34 : decode prog_1_method_12_code 34 = .ok (.invokevirtual 170, 3) := by decide +kernel
theorem d_X_copy_37 : decode prog_1_method_12_code 37 = .ok (.ireturn, 1) := by decide +kernel
theorem d_X_needGoing_0 : decode prog_1_method_27_code 0 = .ok (.aload_n 0, 1) := by decide +kernel
theorem d_X_needGoing_1 : decode prog_1_method_27_code 1 = .ok (.aload_n 1, 1) := by decide +kernel
theorem d_X_needGoing_2 : decode prog_1_method_27_code 2 = .ok (.invokevirtual 256, 3) := by decide +kernel
theorem d_X_needGoing_5 : decode prog_1_method_27_code 5 = .ok (.ifCond .ne 14, 3) := by decide +kernel
theorem d_X_needGoing_8 : decode prog_1_method_27_code 8 = .ok (.new 44, 3) := by decide +kernel
theorem d_X_needGoing_11 : decode prog_1_method_27_code 11 = .ok (.dup, 1) := by decide +kernel
theorem d_X_needGoing_12 : decode prog_1_method_27_code 12 = .ok (.ldc_w 259, 3) := by decide +kernel
theorem d_X_needGoing_15 : decode prog_1_method_27_code 15 = .ok (.invokespecial 48, 3) := by decide +kernel
theorem d_X_needGoing_18 : decode prog_1_method_27_code 18 = .ok (.athrow, 1) := by decide +kernel
theorem d_X_needGoing_19 : decode prog_1_method_27_code 19 = .ok (.return_, 1) := by decide +kernel
theorem d_X_act_0 : decode prog_1_method_13_code 0 = .ok (.aload_n 0, 1) := by decide +kernel
theorem d_X_act_1 : decode prog_1_method_13_code 1 = .ok (.iload_n 2, 1) := by decide +kernel
theorem d_X_act_2 : decode prog_1_method_13_code 2 = .ok (.invokevirtual 71, 3) := by decide +kernel
theorem d_X_act_5 : decode prog_1_method_13_code 5 = .ok (.astore 5, 2) := by decide +kernel
theorem d_X_act_7 : decode prog_1_method_13_code 7 = .ok (.aload_n 0, 1) := by decide +kernel
theorem d_X_act_8 : decode prog_1_method_13_code 8 = .ok (.iload_n 3, 1) := by decide +kernel
theorem d_X_act_9 : decode prog_1_method_13_code 9 = .ok (.invokevirtual 71, 3) := by decide +kernel
theorem d_X_act_12 : decode prog_1_method_13_code 12 = .ok (.astore 6, 2) := by decide +kernel
theorem d_X_act_14 : decode prog_1_method_13_code 14 = .ok (.aload_n 0, 1) := by decide +kernel
theorem d_X_act_15 : decode prog_1_method_13_code 15 = .ok (.iload 4, 2) := by decide +kernel
theorem d_X_act_17 : decode prog_1_method_13_code 17 = .ok (.invokevirtual 71, 3) := by decide +kernel
theorem d_X_act_20 : decode prog_1_method_13_code 20 = .ok (.astore 7, 2) := by decide +kernel
theorem d_X_act_22 : decode prog_1_method_13_code 22 = .ok (.iload_n 1, 1) := by decide +kernel
theorem d_X_act_23 : decode prog_1_method_13_code 23 = .ok (.ifCond .lt 8, 3) := by decide +kernel
theorem d_X_act_26 : decode prog_1_method_13_code 26 = .ok (.iload_n 1, 1) := by decide +kernel
theorem d_X_act_27 : decode prog_1_method_13_code 27 = .ok (.iconst 4, 1) := by decide +kernel
theorem d_X_act_28 : decode prog_1_method_13_code 28 = .ok (.if_icmp .le 13, 3) := by decide +kernel
theorem d_X_act_31 : decode prog_1_method_13_code 31 = .ok (.new 44, 3) := by decide +kernel
theorem d_X_act_34 : decode prog_1_method_13_code 34 = .ok (.dup, 1) := by decide +kernel
theorem d_X_act_35 : decode prog_1_method_13_code 35 = .ok (.ldc 193, 2) := by decide +kernel
theorem d_X_act_37 : decode prog_1_method_13_code 37 = .ok (.invokespecial 48, 3) := by decide +kernel
theorem d_X_act_40 : decode prog_1_method_13_code 40 = .ok (.athrow, 1) := by decide +kernel
theorem d_X_act_41 : decode prog_1_method_13_code 41 = .ok (.aload 5, 2) := by decide +kernel
theorem d_X_act_43 : decode prog_1_method_13_code 43 = .ok (.aload 7, 2) := by decide +kernel
theorem d_X_act_45 : decode prog_1_method_13_code 45 = .ok (.invokestatic 190, 3) := by decide +kernel
theorem d_X_act_48 : decode prog_1_method_13_code 48 = .ok (.aload 6, 2) := by decide +kernel
theorem d_X_act_50 : decode prog_1_method_13_code 50 = .ok (.aload 7, 2) := by decide +kernel
theorem d_X_act_52 : decode prog_1_method_13_code 52 = .ok (.invokestatic 190, 3) := by decide +kernel
theorem d_X_act_55 : decode prog_1_method_13_code 55 = .ok (.aload 7, 2) := by decide +kernel
theorem d_X_act_57 : decode prog_1_method_13_code 57 = .ok (.invokestatic 183, 3) := by decide +kernel
theorem d_X_act_60 : decode prog_1_method_13_code 60 = .ok (.aload_n 0, 1) := by decide +kernel
theorem d_X_act_61 : decode prog_1_method_13_code 61 = .ok (.aload 5, 2) := by decide +kernel
theorem d_X_act_63 : decode prog_1_method_13_code 63 = .ok (.aload 7, 2) := by decide +kernel
theorem d_X_act_65 : decode prog_1_method_13_code 65 = .ok (.invokevirtual 167, 3) := by decide +kernel
theorem d_X_act_68 : decode prog_1_method_13_code 68 = .ok (.aload_n 0, 1) := by decide +kernel
theorem d_X_act_69 : decode prog_1_method_13_code 69 = .ok (.aload 6, 2) := by decide +kernel
theorem d_X_act_71 : decode prog_1_method_13_code 71 = .ok (.aload 7, 2) := by decide +kernel
theorem d_X_act_73 : decode prog_1_method_13_code 73 = .ok (.invokevirtual 144, 3) := by decide +kernel
theorem d_X_act_76 : decode prog_1_method_13_code 76 = .ok (.iconst 0, 1) := by decide +kernel
theorem d_X_act_77 : decode prog_1_method_13_code 77 = .ok (.istore 8, 2) := by decide +kernel
theorem d_X_act_79 : decode prog_1_method_13_code 79 = .ok (.iload 8, 2) := by decide +kernel
theorem d_X_act_81 : decode prog_1_method_13_code 81 = .ok (.aload 7, 2) := by decide +kernel
theorem d_X_act_83 : decode prog_1_method_13_code 83 = .ok (.getfield 139, 3) := by decide +kernel
theorem d_X_act_86 : decode prog_1_method_13_code 86 = .ok (.if_icmp .ge 43, 3) := by decide +kernel
theorem d_X_act_89 : decode prog_1_method_13_code 89 = .ok (.aload_n 0, 1) := by decide +kernel
theorem d_X_act_90 : decode prog_1_method_13_code 90 = .ok (.getfield 25, 3) := by decide +kernel
theorem d_X_act_93 : decode prog_1_method_13_code 93 = .ok (.iload 8, 2) := by decide +kernel
theorem d_X_act_95 : decode prog_1_method_13_code 95 = .ok (.iload_n 1, 1) := by decide +kernel
theorem d_X_act_96 : decode prog_1_method_13_code 96 = .ok (.aload_n 0, 1) := by decide +kernel
theorem d_X_act_97 : decode prog_1_method_13_code 97 = .ok (.getfield 25, 3) := by decide +kernel
theorem d_X_act_100 : decode prog_1_method_13_code 100 = .ok (.iload 8, 2) := by decide +kernel
theorem d_X_act_102 : decode prog_1_method_13_code 102 = .ok (.laload, 1) := by decide +kernel
theorem d_X_act_103 : decode prog_1_method_13_code 103 = .ok (.aload 6, 2) := by decide +kernel
theorem d_X_act_105 : decode prog_1_method_13_code 105 = .ok (.getfield 129, 3) := by decide +kernel
theorem d_X_act_108 : decode prog_1_method_13_code 108 = .ok (.getfield 176, 3) := by decide +kernel
theorem d_X_act_111 : decode prog_1_method_13_code 111 = .ok (.aload_n 0, 1) := by decide +kernel
theorem d_X_act_112 : decode prog_1_method_13_code 112 = .ok (.getfield 21, 3) := by decide +kernel
theorem d_X_act_115 : decode prog_1_method_13_code 115 = .ok (.iload 8, 2) := by decide +kernel
theorem d_X_act_117 : decode prog_1_method_13_code 117 = .ok (.iaload, 1) := by decide +kernel
theorem d_X_act_118 : decode prog_1_method_13_code 118 = .ok (.laload, 1) := by decide +kernel
theorem d_X_act_119 : decode prog_1_method_13_code 119 = .ok (.invokestatic 195, 3) := by decide +kernel
theorem d_X_act_122 : decode prog_1_method_13_code 122 = .ok (.lastore, 1) := by decide +kernel
theorem d_X_act_123 : decode prog_1_method_13_code 123 = .ok (.iinc 8 1, 3) := by decide +kernel
theorem d_X_act_126 : decode prog_1_method_13_code 126 = .ok (.goto (-47), 3) := by decide +kernel
theorem d_X_act_129 : decode prog_1_method_13_code 129 = .ok (.aload_n 0, 1) := by decide +kernel
theorem d_X_act_130 : decode prog_1_method_13_code 130 = .ok (.aload 7, 2) := by decide +kernel
theorem d_X_act_132 : decode prog_1_method_13_code 132 = .ok (.invokevirtual 170, 3) := by decide +kernel
theorem d_X_act_135 : decode prog_1_method_13_code 135 = .ok (.ireturn, 1) := by decide +kernel
theorem d_X_reckon_0 : decode prog_1_method_40_code 0 = .ok (.iload_n 0, 1) := by decide +kernel
theorem d_X_reckon_1 : decode prog_1_method_40_code 1 = .ok (.tableswitch 49 0 3 #[31, 35, 39, 43], 31) := by decide +kernel
theorem d_X_reckon_32 : decode prog_1_method_40_code 32 = .ok (.lload_n 1, 1) := by decide +kernel
theorem d_X_reckon_33 : decode prog_1_method_40_code 33 = .ok (.lload_n 3, 1) := by decide +kernel
theorem d_X_reckon_34 : decode prog_1_method_40_code 34 = .ok (.ladd, 1) := by decide +kernel
theorem d_X_reckon_35 : decode prog_1_method_40_code 35 = .ok (.lreturn, 1) := by decide +kernel
theorem d_X_reckon_36 : decode prog_1_method_40_code 36 = .ok (.lload_n 1, 1) := by decide +kernel
theorem d_X_reckon_37 : decode prog_1_method_40_code 37 = .ok (.lload_n 3, 1) := by decide +kernel
theorem d_X_reckon_38 : decode prog_1_method_40_code 38 = .ok (.lsub, 1) := by decide +kernel
theorem d_X_reckon_39 : decode prog_1_method_40_code 39 = .ok (.lreturn, 1) := by decide +kernel
theorem d_X_reckon_40 : decode prog_1_method_40_code 40 = .ok (.lload_n 1, 1) := by decide +kernel
theorem d_X_reckon_41 : decode prog_1_method_40_code 41 = .ok (.lload_n 3, 1) := by decide +kernel
theorem d_X_reckon_42 : decode prog_1_method_40_code 42 = .ok (.lmul, 1) := by decide +kernel
theorem d_X_reckon_43 : decode prog_1_method_40_code 43 = .ok (.lreturn, 1) := by decide +kernel
theorem d_X_reckon_44 : decode prog_1_method_40_code 44 = .ok (.lload_n 1, 1) := by decide +kernel
theorem d_X_reckon_45 : decode prog_1_method_40_code 45 = .ok (.lload_n 3, 1) := by decide +kernel
theorem d_X_reckon_46 : decode prog_1_method_40_code 46 = .ok (.invokestatic 273, 3) := by decide +kernel
theorem d_X_reckon_49 : decode prog_1_method_40_code 49 = .ok (.lreturn, 1) := by decide +kernel
theorem d_X_reckon_50 : decode prog_1_method_40_code 50 = .ok (.lload_n 1, 1) := by decide +kernel
theorem d_X_reckon_51 : decode prog_1_method_40_code 51 = .ok (.lload_n 3, 1) := by decide +kernel
theorem d_X_reckon_52 : decode prog_1_method_40_code 52 = .ok (.invokestatic 276, 3) := by decide +kernel
theorem d_X_reckon_55 : decode prog_1_method_40_code 55 = .ok (.lreturn, 1) := by decide +kernel
theorem d_X_fold_0 : decode prog_1_method_14_code 0 = .ok (.aload_n 0, 1) := by decide +kernel
theorem d_X_fold_1 : decode prog_1_method_14_code 1 = .ok (.iload_n 2, 1) := by decide +kernel
theorem d_X_fold_2 : decode prog_1_method_14_code 2 = .ok (.invokevirtual 71, 3) := by decide +kernel
theorem d_X_fold_5 : decode prog_1_method_14_code 5 = .ok (.astore 4, 2) := by decide +kernel
theorem d_X_fold_7 : decode prog_1_method_14_code 7 = .ok (.aload 4, 2) := by decide +kernel
theorem d_X_fold_9 : decode prog_1_method_14_code 9 = .ok (.iload_n 3, 1) := by decide +kernel
theorem d_X_fold_10 : decode prog_1_method_14_code 10 = .ok (.invokestatic 75, 3) := by decide +kernel
theorem d_X_fold_13 : decode prog_1_method_14_code 13 = .ok (.iload_n 1, 1) := by decide +kernel
theorem d_X_fold_14 : decode prog_1_method_14_code 14 = .ok (.ifCond .lt 13, 3) := by decide +kernel
theorem d_X_fold_17 : decode prog_1_method_14_code 17 = .ok (.iload_n 1, 1) := by decide +kernel
theorem d_X_fold_18 : decode prog_1_method_14_code 18 = .ok (.iconst 4, 1) := by decide +kernel
theorem d_X_fold_19 : decode prog_1_method_14_code 19 = .ok (.if_icmp .gt 8, 3) := by decide +kernel
theorem d_X_fold_22 : decode prog_1_method_14_code 22 = .ok (.iload_n 1, 1) := by decide +kernel
theorem d_X_fold_23 : decode prog_1_method_14_code 23 = .ok (.iconst 1, 1) := by decide +kernel
theorem d_X_fold_24 : decode prog_1_method_14_code 24 = .ok (.if_icmp .ne 13, 3) := by decide +kernel
theorem d_X_fold_27 : decode prog_1_method_14_code 27 = .ok (.new 44, 3) := by decide +kernel
theorem d_X_fold_30 : decode prog_1_method_14_code 30 = .ok (.dup, 1) := by decide +kernel
theorem d_X_fold_31 : decode prog_1_method_14_code 31 = .ok (.ldc 199, 2) := by decide +kernel
theorem d_X_fold_33 : decode prog_1_method_14_code 33 = .ok (.invokespecial 48, 3) := by decide +kernel
theorem d_X_fold_36 : decode prog_1_method_14_code 36 = .ok (.athrow, 1) := by decide +kernel
theorem d_X_fold_37 : decode prog_1_method_14_code 37 = .ok (.aload 4, 2) := by decide +kernel
theorem d_X_fold_39 : decode prog_1_method_14_code 39 = .ok (.iload_n 3, 1) := by decide +kernel
theorem d_X_fold_40 : decode prog_1_method_14_code 40 = .ok (.invokevirtual 201, 3) := by decide +kernel
theorem d_X_fold_43 : decode prog_1_method_14_code 43 = .ok (.istore 5, 2) := by decide +kernel
theorem d_X_fold_45 : decode prog_1_method_14_code 45 = .ok (.iload 5, 2) := by decide +kernel
theorem d_X_fold_47 : decode prog_1_method_14_code 47 = .ok (.invokestatic 158, 3) := by decide +kernel
theorem d_X_fold_50 : decode prog_1_method_14_code 50 = .ok (.aload_n 0, 1) := by decide +kernel
theorem d_X_fold_51 : decode prog_1_method_14_code 51 = .ok (.invokevirtual 51, 3) := by decide +kernel
theorem d_X_fold_54 : decode prog_1_method_14_code 54 = .ok (.new 9, 3) := by decide +kernel
theorem d_X_fold_57 : decode prog_1_method_14_code 57 = .ok (.dup, 1) := by decide +kernel
theorem d_X_fold_58 : decode prog_1_method_14_code 58 = .ok (.aload_n 0, 1) := by decide +kernel
theorem d_X_fold_59 : decode prog_1_method_14_code 59 = .ok (.getfield 33, 3) := by decide +kernel
theorem d_X_fold_62 : decode prog_1_method_14_code 62 = .ok (.iconst 3, 1) := by decide +kernel
theorem d_X_fold_63 : decode prog_1_method_14_code 63 = .ok (.iload 5, 2) := by decide +kernel
theorem d_X_fold_65 : decode prog_1_method_14_code 65 = .ok (.invokespecial 54, 3) := by decide +kernel
theorem d_X_fold_68 : decode prog_1_method_14_code 68 = .ok (.astore 6, 2) := by decide +kernel
theorem d_X_fold_70 : decode prog_1_method_14_code 70 = .ok (.new 15, 3) := by decide +kernel
theorem d_X_fold_73 : decode prog_1_method_14_code 73 = .ok (.dup, 1) := by decide +kernel
theorem d_X_fold_74 : decode prog_1_method_14_code 74 = .ok (.aload 6, 2) := by decide +kernel
theorem d_X_fold_76 : decode prog_1_method_14_code 76 = .ok (.iconst 0, 1) := by decide +kernel
theorem d_X_fold_77 : decode prog_1_method_14_code 77 = .ok (.invokespecial 57, 3) := by decide +kernel
theorem d_X_fold_80 : decode prog_1_method_14_code 80 = .ok (.astore 7, 2) := by decide +kernel
theorem d_X_fold_82 : decode prog_1_method_14_code 82 = .ok (.aload 7, 2) := by decide +kernel
theorem d_X_fold_84 : decode prog_1_method_14_code 84 = .ok (.aload 4, 2) := by decide +kernel
theorem d_X_fold_86 : decode prog_1_method_14_code 86 = .ok (.iload_n 3, 1) := by decide +kernel
theorem d_X_fold_87 : decode prog_1_method_14_code 87 = .ok (.invokevirtual 161, 3) := by decide +kernel
theorem d_X_fold_90 : decode prog_1_method_14_code 90 = .ok (.aload 7, 2) := by decide +kernel
theorem d_X_fold_92 : decode prog_1_method_14_code 92 = .ok (.invokevirtual 164, 3) := by decide +kernel
theorem d_X_fold_95 : decode prog_1_method_14_code 95 = .ok (.aload_n 0, 1) := by decide +kernel
theorem d_X_fold_96 : decode prog_1_method_14_code 96 = .ok (.aload 6, 2) := by decide +kernel
theorem d_X_fold_98 : decode prog_1_method_14_code 98 = .ok (.iload_n 1, 1) := by decide +kernel
theorem d_X_fold_99 : decode prog_1_method_14_code 99 = .ok (.aload 4, 2) := by decide +kernel
theorem d_X_fold_101 : decode prog_1_method_14_code 101 = .ok (.aload 7, 2) := by decide +kernel
theorem d_X_fold_103 : decode prog_1_method_14_code 103 = .ok (.iload_n 3, 1) := by decide +kernel
theorem d_X_fold_104 : decode prog_1_method_14_code 104 = .ok (.invokevirtual 204, 3) := by decide +kernel
theorem d_X_fold_107 : decode prog_1_method_14_code 107 = .ok (.aload_n 0, 1) := by decide +kernel
theorem d_X_fold_108 : decode prog_1_method_14_code 108 = .ok (.aload 6, 2) := by decide +kernel
theorem d_X_fold_110 : decode prog_1_method_14_code 110 = .ok (.invokevirtual 63, 3) := by decide +kernel
theorem d_X_fold_113 : decode prog_1_method_14_code 113 = .ok (.aload_n 0, 1) := by decide +kernel
theorem d_X_fold_114 : decode prog_1_method_14_code 114 = .ok (.aload 7, 2) := by decide +kernel
theorem d_X_fold_116 : decode prog_1_method_14_code 116 = .ok (.invokevirtual 67, 3) := by decide +kernel
theorem d_X_fold_119 : decode prog_1_method_14_code 119 = .ok (.ireturn, 1) := by decide +kernel
theorem d_X_foldInto_0 : decode prog_1_method_38_code 0 = .ok (.iconst 0, 1) := by decide +kernel
theorem d_X_foldInto_1 : decode prog_1_method_38_code 1 = .ok (.istore 6, 2) := by decide +kernel
theorem d_X_foldInto_3 : decode prog_1_method_38_code 3 = .ok (.iload 6, 2) := by decide +kernel
theorem d_X_foldInto_5 : decode prog_1_method_38_code 5 = .ok (.aload_n 1, 1) := by decide +kernel
theorem d_X_foldInto_6 : decode prog_1_method_38_code 6 = .ok (.getfield 176, 3) := by decide +kernel
theorem d_X_foldInto_9 : decode prog_1_method_38_code 9 = .ok (.arraylength, 1) := by decide +kernel
theorem d_X_foldInto_10 : decode prog_1_method_38_code 10 = .ok (.if_icmp .ge 20, 3) := by decide +kernel
theorem d_X_foldInto_13 : decode prog_1_method_38_code 13 = .ok (.aload_n 1, 1) := by decide +kernel
theorem d_X_foldInto_14 : decode prog_1_method_38_code 14 = .ok (.getfield 176, 3) := by decide +kernel
theorem d_X_foldInto_17 : decode prog_1_method_38_code 17 = .ok (.iload 6, 2) := by decide +kernel
theorem d_X_foldInto_19 : decode prog_1_method_38_code 19 = .ok (.iload_n 2, 1) := by decide +kernel
theorem d_X_foldInto_20 : decode prog_1_method_38_code 20 = .ok (.invokestatic 269, 3) := by decide +kernel
theorem d_X_foldInto_23 : decode prog_1_method_38_code 23 = .ok (.lastore, 1) := by decide +kernel
theorem d_X_foldInto_24 : decode prog_1_method_38_code 24 = .ok (.iinc 6 1, 3) := by decide +kernel
theorem d_X_foldInto_27 : decode prog_1_method_38_code 27 = .ok (.goto (-24), 3) := by decide +kernel
theorem d_X_foldInto_30 : decode prog_1_method_38_code 30 = .ok (.aload_n 0, 1) := by decide +kernel
theorem d_X_foldInto_31 : decode prog_1_method_38_code 31 = .ok (.aload_n 3, 1) := by decide +kernel
theorem d_X_foldInto_32 : decode prog_1_method_38_code 32 = .ok (.aload_n 3, 1) := by decide +kernel
theorem d_X_foldInto_33 : decode prog_1_method_38_code 33 = .ok (.invokevirtual 167, 3) := by decide +kernel
theorem d_X_foldInto_36 : decode prog_1_method_38_code 36 = .ok (.aload 4, 2) := by decide +kernel
theorem d_X_foldInto_38 : decode prog_1_method_38_code 38 = .ok (.invokevirtual 86, 3) := by decide +kernel
theorem d_X_foldInto_41 : decode prog_1_method_38_code 41 = .ok (.astore 6, 2) := by decide +kernel
theorem d_X_foldInto_43 : decode prog_1_method_38_code 43 = .ok (.aload 6, 2) := by decide +kernel
theorem d_X_foldInto_45 : decode prog_1_method_38_code 45 = .ok (.iload 5, 2) := by decide +kernel
theorem d_X_foldInto_47 : decode prog_1_method_38_code 47 = .ok (.aload_n 3, 1) := by decide +kernel
theorem d_X_foldInto_48 : decode prog_1_method_38_code 48 = .ok (.getfield 79, 3) := by decide +kernel
theorem d_X_foldInto_51 : decode prog_1_method_38_code 51 = .ok (.iload 5, 2) := by decide +kernel
theorem d_X_foldInto_53 : decode prog_1_method_38_code 53 = .ok (.iaload, 1) := by decide +kernel
theorem d_X_foldInto_54 : decode prog_1_method_38_code 54 = .ok (.iconst 0, 1) := by decide +kernel
theorem d_X_foldInto_55 : decode prog_1_method_38_code 55 = .ok (.invokevirtual 60, 3) := by decide +kernel
theorem d_X_foldInto_58 : decode prog_1_method_38_code 58 = .ok (.aload 6, 2) := by decide +kernel
theorem d_X_foldInto_60 : decode prog_1_method_38_code 60 = .ok (.invokevirtual 136, 3) := by decide +kernel
theorem d_X_foldInto_63 : decode prog_1_method_38_code 63 = .ok (.aload_n 0, 1) := by decide +kernel
theorem d_X_foldInto_64 : decode prog_1_method_38_code 64 = .ok (.aload 6, 2) := by decide +kernel
theorem d_X_foldInto_66 : decode prog_1_method_38_code 66 = .ok (.aload 6, 2) := by decide +kernel
theorem d_X_foldInto_68 : decode prog_1_method_38_code 68 = .ok (.invokevirtual 144, 3) := by decide +kernel
theorem d_X_foldInto_71 : decode prog_1_method_38_code 71 = .ok (.iconst 0, 1) := by decide +kernel
theorem d_X_foldInto_72 : decode prog_1_method_38_code 72 = .ok (.istore 7, 2) := by decide +kernel
theorem d_X_foldInto_74 : decode prog_1_method_38_code 74 = .ok (.iload 7, 2) := by decide +kernel
theorem d_X_foldInto_76 : decode prog_1_method_38_code 76 = .ok (.aload 6, 2) := by decide +kernel
theorem d_X_foldInto_78 : decode prog_1_method_38_code 78 = .ok (.getfield 139, 3) := by decide +kernel
theorem d_X_foldInto_81 : decode prog_1_method_38_code 81 = .ok (.if_icmp .ge 44, 3) := by decide +kernel
theorem d_X_foldInto_84 : decode prog_1_method_38_code 84 = .ok (.aload_n 1, 1) := by decide +kernel
theorem d_X_foldInto_85 : decode prog_1_method_38_code 85 = .ok (.getfield 176, 3) := by decide +kernel
theorem d_X_foldInto_88 : decode prog_1_method_38_code 88 = .ok (.aload_n 0, 1) := by decide +kernel
theorem d_X_foldInto_89 : decode prog_1_method_38_code 89 = .ok (.getfield 21, 3) := by decide +kernel
theorem d_X_foldInto_92 : decode prog_1_method_38_code 92 = .ok (.iload 7, 2) := by decide +kernel
theorem d_X_foldInto_94 : decode prog_1_method_38_code 94 = .ok (.iaload, 1) := by decide +kernel
theorem d_X_foldInto_95 : decode prog_1_method_38_code 95 = .ok (.iload_n 2, 1) := by decide +kernel
theorem d_X_foldInto_96 : decode prog_1_method_38_code 96 = .ok (.aload_n 1, 1) := by decide +kernel
theorem d_X_foldInto_97 : decode prog_1_method_38_code 97 = .ok (.getfield 176, 3) := by decide +kernel
theorem d_X_foldInto_100 : decode prog_1_method_38_code 100 = .ok (.aload_n 0, 1) := by decide +kernel
theorem d_X_foldInto_101 : decode prog_1_method_38_code 101 = .ok (.getfield 21, 3) := by decide +kernel
theorem d_X_foldInto_104 : decode prog_1_method_38_code 104 = .ok (.iload 7, 2) := by decide +kernel
theorem d_X_foldInto_106 : decode prog_1_method_38_code 106 = .ok (.iaload, 1) := by decide +kernel
theorem d_X_foldInto_107 : decode prog_1_method_38_code 107 = .ok (.laload, 1) := by decide +kernel
theorem d_X_foldInto_108 : decode prog_1_method_38_code 108 = .ok (.aload_n 0, 1) := by decide +kernel
theorem d_X_foldInto_109 : decode prog_1_method_38_code 109 = .ok (.getfield 25, 3) := by decide +kernel
theorem d_X_foldInto_112 : decode prog_1_method_38_code 112 = .ok (.iload 7, 2) := by decide +kernel
theorem d_X_foldInto_114 : decode prog_1_method_38_code 114 = .ok (.laload, 1) := by decide +kernel
theorem d_X_foldInto_115 : decode prog_1_method_38_code 115 = .ok (.invokestatic 195, 3) := by decide +kernel
theorem d_X_foldInto_118 : decode prog_1_method_38_code 118 = .ok (.lastore, 1) := by decide +kernel
theorem d_X_foldInto_119 : decode prog_1_method_38_code 119 = .ok (.iinc 7 1, 3) := by decide +kernel
theorem d_X_foldInto_122 : decode prog_1_method_38_code 122 = .ok (.goto (-48), 3) := by decide +kernel
theorem d_X_foldInto_125 : decode prog_1_method_38_code 125 = .ok (.return_, 1) := by decide +kernel
theorem d_X_neutral_0 : decode prog_1_method_41_code 0 = .ok (.iload_n 0, 1) := by decide +kernel
theorem d_X_neutral_1 : decode prog_1_method_41_code 1 = .ok (.tableswitch 37 2 4 #[27, 29, 33], 27) := by decide +kernel
theorem d_X_neutral_28 : decode prog_1_method_41_code 28 = .ok (.lconst 1, 1) := by decide +kernel
theorem d_X_neutral_29 : decode prog_1_method_41_code 29 = .ok (.lreturn, 1) := by decide +kernel
theorem d_X_neutral_30 : decode prog_1_method_41_code 30 = .ok (.ldc2_w 280, 3) := by decide +kernel
theorem d_X_neutral_33 : decode prog_1_method_41_code 33 = .ok (.lreturn, 1) := by decide +kernel
theorem d_X_neutral_34 : decode prog_1_method_41_code 34 = .ok (.ldc2_w 282, 3) := by decide +kernel
theorem d_X_neutral_37 : decode prog_1_method_41_code 37 = .ok (.lreturn, 1) := by decide +kernel
theorem d_X_neutral_38 : decode prog_1_method_41_code 38 = .ok (.lconst 0, 1) := by decide +kernel
theorem d_X_neutral_39 : decode prog_1_method_41_code 39 = .ok (.lreturn, 1) := by decide +kernel
theorem d_X_shared_0 : decode prog_1_method_15_code 0 = .ok (.aload_n 0, 1) := by decide +kernel
theorem d_X_shared_1 : decode prog_1_method_15_code 1 = .ok (.iload_n 1, 1) := by decide +kernel
theorem d_X_shared_2 : decode prog_1_method_15_code 2 = .ok (.invokevirtual 71, 3) := by decide +kernel
theorem d_X_shared_5 : decode prog_1_method_15_code 5 = .ok (.astore_n 3, 1) := by decide +kernel
theorem d_X_shared_6 : decode prog_1_method_15_code 6 = .ok (.aload_n 0, 1) := by decide +kernel
theorem d_X_shared_7 : decode prog_1_method_15_code 7 = .ok (.iload_n 2, 1) := by decide +kernel
theorem d_X_shared_8 : decode prog_1_method_15_code 8 = .ok (.invokevirtual 71, 3) := by decide +kernel
theorem d_X_shared_11 : decode prog_1_method_15_code 11 = .ok (.astore 4, 2) := by decide +kernel
theorem d_X_shared_13 : decode prog_1_method_15_code 13 = .ok (.aload_n 3, 1) := by decide +kernel
theorem d_X_shared_14 : decode prog_1_method_15_code 14 = .ok (.getfield 129, 3) := by decide +kernel
theorem d_X_shared_17 : decode prog_1_method_15_code 17 = .ok (.aload 4, 2) := by decide +kernel
theorem d_X_shared_19 : decode prog_1_method_15_code 19 = .ok (.getfield 129, 3) := by decide +kernel
theorem d_X_shared_22 : decode prog_1_method_15_code 22 = .ok (.if_acmp .eq 5, 3) := by decide +kernel
theorem d_X_shared_25 : decode prog_1_method_15_code 25 = .ok (.iconst 0, 1) := by decide +kernel
theorem d_X_shared_26 : decode prog_1_method_15_code 26 = .ok (.ireturn, 1) := by decide +kernel
theorem d_X_shared_27 : decode prog_1_method_15_code 27 = .ok (.aload_n 0, 1) := by decide +kernel
theorem d_X_shared_28 : decode prog_1_method_15_code 28 = .ok (.invokevirtual 208, 3) := by decide +kernel
theorem d_X_shared_31 : decode prog_1_method_15_code 31 = .ok (.aload_n 0, 1) := by decide +kernel
theorem d_X_shared_32 : decode prog_1_method_15_code 32 = .ok (.aload_n 3, 1) := by decide +kernel
theorem d_X_shared_33 : decode prog_1_method_15_code 33 = .ok (.aload_n 3, 1) := by decide +kernel
theorem d_X_shared_34 : decode prog_1_method_15_code 34 = .ok (.invokevirtual 144, 3) := by decide +kernel
theorem d_X_shared_37 : decode prog_1_method_15_code 37 = .ok (.iconst 0, 1) := by decide +kernel
theorem d_X_shared_38 : decode prog_1_method_15_code 38 = .ok (.istore 5, 2) := by decide +kernel
theorem d_X_shared_40 : decode prog_1_method_15_code 40 = .ok (.iload 5, 2) := by decide +kernel
theorem d_X_shared_42 : decode prog_1_method_15_code 42 = .ok (.aload_n 3, 1) := by decide +kernel
theorem d_X_shared_43 : decode prog_1_method_15_code 43 = .ok (.getfield 139, 3) := by decide +kernel
theorem d_X_shared_46 : decode prog_1_method_15_code 46 = .ok (.if_icmp .ge 22, 3) := by decide +kernel
theorem d_X_shared_49 : decode prog_1_method_15_code 49 = .ok (.aload_n 0, 1) := by decide +kernel
theorem d_X_shared_50 : decode prog_1_method_15_code 50 = .ok (.getfield 29, 3) := by decide +kernel
theorem d_X_shared_53 : decode prog_1_method_15_code 53 = .ok (.aload_n 0, 1) := by decide +kernel
theorem d_X_shared_54 : decode prog_1_method_15_code 54 = .ok (.getfield 21, 3) := by decide +kernel
theorem d_X_shared_57 : decode prog_1_method_15_code 57 = .ok (.iload 5, 2) := by decide +kernel
theorem d_X_shared_59 : decode prog_1_method_15_code 59 = .ok (.iaload, 1) := by decide +kernel
theorem d_X_shared_60 : decode prog_1_method_15_code 60 = .ok (.iconst 1, 1) := by decide +kernel
theorem d_X_shared_61 : decode prog_1_method_15_code 61 = .ok (.bastore, 1) := by decide +kernel
theorem d_X_shared_62 : decode prog_1_method_15_code 62 = .ok (.iinc 5 1, 3) := by decide +kernel
theorem d_X_shared_65 : decode prog_1_method_15_code 65 = .ok (.goto (-25), 3) := by decide +kernel
theorem d_X_shared_68 : decode prog_1_method_15_code 68 = .ok (.aload_n 0, 1) := by decide +kernel
theorem d_X_shared_69 : decode prog_1_method_15_code 69 = .ok (.aload 4, 2) := by decide +kernel
theorem d_X_shared_71 : decode prog_1_method_15_code 71 = .ok (.aload 4, 2) := by decide +kernel
theorem d_X_shared_73 : decode prog_1_method_15_code 73 = .ok (.invokevirtual 144, 3) := by decide +kernel
theorem d_X_shared_76 : decode prog_1_method_15_code 76 = .ok (.iconst 0, 1) := by decide +kernel
theorem d_X_shared_77 : decode prog_1_method_15_code 77 = .ok (.istore 5, 2) := by decide +kernel
theorem d_X_shared_79 : decode prog_1_method_15_code 79 = .ok (.iconst 0, 1) := by decide +kernel
theorem d_X_shared_80 : decode prog_1_method_15_code 80 = .ok (.istore 6, 2) := by decide +kernel
theorem d_X_shared_82 : decode prog_1_method_15_code 82 = .ok (.iload 6, 2) := by decide +kernel
theorem d_X_shared_84 : decode prog_1_method_15_code 84 = .ok (.aload 4, 2) := by decide +kernel
theorem d_X_shared_86 : decode prog_1_method_15_code 86 = .ok (.getfield 139, 3) := by decide +kernel
theorem d_X_shared_89 : decode prog_1_method_15_code 89 = .ok (.if_icmp .ge 40, 3) := by decide +kernel
theorem d_X_shared_92 : decode prog_1_method_15_code 92 = .ok (.aload_n 0, 1) := by decide +kernel
theorem d_X_shared_93 : decode prog_1_method_15_code 93 = .ok (.getfield 29, 3) := by decide +kernel
theorem d_X_shared_96 : decode prog_1_method_15_code 96 = .ok (.aload_n 0, 1) := by decide +kernel
theorem d_X_shared_97 : decode prog_1_method_15_code 97 = .ok (.getfield 21, 3) := by decide +kernel
theorem d_X_shared_100 : decode prog_1_method_15_code 100 = .ok (.iload 6, 2) := by decide +kernel
theorem d_X_shared_102 : decode prog_1_method_15_code 102 = .ok (.iaload, 1) := by decide +kernel
theorem d_X_shared_103 : decode prog_1_method_15_code 103 = .ok (.baload, 1) := by decide +kernel
theorem d_X_shared_104 : decode prog_1_method_15_code 104 = .ok (.ifCond .eq 19, 3) := by decide +kernel
theorem d_X_shared_107 : decode prog_1_method_15_code 107 = .ok (.iinc 5 1, 3) := by decide +kernel
theorem d_X_shared_110 : decode prog_1_method_15_code 110 = .ok (.aload_n 0, 1) := by decide +kernel
theorem d_X_shared_111 : decode prog_1_method_15_code 111 = .ok (.getfield 29, 3) := by decide +kernel
theorem d_X_shared_114 : decode prog_1_method_15_code 114 = .ok (.aload_n 0, 1) := by decide +kernel
theorem d_X_shared_115 : decode prog_1_method_15_code 115 = .ok (.getfield 21, 3) := by decide +kernel
theorem d_X_shared_118 : decode prog_1_method_15_code 118 = .ok (.iload 6, 2) := by decide +kernel
theorem d_X_shared_120 : decode prog_1_method_15_code 120 = .ok (.iaload, 1) := by decide +kernel
theorem d_X_shared_121 : decode prog_1_method_15_code 121 = .ok (.iconst 0, 1) := by decide +kernel
theorem d_X_shared_122 : decode prog_1_method_15_code 122 = .ok (.bastore, 1) := by decide +kernel
theorem d_X_shared_123 : decode prog_1_method_15_code 123 = .ok (.iinc 6 1, 3) := by decide +kernel
theorem d_X_shared_126 : decode prog_1_method_15_code 126 = .ok (.goto (-44), 3) := by decide +kernel
theorem d_X_shared_129 : decode prog_1_method_15_code 129 = .ok (.iload 5, 2) := by decide +kernel
theorem d_X_shared_131 : decode prog_1_method_15_code 131 = .ok (.ireturn, 1) := by decide +kernel
theorem d_X_clearMarks_0 : decode prog_1_method_39_code 0 = .ok (.iconst 0, 1) := by decide +kernel
theorem d_X_clearMarks_1 : decode prog_1_method_39_code 1 = .ok (.istore_n 1, 1) := by decide +kernel
theorem d_X_clearMarks_2 : decode prog_1_method_39_code 2 = .ok (.iload_n 1, 1) := by decide +kernel
theorem d_X_clearMarks_3 : decode prog_1_method_39_code 3 = .ok (.sipush 300, 3) := by decide +kernel
theorem d_X_clearMarks_6 : decode prog_1_method_39_code 6 = .ok (.if_icmp .ge 16, 3) := by decide +kernel
theorem d_X_clearMarks_9 : decode prog_1_method_39_code 9 = .ok (.aload_n 0, 1) := by decide +kernel
theorem d_X_clearMarks_10 : decode prog_1_method_39_code 10 = .ok (.getfield 29, 3) := by decide +kernel
theorem d_X_clearMarks_13 : decode prog_1_method_39_code 13 = .ok (.iload_n 1, 1) := by decide +kernel
theorem d_X_clearMarks_14 : decode prog_1_method_39_code 14 = .ok (.iconst 0, 1) := by decide +kernel
theorem d_X_clearMarks_15 : decode prog_1_method_39_code 15 = .ok (.bastore, 1) := by decide +kernel
theorem d_X_clearMarks_16 : decode prog_1_method_39_code 16 = .ok (.iinc 1 1, 3) := by decide +kernel
theorem d_X_clearMarks_19 : decode prog_1_method_39_code 19 = .ok (.goto (-17), 3) := by decide +kernel
theorem d_X_clearMarks_22 : decode prog_1_method_39_code 22 = .ok (.return_, 1) := by decide +kernel
theorem d_X_same_0 : decode prog_1_method_16_code 0 = .ok (.aload_n 0, 1) := by decide +kernel
theorem d_X_same_1 : decode prog_1_method_16_code 1 = .ok (.iload_n 1, 1) := by decide +kernel
theorem d_X_same_2 : decode prog_1_method_16_code 2 = .ok (.invokevirtual 71, 3) := by decide +kernel
theorem d_X_same_5 : decode prog_1_method_16_code 5 = .ok (.astore_n 3, 1) := by decide +kernel
theorem d_X_same_6 : decode prog_1_method_16_code 6 = .ok (.aload_n 0, 1) := by decide +kernel
theorem d_X_same_7 : decode prog_1_method_16_code 7 = .ok (.iload_n 2, 1) := by decide +kernel
theorem d_X_same_8 : decode prog_1_method_16_code 8 = .ok (.invokevirtual 71, 3) := by decide +kernel
theorem d_X_same_11 : decode prog_1_method_16_code 11 = .ok (.astore 4, 2) := by decide +kernel
theorem d_X_same_13 : decode prog_1_method_16_code 13 = .ok (.aload_n 3, 1) := by decide +kernel
theorem d_X_same_14 : decode prog_1_method_16_code 14 = .ok (.aload 4, 2) := by decide +kernel
theorem d_X_same_16 : decode prog_1_method_16_code 16 = .ok (.invokevirtual 211, 3) := by decide +kernel
theorem d_X_same_19 : decode prog_1_method_16_code 19 = .ok (.ifCond .ne 5, 3) := by decide +kernel
theorem d_X_same_22 : decode prog_1_method_16_code 22 = .ok (.iconst 0, 1) := by decide +kernel
theorem d_X_same_23 : decode prog_1_method_16_code 23 = .ok (.ireturn, 1) := by decide +kernel
theorem d_X_same_24 : decode prog_1_method_16_code 24 = .ok (.aload_n 0, 1) := by decide +kernel
theorem d_X_same_25 : decode prog_1_method_16_code 25 = .ok (.aload_n 3, 1) := by decide +kernel
theorem d_X_same_26 : decode prog_1_method_16_code 26 = .ok (.aload_n 3, 1) := by decide +kernel
theorem d_X_same_27 : decode prog_1_method_16_code 27 = .ok (.invokevirtual 167, 3) := by decide +kernel
theorem d_X_same_30 : decode prog_1_method_16_code 30 = .ok (.aload_n 0, 1) := by decide +kernel
theorem d_X_same_31 : decode prog_1_method_16_code 31 = .ok (.aload 4, 2) := by decide +kernel
theorem d_X_same_33 : decode prog_1_method_16_code 33 = .ok (.aload 4, 2) := by decide +kernel
theorem d_X_same_35 : decode prog_1_method_16_code 35 = .ok (.invokevirtual 144, 3) := by decide +kernel
theorem d_X_same_38 : decode prog_1_method_16_code 38 = .ok (.iconst 0, 1) := by decide +kernel
theorem d_X_same_39 : decode prog_1_method_16_code 39 = .ok (.istore 5, 2) := by decide +kernel
theorem d_X_same_41 : decode prog_1_method_16_code 41 = .ok (.iload 5, 2) := by decide +kernel
theorem d_X_same_43 : decode prog_1_method_16_code 43 = .ok (.aload 4, 2) := by decide +kernel
theorem d_X_same_45 : decode prog_1_method_16_code 45 = .ok (.getfield 139, 3) := by decide +kernel
theorem d_X_same_48 : decode prog_1_method_16_code 48 = .ok (.if_icmp .ge 38, 3) := by decide +kernel
theorem d_X_same_51 : decode prog_1_method_16_code 51 = .ok (.aload_n 0, 1) := by decide +kernel
theorem d_X_same_52 : decode prog_1_method_16_code 52 = .ok (.getfield 25, 3) := by decide +kernel
theorem d_X_same_55 : decode prog_1_method_16_code 55 = .ok (.iload 5, 2) := by decide +kernel
theorem d_X_same_57 : decode prog_1_method_16_code 57 = .ok (.laload, 1) := by decide +kernel
theorem d_X_same_58 : decode prog_1_method_16_code 58 = .ok (.aload 4, 2) := by decide +kernel
theorem d_X_same_60 : decode prog_1_method_16_code 60 = .ok (.getfield 129, 3) := by decide +kernel
theorem d_X_same_63 : decode prog_1_method_16_code 63 = .ok (.getfield 176, 3) := by decide +kernel
theorem d_X_same_66 : decode prog_1_method_16_code 66 = .ok (.aload_n 0, 1) := by decide +kernel
theorem d_X_same_67 : decode prog_1_method_16_code 67 = .ok (.getfield 21, 3) := by decide +kernel
theorem d_X_same_70 : decode prog_1_method_16_code 70 = .ok (.iload 5, 2) := by decide +kernel
theorem d_X_same_72 : decode prog_1_method_16_code 72 = .ok (.iaload, 1) := by decide +kernel
theorem d_X_same_73 : decode prog_1_method_16_code 73 = .ok (.laload, 1) := by decide +kernel
theorem d_X_same_74 : decode prog_1_method_16_code 74 = .ok (.lcmp, 1) := by decide +kernel
theorem d_X_same_75 : decode prog_1_method_16_code 75 = .ok (.ifCond .eq 5, 3) := by decide +kernel
theorem d_X_same_78 : decode prog_1_method_16_code 78 = .ok (.iconst 0, 1) := by decide +kernel
theorem d_X_same_79 : decode prog_1_method_16_code 79 = .ok (.ireturn, 1) := by decide +kernel
theorem d_X_same_80 : decode prog_1_method_16_code 80 = .ok (.iinc 5 1, 3) := by decide +kernel
theorem d_X_same_83 : decode prog_1_method_16_code 83 = .ok (.goto (-42), 3) := by decide +kernel
theorem d_X_same_86 : decode prog_1_method_16_code 86 = .ok (.iconst 1, 1) := by decide +kernel
theorem d_X_same_87 : decode prog_1_method_16_code 87 = .ok (.ireturn, 1) := by decide +kernel
theorem d_X_runs_0 : decode prog_1_method_17_code 0 = .ok (.aload_n 0, 1) := by decide +kernel
theorem d_X_runs_1 : decode prog_1_method_17_code 1 = .ok (.iload_n 1, 1) := by decide +kernel
theorem d_X_runs_2 : decode prog_1_method_17_code 2 = .ok (.invokevirtual 71, 3) := by decide +kernel
theorem d_X_runs_5 : decode prog_1_method_17_code 5 = .ok (.astore_n 2, 1) := by decide +kernel
theorem d_X_runs_6 : decode prog_1_method_17_code 6 = .ok (.aload_n 0, 1) := by decide +kernel
theorem d_X_runs_7 : decode prog_1_method_17_code 7 = .ok (.aload_n 2, 1) := by decide +kernel
theorem d_X_runs_8 : decode prog_1_method_17_code 8 = .ok (.aload_n 2, 1) := by decide +kernel
theorem d_X_runs_9 : decode prog_1_method_17_code 9 = .ok (.invokevirtual 144, 3) := by decide +kernel
theorem d_X_runs_12 : decode prog_1_method_17_code 12 = .ok (.iconst 0, 1) := by decide +kernel
theorem d_X_runs_13 : decode prog_1_method_17_code 13 = .ok (.istore_n 3, 1) := by decide +kernel
theorem d_X_runs_14 : decode prog_1_method_17_code 14 = .ok (.iconst 0, 1) := by decide +kernel
theorem d_X_runs_15 : decode prog_1_method_17_code 15 = .ok (.istore 4, 2) := by decide +kernel
theorem d_X_runs_17 : decode prog_1_method_17_code 17 = .ok (.iload 4, 2) := by decide +kernel
theorem d_X_runs_19 : decode prog_1_method_17_code 19 = .ok (.aload_n 2, 1) := by decide +kernel
theorem d_X_runs_20 : decode prog_1_method_17_code 20 = .ok (.getfield 139, 3) := by decide +kernel
theorem d_X_runs_23 : decode prog_1_method_17_code 23 = .ok (.if_icmp .ge 38, 3) := by decide +kernel
theorem d_X_runs_26 : decode prog_1_method_17_code 26 = .ok (.iload 4, 2) := by decide +kernel
theorem d_X_runs_28 : decode prog_1_method_17_code 28 = .ok (.ifCond .eq 24, 3) := by decide +kernel
theorem d_X_runs_31 : decode prog_1_method_17_code 31 = .ok (.aload_n 0, 1) := by decide +kernel
theorem d_X_runs_32 : decode prog_1_method_17_code 32 = .ok (.getfield 21, 3) := by decide +kernel
theorem d_X_runs_35 : decode prog_1_method_17_code 35 = .ok (.iload 4, 2) := by decide +kernel
theorem d_X_runs_37 : decode prog_1_method_17_code 37 = .ok (.iaload, 1) := by decide +kernel
theorem d_X_runs_38 : decode prog_1_method_17_code 38 = .ok (.aload_n 0, 1) := by decide +kernel
theorem d_X_runs_39 : decode prog_1_method_17_code 39 = .ok (.getfield 21, 3) := by decide +kernel
theorem d_X_runs_42 : decode prog_1_method_17_code 42 = .ok (.iload 4, 2) := by decide +kernel
theorem d_X_runs_44 : decode prog_1_method_17_code 44 = .ok (.iconst 1, 1) := by decide +kernel
theorem d_X_runs_45 : decode prog_1_method_17_code 45 = .ok (.isub, 1) := by decide +kernel
theorem d_X_runs_46 : decode prog_1_method_17_code 46 = .ok (.iaload, 1) := by decide +kernel
theorem d_X_runs_47 : decode prog_1_method_17_code 47 = .ok (.iconst 1, 1) := by decide +kernel
theorem d_X_runs_48 : decode prog_1_method_17_code 48 = .ok (.iadd, 1) := by decide +kernel
theorem d_X_runs_49 : decode prog_1_method_17_code 49 = .ok (.if_icmp .eq 6, 3) := by decide +kernel
theorem d_X_runs_52 : decode prog_1_method_17_code 52 = .ok (.iinc 3 1, 3) := by decide +kernel
theorem d_X_runs_55 : decode prog_1_method_17_code 55 = .ok (.iinc 4 1, 3) := by decide +kernel
theorem d_X_runs_58 : decode prog_1_method_17_code 58 = .ok (.goto (-41), 3) := by decide +kernel
theorem d_X_runs_61 : decode prog_1_method_17_code 61 = .ok (.iload_n 3, 1) := by decide +kernel
theorem d_X_runs_62 : decode prog_1_method_17_code 62 = .ok (.ireturn, 1) := by decide +kernel
theorem d_X_told_0 : decode prog_1_method_18_code 0 = .ok (.aload_n 0, 1) := by decide +kernel
theorem d_X_told_1 : decode prog_1_method_18_code 1 = .ok (.iload_n 1, 1) := by decide +kernel
theorem d_X_told_2 : decode prog_1_method_18_code 2 = .ok (.invokevirtual 71, 3) := by decide +kernel
theorem d_X_told_5 : decode prog_1_method_18_code 5 = .ok (.astore_n 3, 1) := by decide +kernel
theorem d_X_told_6 : decode prog_1_method_18_code 6 = .ok (.iload_n 2, 1) := by decide +kernel
theorem d_X_told_7 : decode prog_1_method_18_code 7 = .ok (.tableswitch 87 0 6 #[41, 49, 54, 59, 64, 77, 82], 41) := by decide +kernel
theorem d_X_told_48 : decode prog_1_method_18_code 48 = .ok (.aload_n 3, 1) := by decide +kernel
theorem d_X_told_49 : decode prog_1_method_18_code 49 = .ok (.getfield 129, 3) := by decide +kernel
theorem d_X_told_52 : decode prog_1_method_18_code 52 = .ok (.getfield 214, 3) := by decide +kernel
theorem d_X_told_55 : decode prog_1_method_18_code 55 = .ok (.ireturn, 1) := by decide +kernel
theorem d_X_told_56 : decode prog_1_method_18_code 56 = .ok (.aload_n 3, 1) := by decide +kernel
theorem d_X_told_57 : decode prog_1_method_18_code 57 = .ok (.getfield 90, 3) := by decide +kernel
theorem d_X_told_60 : decode prog_1_method_18_code 60 = .ok (.ireturn, 1) := by decide +kernel
theorem d_X_told_61 : decode prog_1_method_18_code 61 = .ok (.aload_n 3, 1) := by decide +kernel
theorem d_X_told_62 : decode prog_1_method_18_code 62 = .ok (.getfield 104, 3) := by decide +kernel
theorem d_X_told_65 : decode prog_1_method_18_code 65 = .ok (.ireturn, 1) := by decide +kernel
theorem d_X_told_66 : decode prog_1_method_18_code 66 = .ok (.aload_n 3, 1) := by decide +kernel
theorem d_X_told_67 : decode prog_1_method_18_code 67 = .ok (.getfield 139, 3) := by decide +kernel
theorem d_X_told_70 : decode prog_1_method_18_code 70 = .ok (.ireturn, 1) := by decide +kernel
theorem d_X_told_71 : decode prog_1_method_18_code 71 = .ok (.aload_n 3, 1) := by decide +kernel
theorem d_X_told_72 : decode prog_1_method_18_code 72 = .ok (.invokevirtual 217, 3) := by decide +kernel
theorem d_X_told_75 : decode prog_1_method_18_code 75 = .ok (.ifCond .eq 7, 3) := by decide +kernel
theorem d_X_told_78 : decode prog_1_method_18_code 78 = .ok (.iconst 1, 1) := by decide +kernel
theorem d_X_told_79 : decode prog_1_method_18_code 79 = .ok (.goto 4, 3) := by decide +kernel
theorem d_X_told_82 : decode prog_1_method_18_code 82 = .ok (.iconst 0, 1) := by decide +kernel
theorem d_X_told_83 : decode prog_1_method_18_code 83 = .ok (.ireturn, 1) := by decide +kernel
theorem d_X_told_84 : decode prog_1_method_18_code 84 = .ok (.aload_n 3, 1) := by decide +kernel
theorem d_X_told_85 : decode prog_1_method_18_code 85 = .ok (.invokevirtual 221, 3) := by decide +kernel
theorem d_X_told_88 : decode prog_1_method_18_code 88 = .ok (.ireturn, 1) := by decide +kernel
theorem d_X_told_89 : decode prog_1_method_18_code 89 = .ok (.aload_n 3, 1) := by decide +kernel
theorem d_X_told_90 : decode prog_1_method_18_code 90 = .ok (.invokevirtual 225, 3) := by decide +kernel
theorem d_X_told_93 : decode prog_1_method_18_code 93 = .ok (.ireturn, 1) := by decide +kernel
theorem d_X_told_94 : decode prog_1_method_18_code 94 = .ok (.new 44, 3) := by decide +kernel
theorem d_X_told_97 : decode prog_1_method_18_code 97 = .ok (.dup, 1) := by decide +kernel
theorem d_X_told_98 : decode prog_1_method_18_code 98 = .ok (.ldc 228, 2) := by decide +kernel
theorem d_X_told_100 : decode prog_1_method_18_code 100 = .ok (.invokespecial 48, 3) := by decide +kernel
theorem d_X_told_103 : decode prog_1_method_18_code 103 = .ok (.athrow, 1) := by decide +kernel
theorem d_X_axis_0 : decode prog_1_method_19_code 0 = .ok (.aload_n 0, 1) := by decide +kernel
theorem d_X_axis_1 : decode prog_1_method_19_code 1 = .ok (.iload_n 1, 1) := by decide +kernel
theorem d_X_axis_2 : decode prog_1_method_19_code 2 = .ok (.invokevirtual 71, 3) := by decide +kernel
theorem d_X_axis_5 : decode prog_1_method_19_code 5 = .ok (.astore 4, 2) := by decide +kernel
theorem d_X_axis_7 : decode prog_1_method_19_code 7 = .ok (.aload 4, 2) := by decide +kernel
theorem d_X_axis_9 : decode prog_1_method_19_code 9 = .ok (.iload_n 2, 1) := by decide +kernel
theorem d_X_axis_10 : decode prog_1_method_19_code 10 = .ok (.invokestatic 75, 3) := by decide +kernel
theorem d_X_axis_13 : decode prog_1_method_19_code 13 = .ok (.iload_n 3, 1) := by decide +kernel
theorem d_X_axis_14 : decode prog_1_method_19_code 14 = .ok (.lookupswitch 42 #[(0, 26), (1, 34)], 26) := by decide +kernel
theorem d_X_axis_40 : decode prog_1_method_19_code 40 = .ok (.aload 4, 2) := by decide +kernel
theorem d_X_axis_42 : decode prog_1_method_19_code 42 = .ok (.getfield 79, 3) := by decide +kernel
theorem d_X_axis_45 : decode prog_1_method_19_code 45 = .ok (.iload_n 2, 1) := by decide +kernel
theorem d_X_axis_46 : decode prog_1_method_19_code 46 = .ok (.iaload, 1) := by decide +kernel
theorem d_X_axis_47 : decode prog_1_method_19_code 47 = .ok (.ireturn, 1) := by decide +kernel
theorem d_X_axis_48 : decode prog_1_method_19_code 48 = .ok (.aload 4, 2) := by decide +kernel
theorem d_X_axis_50 : decode prog_1_method_19_code 50 = .ok (.getfield 93, 3) := by decide +kernel
theorem d_X_axis_53 : decode prog_1_method_19_code 53 = .ok (.iload_n 2, 1) := by decide +kernel
theorem d_X_axis_54 : decode prog_1_method_19_code 54 = .ok (.iaload, 1) := by decide +kernel
theorem d_X_axis_55 : decode prog_1_method_19_code 55 = .ok (.ireturn, 1) := by decide +kernel
theorem d_X_axis_56 : decode prog_1_method_19_code 56 = .ok (.new 44, 3) := by decide +kernel
theorem d_X_axis_59 : decode prog_1_method_19_code 59 = .ok (.dup, 1) := by decide +kernel
theorem d_X_axis_60 : decode prog_1_method_19_code 60 = .ok (.ldc 230, 2) := by decide +kernel
theorem d_X_axis_62 : decode prog_1_method_19_code 62 = .ok (.invokespecial 48, 3) := by decide +kernel
theorem d_X_axis_65 : decode prog_1_method_19_code 65 = .ok (.athrow, 1) := by decide +kernel
theorem d_X_stored_0 : decode prog_1_method_20_code 0 = .ok (.iload_n 1, 1) := by decide +kernel
theorem d_X_stored_1 : decode prog_1_method_20_code 1 = .ok (.ifCond .lt 11, 3) := by decide +kernel
theorem d_X_stored_4 : decode prog_1_method_20_code 4 = .ok (.iload_n 1, 1) := by decide +kernel
theorem d_X_stored_5 : decode prog_1_method_20_code 5 = .ok (.aload_n 0, 1) := by decide +kernel
theorem d_X_stored_6 : decode prog_1_method_20_code 6 = .ok (.getfield 33, 3) := by decide +kernel
theorem d_X_stored_9 : decode prog_1_method_20_code 9 = .ok (.if_icmp .lt 13, 3) := by decide +kernel
theorem d_X_stored_12 : decode prog_1_method_20_code 12 = .ok (.new 96, 3) := by decide +kernel
theorem d_X_stored_15 : decode prog_1_method_20_code 15 = .ok (.dup, 1) := by decide +kernel
theorem d_X_stored_16 : decode prog_1_method_20_code 16 = .ok (.ldc 232, 2) := by decide +kernel
theorem d_X_stored_18 : decode prog_1_method_20_code 18 = .ok (.invokespecial 100, 3) := by decide +kernel
theorem d_X_stored_21 : decode prog_1_method_20_code 21 = .ok (.athrow, 1) := by decide +kernel
theorem d_X_stored_22 : decode prog_1_method_20_code 22 = .ok (.iload_n 2, 1) := by decide +kernel
theorem d_X_stored_23 : decode prog_1_method_20_code 23 = .ok (.tableswitch 56 0 2 #[25, 35, 46], 25) := by decide +kernel
theorem d_X_stored_48 : decode prog_1_method_20_code 48 = .ok (.aload_n 0, 1) := by decide +kernel
theorem d_X_stored_49 : decode prog_1_method_20_code 49 = .ok (.getfield 11, 3) := by decide +kernel
theorem d_X_stored_52 : decode prog_1_method_20_code 52 = .ok (.iload_n 1, 1) := by decide +kernel
theorem d_X_stored_53 : decode prog_1_method_20_code 53 = .ok (.aaload, 1) := by decide +kernel
theorem d_X_stored_54 : decode prog_1_method_20_code 54 = .ok (.getfield 234, 3) := by decide +kernel
theorem d_X_stored_57 : decode prog_1_method_20_code 57 = .ok (.ireturn, 1) := by decide +kernel
theorem d_X_stored_58 : decode prog_1_method_20_code 58 = .ok (.aload_n 0, 1) := by decide +kernel
theorem d_X_stored_59 : decode prog_1_method_20_code 59 = .ok (.getfield 11, 3) := by decide +kernel
theorem d_X_stored_62 : decode prog_1_method_20_code 62 = .ok (.iload_n 1, 1) := by decide +kernel
theorem d_X_stored_63 : decode prog_1_method_20_code 63 = .ok (.aaload, 1) := by decide +kernel
theorem d_X_stored_64 : decode prog_1_method_20_code 64 = .ok (.getfield 176, 3) := by decide +kernel
theorem d_X_stored_67 : decode prog_1_method_20_code 67 = .ok (.arraylength, 1) := by decide +kernel
theorem d_X_stored_68 : decode prog_1_method_20_code 68 = .ok (.ireturn, 1) := by decide +kernel
theorem d_X_stored_69 : decode prog_1_method_20_code 69 = .ok (.aload_n 0, 1) := by decide +kernel
theorem d_X_stored_70 : decode prog_1_method_20_code 70 = .ok (.getfield 11, 3) := by decide +kernel
theorem d_X_stored_73 : decode prog_1_method_20_code 73 = .ok (.iload_n 1, 1) := by decide +kernel
theorem d_X_stored_74 : decode prog_1_method_20_code 74 = .ok (.aaload, 1) := by decide +kernel
theorem d_X_stored_75 : decode prog_1_method_20_code 75 = .ok (.getfield 237, 3) := by decide +kernel
theorem d_X_stored_78 : decode prog_1_method_20_code 78 = .ok (.ireturn, 1) := by decide +kernel
theorem d_X_stored_79 : decode prog_1_method_20_code 79 = .ok (.new 44, 3) := by decide +kernel
theorem d_X_stored_82 : decode prog_1_method_20_code 82 = .ok (.dup, 1) := by decide +kernel
theorem d_X_stored_83 : decode prog_1_method_20_code 83 = .ok (.ldc 240, 2) := by decide +kernel
theorem d_X_stored_85 : decode prog_1_method_20_code 85 = .ok (.invokespecial 48, 3) := by decide +kernel
theorem d_X_stored_88 : decode prog_1_method_20_code 88 = .ok (.athrow, 1) := by decide +kernel
theorem d_X_count_0 : decode prog_1_method_21_code 0 = .ok (.iload_n 1, 1) := by decide +kernel
theorem d_X_count_1 : decode prog_1_method_21_code 1 = .ok (.lookupswitch 37 #[(0, 27), (1, 32)], 27) := by decide +kernel
theorem d_X_count_28 : decode prog_1_method_21_code 28 = .ok (.aload_n 0, 1) := by decide +kernel
theorem d_X_count_29 : decode prog_1_method_21_code 29 = .ok (.getfield 33, 3) := by decide +kernel
theorem d_X_count_32 : decode prog_1_method_21_code 32 = .ok (.ireturn, 1) := by decide +kernel
theorem d_X_count_33 : decode prog_1_method_21_code 33 = .ok (.aload_n 0, 1) := by decide +kernel
theorem d_X_count_34 : decode prog_1_method_21_code 34 = .ok (.getfield 37, 3) := by decide +kernel
theorem d_X_count_37 : decode prog_1_method_21_code 37 = .ok (.ireturn, 1) := by decide +kernel
theorem d_X_count_38 : decode prog_1_method_21_code 38 = .ok (.new 44, 3) := by decide +kernel
theorem d_X_count_41 : decode prog_1_method_21_code 41 = .ok (.dup, 1) := by decide +kernel
theorem d_X_count_42 : decode prog_1_method_21_code 42 = .ok (.ldc 242, 2) := by decide +kernel
theorem d_X_count_44 : decode prog_1_method_21_code 44 = .ok (.invokespecial 48, 3) := by decide +kernel
theorem d_X_count_47 : decode prog_1_method_21_code 47 = .ok (.athrow, 1) := by decide +kernel
