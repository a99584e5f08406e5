/-! decode rows, by program -/
theorem d_M_bounds_0 : decode c_M_bounds 0 = .ok (.aload_n 0, 1) := by decide +kernel
theorem d_M_bounds_1 : decode c_M_bounds 1 = .ok (.iconst 0, 1) := by decide +kernel
theorem d_M_bounds_2 : decode c_M_bounds 2 = .ok (.putfield 29, 3) := by decide +kernel
theorem d_M_bounds_5 : decode c_M_bounds 5 = .ok (.iload_n 1, 1) := by decide +kernel
theorem d_M_bounds_6 : decode c_M_bounds 6 = .ok (.iconst 0, 1) := by decide +kernel
theorem d_M_bounds_7 : decode c_M_bounds 7 = .ok (.iconst 3, 1) := by decide +kernel
theorem d_M_bounds_8 : decode c_M_bounds 8 = .ok (.invokestatic 35, 3) := by decide +kernel
theorem d_M_bounds_11 : decode c_M_bounds 11 = .ok (.ifCond .ne 9, 3) := by decide +kernel
theorem d_M_bounds_14 : decode c_M_bounds 14 = .ok (.aload_n 0, 1) := by decide +kernel
theorem d_M_bounds_15 : decode c_M_bounds 15 = .ok (.iconst 1, 1) := by decide +kernel
theorem d_M_bounds_16 : decode c_M_bounds 16 = .ok (.invokevirtual 43, 3) := by decide +kernel
theorem d_M_bounds_19 : decode c_M_bounds 19 = .ok (.ireturn, 1) := by decide +kernel
theorem d_M_bounds_20 : decode c_M_bounds 20 = .ok (.iconst (-1), 1) := by decide +kernel
theorem d_M_bounds_21 : decode c_M_bounds 21 = .ok (.istore_n 2, 1) := by decide +kernel
theorem d_M_bounds_22 : decode c_M_bounds 22 = .ok (.iconst 0, 1) := by decide +kernel
theorem d_M_bounds_23 : decode c_M_bounds 23 = .ok (.istore_n 3, 1) := by decide +kernel
theorem d_M_bounds_24 : decode c_M_bounds 24 = .ok (.iload_n 3, 1) := by decide +kernel
theorem d_M_bounds_25 : decode c_M_bounds 25 = .ok (.sipush 4096, 3) := by decide +kernel
theorem d_M_bounds_28 : decode c_M_bounds 28 = .ok (.if_icmp .ge 62, 3) := by decide +kernel
theorem d_M_bounds_31 : decode c_M_bounds 31 = .ok (.aload_n 0, 1) := by decide +kernel
theorem d_M_bounds_32 : decode c_M_bounds 32 = .ok (.getfield 7, 3) := by decide +kernel
theorem d_M_bounds_35 : decode c_M_bounds 35 = .ok (.iload_n 3, 1) := by decide +kernel
theorem d_M_bounds_36 : decode c_M_bounds 36 = .ok (.baload, 1) := by decide +kernel
theorem d_M_bounds_37 : decode c_M_bounds 37 = .ok (.ifCond .eq 47, 3) := by decide +kernel
theorem d_M_bounds_40 : decode c_M_bounds 40 = .ok (.iload_n 2, 1) := by decide +kernel
theorem d_M_bounds_41 : decode c_M_bounds 41 = .ok (.ifCond .lt 41, 3) := by decide +kernel
theorem d_M_bounds_44 : decode c_M_bounds 44 = .ok (.iload_n 1, 1) := by decide +kernel
theorem d_M_bounds_45 : decode c_M_bounds 45 = .ok (.iconst 2, 1) := by decide +kernel
theorem d_M_bounds_46 : decode c_M_bounds 46 = .ok (.if_icmp .ge 21, 3) := by decide +kernel
theorem d_M_bounds_49 : decode c_M_bounds 49 = .ok (.aload_n 0, 1) := by decide +kernel
theorem d_M_bounds_50 : decode c_M_bounds 50 = .ok (.iload_n 3, 1) := by decide +kernel
theorem d_M_bounds_51 : decode c_M_bounds 51 = .ok (.iload_n 1, 1) := by decide +kernel
theorem d_M_bounds_52 : decode c_M_bounds 52 = .ok (.invokevirtual 81, 3) := by decide +kernel
theorem d_M_bounds_55 : decode c_M_bounds 55 = .ok (.aload_n 0, 1) := by decide +kernel
theorem d_M_bounds_56 : decode c_M_bounds 56 = .ok (.iload_n 2, 1) := by decide +kernel
theorem d_M_bounds_57 : decode c_M_bounds 57 = .ok (.iload_n 1, 1) := by decide +kernel
theorem d_M_bounds_58 : decode c_M_bounds 58 = .ok (.invokevirtual 81, 3) := by decide +kernel
theorem d_M_bounds_61 : decode c_M_bounds 61 = .ok (.if_icmp .ge 23, 3) := by decide +kernel
theorem d_M_bounds_64 : decode c_M_bounds 64 = .ok (.goto 18, 3) := by decide +kernel
theorem d_M_bounds_67 : decode c_M_bounds 67 = .ok (.aload_n 0, 1) := by decide +kernel
theorem d_M_bounds_68 : decode c_M_bounds 68 = .ok (.iload_n 3, 1) := by decide +kernel
theorem d_M_bounds_69 : decode c_M_bounds 69 = .ok (.iload_n 1, 1) := by decide +kernel
theorem d_M_bounds_70 : decode c_M_bounds 70 = .ok (.invokevirtual 81, 3) := by decide +kernel
theorem d_M_bounds_73 : decode c_M_bounds 73 = .ok (.aload_n 0, 1) := by decide +kernel
theorem d_M_bounds_74 : decode c_M_bounds 74 = .ok (.iload_n 2, 1) := by decide +kernel
theorem d_M_bounds_75 : decode c_M_bounds 75 = .ok (.iload_n 1, 1) := by decide +kernel
theorem d_M_bounds_76 : decode c_M_bounds 76 = .ok (.invokevirtual 81, 3) := by decide +kernel
theorem d_M_bounds_79 : decode c_M_bounds 79 = .ok (.if_icmp .le 5, 3) := by decide +kernel
theorem d_M_bounds_82 : decode c_M_bounds 82 = .ok (.iload_n 3, 1) := by decide +kernel
theorem d_M_bounds_83 : decode c_M_bounds 83 = .ok (.istore_n 2, 1) := by decide +kernel
theorem d_M_bounds_84 : decode c_M_bounds 84 = .ok (.iinc 3 1, 3) := by decide +kernel
theorem d_M_bounds_87 : decode c_M_bounds 87 = .ok (.goto (-63), 3) := by decide +kernel
theorem d_M_bounds_90 : decode c_M_bounds 90 = .ok (.iload_n 2, 1) := by decide +kernel
theorem d_M_bounds_91 : decode c_M_bounds 91 = .ok (.ifCond .ge 11, 3) := by decide +kernel
theorem d_M_bounds_94 : decode c_M_bounds 94 = .ok (.aload_n 0, 1) := by decide +kernel
theorem d_M_bounds_95 : decode c_M_bounds 95 = .ok (.iconst 2, 1) := by decide +kernel
theorem d_M_bounds_96 : decode c_M_bounds 96 = .ok (.invokevirtual 43, 3) := by decide +kernel
theorem d_M_bounds_99 : decode c_M_bounds 99 = .ok (.goto 9, 3) := by decide +kernel
theorem d_M_bounds_102 : decode c_M_bounds 102 = .ok (.aload_n 0, 1) := by decide +kernel
theorem d_M_bounds_103 : decode c_M_bounds 103 = .ok (.iload_n 2, 1) := by decide +kernel
theorem d_M_bounds_104 : decode c_M_bounds 104 = .ok (.iload_n 1, 1) := by decide +kernel
theorem d_M_bounds_105 : decode c_M_bounds 105 = .ok (.invokevirtual 81, 3) := by decide +kernel
theorem d_M_bounds_108 : decode c_M_bounds 108 = .ok (.ireturn, 1) := by decide +kernel
theorem d_M_bound_0 : decode c_M_bound 0 = .ok (.iload_n 2, 1) := by decide +kernel
theorem d_M_bound_1 : decode c_M_bound 1 = .ok (.ifCond .ne 12, 3) := by decide +kernel
theorem d_M_bound_4 : decode c_M_bound 4 = .ok (.aload_n 0, 1) := by decide +kernel
theorem d_M_bound_5 : decode c_M_bound 5 = .ok (.getfield 13, 3) := by decide +kernel
theorem d_M_bound_8 : decode c_M_bound 8 = .ok (.iload_n 1, 1) := by decide +kernel
theorem d_M_bound_9 : decode c_M_bound 9 = .ok (.iaload, 1) := by decide +kernel
theorem d_M_bound_10 : decode c_M_bound 10 = .ok (.goto 37, 3) := by decide +kernel
theorem d_M_bound_13 : decode c_M_bound 13 = .ok (.iload_n 2, 1) := by decide +kernel
theorem d_M_bound_14 : decode c_M_bound 14 = .ok (.iconst 1, 1) := by decide +kernel
theorem d_M_bound_15 : decode c_M_bound 15 = .ok (.if_icmp .ne 12, 3) := by decide +kernel
theorem d_M_bound_18 : decode c_M_bound 18 = .ok (.aload_n 0, 1) := by decide +kernel
theorem d_M_bound_19 : decode c_M_bound 19 = .ok (.getfield 17, 3) := by decide +kernel
theorem d_M_bound_22 : decode c_M_bound 22 = .ok (.iload_n 1, 1) := by decide +kernel
theorem d_M_bound_23 : decode c_M_bound 23 = .ok (.iaload, 1) := by decide +kernel
theorem d_M_bound_24 : decode c_M_bound 24 = .ok (.goto 23, 3) := by decide +kernel
theorem d_M_bound_27 : decode c_M_bound 27 = .ok (.iload_n 2, 1) := by decide +kernel
theorem d_M_bound_28 : decode c_M_bound 28 = .ok (.iconst 2, 1) := by decide +kernel
theorem d_M_bound_29 : decode c_M_bound 29 = .ok (.if_icmp .ne 12, 3) := by decide +kernel
theorem d_M_bound_32 : decode c_M_bound 32 = .ok (.aload_n 0, 1) := by decide +kernel
theorem d_M_bound_33 : decode c_M_bound 33 = .ok (.getfield 20, 3) := by decide +kernel
theorem d_M_bound_36 : decode c_M_bound 36 = .ok (.iload_n 1, 1) := by decide +kernel
theorem d_M_bound_37 : decode c_M_bound 37 = .ok (.iaload, 1) := by decide +kernel
theorem d_M_bound_38 : decode c_M_bound 38 = .ok (.goto 9, 3) := by decide +kernel
theorem d_M_bound_41 : decode c_M_bound 41 = .ok (.aload_n 0, 1) := by decide +kernel
theorem d_M_bound_42 : decode c_M_bound 42 = .ok (.getfield 23, 3) := by decide +kernel
theorem d_M_bound_45 : decode c_M_bound 45 = .ok (.iload_n 1, 1) := by decide +kernel
theorem d_M_bound_46 : decode c_M_bound 46 = .ok (.iaload, 1) := by decide +kernel
theorem d_M_bound_47 : decode c_M_bound 47 = .ok (.ireturn, 1) := by decide +kernel
theorem d_M_result_0 : decode c_M_result 0 = .ok (.aload_n 0, 1) := by decide +kernel
theorem d_M_result_1 : decode c_M_result 1 = .ok (.iconst 0, 1) := by decide +kernel
theorem d_M_result_2 : decode c_M_result 2 = .ok (.putfield 29, 3) := by decide +kernel
theorem d_M_result_5 : decode c_M_result 5 = .ok (.iload_n 1, 1) := by decide +kernel
theorem d_M_result_6 : decode c_M_result 6 = .ok (.iconst 0, 1) := by decide +kernel
theorem d_M_result_7 : decode c_M_result 7 = .ok (.aload_n 0, 1) := by decide +kernel
theorem d_M_result_8 : decode c_M_result 8 = .ok (.getfield 55, 3) := by decide +kernel
theorem d_M_result_11 : decode c_M_result 11 = .ok (.iconst 1, 1) := by decide +kernel
theorem d_M_result_12 : decode c_M_result 12 = .ok (.isub, 1) := by decide +kernel
theorem d_M_result_13 : decode c_M_result 13 = .ok (.invokestatic 35, 3) := by decide +kernel
theorem d_M_result_16 : decode c_M_result 16 = .ok (.ifCond .eq 12, 3) := by decide +kernel
theorem d_M_result_19 : decode c_M_result 19 = .ok (.aload_n 0, 1) := by decide +kernel
theorem d_M_result_20 : decode c_M_result 20 = .ok (.getfield 26, 3) := by decide +kernel
theorem d_M_result_23 : decode c_M_result 23 = .ok (.iload_n 1, 1) := by decide +kernel
theorem d_M_result_24 : decode c_M_result 24 = .ok (.iaload, 1) := by decide +kernel
theorem d_M_result_25 : decode c_M_result 25 = .ok (.goto 8, 3) := by decide +kernel
theorem d_M_result_28 : decode c_M_result 28 = .ok (.aload_n 0, 1) := by decide +kernel
theorem d_M_result_29 : decode c_M_result 29 = .ok (.iconst 1, 1) := by decide +kernel
theorem d_M_result_30 : decode c_M_result 30 = .ok (.invokevirtual 43, 3) := by decide +kernel
theorem d_M_result_33 : decode c_M_result 33 = .ok (.ireturn, 1) := by decide +kernel
theorem d_M_box_0 : decode c_M_box 0 = .ok (.aload_n 0, 1) := by decide +kernel
theorem d_M_box_1 : decode c_M_box 1 = .ok (.iconst 0, 1) := by decide +kernel
theorem d_M_box_2 : decode c_M_box 2 = .ok (.putfield 29, 3) := by decide +kernel
theorem d_M_box_5 : decode c_M_box 5 = .ok (.aload_n 0, 1) := by decide +kernel
theorem d_M_box_6 : decode c_M_box 6 = .ok (.iload_n 1, 1) := by decide +kernel
theorem d_M_box_7 : decode c_M_box 7 = .ok (.invokevirtual 78, 3) := by decide +kernel
theorem d_M_box_10 : decode c_M_box 10 = .ok (.ifCond .eq 21, 3) := by decide +kernel
theorem d_M_box_13 : decode c_M_box 13 = .ok (.iload_n 2, 1) := by decide +kernel
theorem d_M_box_14 : decode c_M_box 14 = .ok (.iconst 0, 1) := by decide +kernel
theorem d_M_box_15 : decode c_M_box 15 = .ok (.iconst 3, 1) := by decide +kernel
theorem d_M_box_16 : decode c_M_box 16 = .ok (.invokestatic 35, 3) := by decide +kernel
theorem d_M_box_19 : decode c_M_box 19 = .ok (.ifCond .eq 12, 3) := by decide +kernel
theorem d_M_box_22 : decode c_M_box 22 = .ok (.aload_n 0, 1) := by decide +kernel
theorem d_M_box_23 : decode c_M_box 23 = .ok (.iload_n 1, 1) := by decide +kernel
theorem d_M_box_24 : decode c_M_box 24 = .ok (.iload_n 2, 1) := by decide +kernel
theorem d_M_box_25 : decode c_M_box 25 = .ok (.invokevirtual 81, 3) := by decide +kernel
theorem d_M_box_28 : decode c_M_box 28 = .ok (.goto 8, 3) := by decide +kernel
theorem d_M_box_31 : decode c_M_box 31 = .ok (.aload_n 0, 1) := by decide +kernel
theorem d_M_box_32 : decode c_M_box 32 = .ok (.iconst 1, 1) := by decide +kernel
theorem d_M_box_33 : decode c_M_box 33 = .ok (.invokevirtual 43, 3) := by decide +kernel
theorem d_M_box_36 : decode c_M_box 36 = .ok (.ireturn, 1) := by decide +kernel
theorem d_M_count_0 : decode c_M_count 0 = .ok (.aload_n 0, 1) := by decide +kernel
theorem d_M_count_1 : decode c_M_count 1 = .ok (.iconst 0, 1) := by decide +kernel
theorem d_M_count_2 : decode c_M_count 2 = .ok (.putfield 29, 3) := by decide +kernel
theorem d_M_count_5 : decode c_M_count 5 = .ok (.iload_n 1, 1) := by decide +kernel
theorem d_M_count_6 : decode c_M_count 6 = .ok (.ifCond .ne 10, 3) := by decide +kernel
theorem d_M_count_9 : decode c_M_count 9 = .ok (.aload_n 0, 1) := by decide +kernel
theorem d_M_count_10 : decode c_M_count 10 = .ok (.invokevirtual 51, 3) := by decide +kernel
theorem d_M_count_13 : decode c_M_count 13 = .ok (.goto 16, 3) := by decide +kernel
theorem d_M_count_16 : decode c_M_count 16 = .ok (.iload_n 1, 1) := by decide +kernel
theorem d_M_count_17 : decode c_M_count 17 = .ok (.iconst 1, 1) := by decide +kernel
theorem d_M_count_18 : decode c_M_count 18 = .ok (.if_icmp .ne 10, 3) := by decide +kernel
theorem d_M_count_21 : decode c_M_count 21 = .ok (.aload_n 0, 1) := by decide +kernel
theorem d_M_count_22 : decode c_M_count 22 = .ok (.getfield 55, 3) := by decide +kernel
theorem d_M_count_25 : decode c_M_count 25 = .ok (.goto 4, 3) := by decide +kernel
theorem d_M_count_28 : decode c_M_count 28 = .ok (.iconst (-1), 1) := by decide +kernel
theorem d_M_count_29 : decode c_M_count 29 = .ok (.ireturn, 1) := by decide +kernel
theorem d_L_put_0 : decode c_L_put 0 = .ok (.aload 6, 2) := by decide +kernel
theorem d_L_put_2 : decode c_L_put 2 = .ok (.iconst 0, 1) := by decide +kernel
theorem d_L_put_3 : decode c_L_put 3 = .ok (.aload_n 0, 1) := by decide +kernel
theorem d_L_put_4 : decode c_L_put 4 = .ok (.iload_n 1, 1) := by decide +kernel
theorem d_L_put_5 : decode c_L_put 5 = .ok (.iload_n 2, 1) := by decide +kernel
theorem d_L_put_6 : decode c_L_put 6 = .ok (.iload_n 3, 1) := by decide +kernel
theorem d_L_put_7 : decode c_L_put 7 = .ok (.iload 4, 2) := by decide +kernel
theorem d_L_put_9 : decode c_L_put 9 = .ok (.iload 5, 2) := by decide +kernel
theorem d_L_put_11 : decode c_L_put 11 = .ok (.invokevirtual 7, 3) := by decide +kernel
theorem d_L_put_14 : decode c_L_put 14 = .ok (.ifCond .eq 7, 3) := by decide +kernel
theorem d_L_put_17 : decode c_L_put 17 = .ok (.lconst 1, 1) := by decide +kernel
theorem d_L_put_18 : decode c_L_put 18 = .ok (.goto 4, 3) := by decide +kernel
theorem d_L_put_21 : decode c_L_put 21 = .ok (.lconst 0, 1) := by decide +kernel
theorem d_L_put_22 : decode c_L_put 22 = .ok (.lastore, 1) := by decide +kernel
theorem d_L_put_23 : decode c_L_put 23 = .ok (.goto 11, 3) := by decide +kernel
theorem d_L_put_26 : decode c_L_put 26 = .ok (.astore 7, 2) := by decide +kernel
theorem d_L_put_28 : decode c_L_put 28 = .ok (.iconst 1, 1) := by decide +kernel
theorem d_L_put_29 : decode c_L_put 29 = .ok (.ireturn, 1) := by decide +kernel
theorem d_L_put_30 : decode c_L_put 30 = .ok (.astore 7, 2) := by decide +kernel
theorem d_L_put_32 : decode c_L_put 32 = .ok (.iconst 2, 1) := by decide +kernel
theorem d_L_put_33 : decode c_L_put 33 = .ok (.ireturn, 1) := by decide +kernel
theorem d_L_put_34 : decode c_L_put 34 = .ok (.iconst 0, 1) := by decide +kernel
theorem d_L_put_35 : decode c_L_put 35 = .ok (.ireturn, 1) := by decide +kernel
theorem d_L_take_0 : decode c_L_take 0 = .ok (.aload_n 2, 1) := by decide +kernel
theorem d_L_take_1 : decode c_L_take 1 = .ok (.iconst 0, 1) := by decide +kernel
theorem d_L_take_2 : decode c_L_take 2 = .ok (.aload_n 0, 1) := by decide +kernel
theorem d_L_take_3 : decode c_L_take 3 = .ok (.iload_n 1, 1) := by decide +kernel
theorem d_L_take_4 : decode c_L_take 4 = .ok (.invokevirtual 17, 3) := by decide +kernel
theorem d_L_take_7 : decode c_L_take 7 = .ok (.ifCond .eq 7, 3) := by decide +kernel
theorem d_L_take_10 : decode c_L_take 10 = .ok (.lconst 1, 1) := by decide +kernel
theorem d_L_take_11 : decode c_L_take 11 = .ok (.goto 4, 3) := by decide +kernel
theorem d_L_take_14 : decode c_L_take 14 = .ok (.lconst 0, 1) := by decide +kernel
theorem d_L_take_15 : decode c_L_take 15 = .ok (.lastore, 1) := by decide +kernel
theorem d_L_take_16 : decode c_L_take 16 = .ok (.goto 6, 3) := by decide +kernel
theorem d_L_take_19 : decode c_L_take 19 = .ok (.astore_n 3, 1) := by decide +kernel
theorem d_L_take_20 : decode c_L_take 20 = .ok (.iconst 1, 1) := by decide +kernel
theorem d_L_take_21 : decode c_L_take 21 = .ok (.ireturn, 1) := by decide +kernel
theorem d_L_take_22 : decode c_L_take 22 = .ok (.iconst 0, 1) := by decide +kernel
theorem d_L_take_23 : decode c_L_take 23 = .ok (.ireturn, 1) := by decide +kernel
theorem d_L_find_0 : decode c_L_find 0 = .ok (.aload 6, 2) := by decide +kernel
theorem d_L_find_2 : decode c_L_find 2 = .ok (.iconst 0, 1) := by decide +kernel
theorem d_L_find_3 : decode c_L_find 3 = .ok (.aload_n 0, 1) := by decide +kernel
theorem d_L_find_4 : decode c_L_find 4 = .ok (.iload_n 1, 1) := by decide +kernel
theorem d_L_find_5 : decode c_L_find 5 = .ok (.iload_n 2, 1) := by decide +kernel
theorem d_L_find_6 : decode c_L_find 6 = .ok (.iload_n 3, 1) := by decide +kernel
theorem d_L_find_7 : decode c_L_find 7 = .ok (.iload 4, 2) := by decide +kernel
theorem d_L_find_9 : decode c_L_find 9 = .ok (.iload 5, 2) := by decide +kernel
theorem d_L_find_11 : decode c_L_find 11 = .ok (.invokevirtual 21, 3) := by decide +kernel
theorem d_L_find_14 : decode c_L_find 14 = .ok (.i2l, 1) := by decide +kernel
theorem d_L_find_15 : decode c_L_find 15 = .ok (.lastore, 1) := by decide +kernel
theorem d_L_find_16 : decode c_L_find 16 = .ok (.goto 7, 3) := by decide +kernel
theorem d_L_find_19 : decode c_L_find 19 = .ok (.astore 7, 2) := by decide +kernel
theorem d_L_find_21 : decode c_L_find 21 = .ok (.iconst 1, 1) := by decide +kernel
theorem d_L_find_22 : decode c_L_find 22 = .ok (.ireturn, 1) := by decide +kernel
theorem d_L_find_23 : decode c_L_find 23 = .ok (.iconst 0, 1) := by decide +kernel
theorem d_L_find_24 : decode c_L_find 24 = .ok (.ireturn, 1) := by decide +kernel
theorem d_L_nearest_0 : decode c_L_nearest 0 = .ok (.aload 4, 2) := by decide +kernel
theorem d_L_nearest_2 : decode c_L_nearest 2 = .ok (.iconst 0, 1) := by decide +kernel
theorem d_L_nearest_3 : decode c_L_nearest 3 = .ok (.aload_n 0, 1) := by decide +kernel
theorem d_L_nearest_4 : decode c_L_nearest 4 = .ok (.iload_n 1, 1) := by decide +kernel
theorem d_L_nearest_5 : decode c_L_nearest 5 = .ok (.iload_n 2, 1) := by decide +kernel
theorem d_L_nearest_6 : decode c_L_nearest 6 = .ok (.iload_n 3, 1) := by decide +kernel
theorem d_L_nearest_7 : decode c_L_nearest 7 = .ok (.invokevirtual 25, 3) := by decide +kernel
theorem d_L_nearest_10 : decode c_L_nearest 10 = .ok (.i2l, 1) := by decide +kernel
theorem d_L_nearest_11 : decode c_L_nearest 11 = .ok (.lastore, 1) := by decide +kernel
theorem d_L_nearest_12 : decode c_L_nearest 12 = .ok (.goto 7, 3) := by decide +kernel
theorem d_L_nearest_15 : decode c_L_nearest 15 = .ok (.astore 5, 2) := by decide +kernel
theorem d_L_nearest_17 : decode c_L_nearest 17 = .ok (.iconst 1, 1) := by decide +kernel
theorem d_L_nearest_18 : decode c_L_nearest 18 = .ok (.ireturn, 1) := by decide +kernel
theorem d_L_nearest_19 : decode c_L_nearest 19 = .ok (.iconst 0, 1) := by decide +kernel
theorem d_L_nearest_20 : decode c_L_nearest 20 = .ok (.ireturn, 1) := by decide +kernel
theorem d_L_distance_0 : decode c_L_distance 0 = .ok (.aload 4, 2) := by decide +kernel
theorem d_L_distance_2 : decode c_L_distance 2 = .ok (.iconst 0, 1) := by decide +kernel
theorem d_L_distance_3 : decode c_L_distance 3 = .ok (.aload_n 0, 1) := by decide +kernel
theorem d_L_distance_4 : decode c_L_distance 4 = .ok (.iload_n 1, 1) := by decide +kernel
theorem d_L_distance_5 : decode c_L_distance 5 = .ok (.iload_n 2, 1) := by decide +kernel
theorem d_L_distance_6 : decode c_L_distance 6 = .ok (.iload_n 3, 1) := by decide +kernel
theorem d_L_distance_7 : decode c_L_distance 7 = .ok (.invokevirtual 29, 3) := by decide +kernel
theorem d_L_distance_10 : decode c_L_distance 10 = .ok (.lastore, 1) := by decide +kernel
theorem d_L_distance_11 : decode c_L_distance 11 = .ok (.goto 11, 3) := by decide +kernel
theorem d_L_distance_14 : decode c_L_distance 14 = .ok (.astore 5, 2) := by decide +kernel
theorem d_L_distance_16 : decode c_L_distance 16 = .ok (.iconst 1, 1) := by decide +kernel
theorem d_L_distance_17 : decode c_L_distance 17 = .ok (.ireturn, 1) := by decide +kernel
theorem d_L_distance_18 : decode c_L_distance 18 = .ok (.astore 5, 2) := by decide +kernel
theorem d_L_distance_20 : decode c_L_distance 20 = .ok (.iconst 2, 1) := by decide +kernel
theorem d_L_distance_21 : decode c_L_distance 21 = .ok (.ireturn, 1) := by decide +kernel
theorem d_L_distance_22 : decode c_L_distance 22 = .ok (.iconst 0, 1) := by decide +kernel
theorem d_L_distance_23 : decode c_L_distance 23 = .ok (.ireturn, 1) := by decide +kernel
theorem d_L_bounds_0 : decode c_L_bounds 0 = .ok (.aload_n 2, 1) := by decide +kernel
theorem d_L_bounds_1 : decode c_L_bounds 1 = .ok (.iconst 0, 1) := by decide +kernel
theorem d_L_bounds_2 : decode c_L_bounds 2 = .ok (.aload_n 0, 1) := by decide +kernel
theorem d_L_bounds_3 : decode c_L_bounds 3 = .ok (.iload_n 1, 1) := by decide +kernel
theorem d_L_bounds_4 : decode c_L_bounds 4 = .ok (.invokevirtual 33, 3) := by decide +kernel
theorem d_L_bounds_7 : decode c_L_bounds 7 = .ok (.i2l, 1) := by decide +kernel
theorem d_L_bounds_8 : decode c_L_bounds 8 = .ok (.lastore, 1) := by decide +kernel
theorem d_L_bounds_9 : decode c_L_bounds 9 = .ok (.goto 9, 3) := by decide +kernel
theorem d_L_bounds_12 : decode c_L_bounds 12 = .ok (.astore_n 3, 1) := by decide +kernel
theorem d_L_bounds_13 : decode c_L_bounds 13 = .ok (.iconst 1, 1) := by decide +kernel
theorem d_L_bounds_14 : decode c_L_bounds 14 = .ok (.ireturn, 1) := by decide +kernel
theorem d_L_bounds_15 : decode c_L_bounds 15 = .ok (.astore_n 3, 1) := by decide +kernel
theorem d_L_bounds_16 : decode c_L_bounds 16 = .ok (.iconst 2, 1) := by decide +kernel
theorem d_L_bounds_17 : decode c_L_bounds 17 = .ok (.ireturn, 1) := by decide +kernel
theorem d_L_bounds_18 : decode c_L_bounds 18 = .ok (.iconst 0, 1) := by decide +kernel
theorem d_L_bounds_19 : decode c_L_bounds 19 = .ok (.ireturn, 1) := by decide +kernel
theorem d_L_result_0 : decode c_L_result 0 = .ok (.aload_n 2, 1) := by decide +kernel
theorem d_L_result_1 : decode c_L_result 1 = .ok (.iconst 0, 1) := by decide +kernel
theorem d_L_result_2 : decode c_L_result 2 = .ok (.aload_n 0, 1) := by decide +kernel
theorem d_L_result_3 : decode c_L_result 3 = .ok (.iload_n 1, 1) := by decide +kernel
theorem d_L_result_4 : decode c_L_result 4 = .ok (.invokevirtual 39, 3) := by decide +kernel
theorem d_L_result_7 : decode c_L_result 7 = .ok (.i2l, 1) := by decide +kernel
theorem d_L_result_8 : decode c_L_result 8 = .ok (.lastore, 1) := by decide +kernel
theorem d_L_result_9 : decode c_L_result 9 = .ok (.goto 6, 3) := by decide +kernel
theorem d_L_result_12 : decode c_L_result 12 = .ok (.astore_n 3, 1) := by decide +kernel
theorem d_L_result_13 : decode c_L_result 13 = .ok (.iconst 1, 1) := by decide +kernel
theorem d_L_result_14 : decode c_L_result 14 = .ok (.ireturn, 1) := by decide +kernel
theorem d_L_result_15 : decode c_L_result 15 = .ok (.iconst 0, 1) := by decide +kernel
theorem d_L_result_16 : decode c_L_result 16 = .ok (.ireturn, 1) := by decide +kernel
theorem d_L_box_0 : decode c_L_box 0 = .ok (.aload_n 3, 1) := by decide +kernel
theorem d_L_box_1 : decode c_L_box 1 = .ok (.iconst 0, 1) := by decide +kernel
theorem d_L_box_2 : decode c_L_box 2 = .ok (.aload_n 0, 1) := by decide +kernel
theorem d_L_box_3 : decode c_L_box 3 = .ok (.iload_n 1, 1) := by decide +kernel
theorem d_L_box_4 : decode c_L_box 4 = .ok (.iload_n 2, 1) := by decide +kernel
theorem d_L_box_5 : decode c_L_box 5 = .ok (.invokevirtual 42, 3) := by decide +kernel
theorem d_L_box_8 : decode c_L_box 8 = .ok (.i2l, 1) := by decide +kernel
theorem d_L_box_9 : decode c_L_box 9 = .ok (.lastore, 1) := by decide +kernel
theorem d_L_box_10 : decode c_L_box 10 = .ok (.goto 7, 3) := by decide +kernel
theorem d_L_box_13 : decode c_L_box 13 = .ok (.astore 4, 2) := by decide +kernel
theorem d_L_box_15 : decode c_L_box 15 = .ok (.iconst 1, 1) := by decide +kernel
theorem d_L_box_16 : decode c_L_box 16 = .ok (.ireturn, 1) := by decide +kernel
theorem d_L_box_17 : decode c_L_box 17 = .ok (.iconst 0, 1) := by decide +kernel
theorem d_L_box_18 : decode c_L_box 18 = .ok (.ireturn, 1) := by decide +kernel
