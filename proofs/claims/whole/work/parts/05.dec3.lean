/-! decode rows, by program -/
theorem d_B_requireBounds_0 : decode c_B_requireBounds 0 = .ok (.iload_n 0, 1) := by decide +kernel
theorem d_B_requireBounds_1 : decode c_B_requireBounds 1 = .ok (.iload_n 1, 1) := by decide +kernel
theorem d_B_requireBounds_2 : decode c_B_requireBounds 2 = .ok (.invokestatic 90, 3) := by decide +kernel
theorem d_B_requireBounds_5 : decode c_B_requireBounds 5 = .ok (.iload_n 2, 1) := by decide +kernel
theorem d_B_requireBounds_6 : decode c_B_requireBounds 6 = .ok (.iload_n 3, 1) := by decide +kernel
theorem d_B_requireBounds_7 : decode c_B_requireBounds 7 = .ok (.invokestatic 90, 3) := by decide +kernel
theorem d_B_requireBounds_10 : decode c_B_requireBounds 10 = .ok (.iload_n 2, 1) := by decide +kernel
theorem d_B_requireBounds_11 : decode c_B_requireBounds 11 = .ok (.iload_n 0, 1) := by decide +kernel
theorem d_B_requireBounds_12 : decode c_B_requireBounds 12 = .ok (.if_icmp .lt 8, 3) := by decide +kernel
theorem d_B_requireBounds_15 : decode c_B_requireBounds 15 = .ok (.iload_n 3, 1) := by decide +kernel
theorem d_B_requireBounds_16 : decode c_B_requireBounds 16 = .ok (.iload_n 1, 1) := by decide +kernel
theorem d_B_requireBounds_17 : decode c_B_requireBounds 17 = .ok (.if_icmp .ge 13, 3) := by decide +kernel
theorem d_B_requireBounds_20 : decode c_B_requireBounds 20 = .ok (.new 68, 3) := by decide +kernel
theorem d_B_requireBounds_23 : decode c_B_requireBounds 23 = .ok (.dup, 1) := by decide +kernel
theorem d_B_requireBounds_24 : decode c_B_requireBounds 24 = .ok (.ldc 151, 2) := by decide +kernel
theorem d_B_requireBounds_26 : decode c_B_requireBounds 26 = .ok (.invokespecial 72, 3) := by decide +kernel
theorem d_B_requireBounds_29 : decode c_B_requireBounds 29 = .ok (.athrow, 1) := by decide +kernel
theorem d_B_requireBounds_30 : decode c_B_requireBounds 30 = .ok (.return_, 1) := by decide +kernel
theorem d_B_requirePlace_0 : decode c_B_requirePlace 0 = .ok (.iload_n 0, 1) := by decide +kernel
theorem d_B_requirePlace_1 : decode c_B_requirePlace 1 = .ok (.ldc 153, 2) := by decide +kernel
theorem d_B_requirePlace_3 : decode c_B_requirePlace 3 = .ok (.if_icmp .lt 21, 3) := by decide +kernel
theorem d_B_requirePlace_6 : decode c_B_requirePlace 6 = .ok (.iload_n 0, 1) := by decide +kernel
theorem d_B_requirePlace_7 : decode c_B_requirePlace 7 = .ok (.ldc 154, 2) := by decide +kernel
theorem d_B_requirePlace_9 : decode c_B_requirePlace 9 = .ok (.if_icmp .gt 15, 3) := by decide +kernel
theorem d_B_requirePlace_12 : decode c_B_requirePlace 12 = .ok (.iload_n 1, 1) := by decide +kernel
theorem d_B_requirePlace_13 : decode c_B_requirePlace 13 = .ok (.ldc 153, 2) := by decide +kernel
theorem d_B_requirePlace_15 : decode c_B_requirePlace 15 = .ok (.if_icmp .lt 9, 3) := by decide +kernel
theorem d_B_requirePlace_18 : decode c_B_requirePlace 18 = .ok (.iload_n 1, 1) := by decide +kernel
theorem d_B_requirePlace_19 : decode c_B_requirePlace 19 = .ok (.ldc 154, 2) := by decide +kernel
theorem d_B_requirePlace_21 : decode c_B_requirePlace 21 = .ok (.if_icmp .le 13, 3) := by decide +kernel
theorem d_B_requirePlace_24 : decode c_B_requirePlace 24 = .ok (.new 68, 3) := by decide +kernel
theorem d_B_requirePlace_27 : decode c_B_requirePlace 27 = .ok (.dup, 1) := by decide +kernel
theorem d_B_requirePlace_28 : decode c_B_requirePlace 28 = .ok (.ldc 155, 2) := by decide +kernel
theorem d_B_requirePlace_30 : decode c_B_requirePlace 30 = .ok (.invokespecial 72, 3) := by decide +kernel
theorem d_B_requirePlace_33 : decode c_B_requirePlace 33 = .ok (.athrow, 1) := by decide +kernel
theorem d_B_requirePlace_34 : decode c_B_requirePlace 34 = .ok (.return_, 1) := by decide +kernel
theorem d_B_indexFor_0 : decode c_B_indexFor 0 = .ok (.iconst 0, 1) := by decide +kernel
theorem d_B_indexFor_1 : decode c_B_indexFor 1 = .ok (.istore_n 2, 1) := by decide +kernel
theorem d_B_indexFor_2 : decode c_B_indexFor 2 = .ok (.aload_n 0, 1) := by decide +kernel
theorem d_B_indexFor_3 : decode c_B_indexFor 3 = .ok (.getfield 10, 3) := by decide +kernel
theorem d_B_indexFor_6 : decode c_B_indexFor 6 = .ok (.invokevirtual 61, 3) := by decide +kernel
theorem d_B_indexFor_9 : decode c_B_indexFor 9 = .ok (.istore_n 3, 1) := by decide +kernel
theorem d_B_indexFor_10 : decode c_B_indexFor 10 = .ok (.iload_n 2, 1) := by decide +kernel
theorem d_B_indexFor_11 : decode c_B_indexFor 11 = .ok (.iload_n 3, 1) := by decide +kernel
theorem d_B_indexFor_12 : decode c_B_indexFor 12 = .ok (.if_icmp .ge 43, 3) := by decide +kernel
theorem d_B_indexFor_15 : decode c_B_indexFor 15 = .ok (.iload_n 2, 1) := by decide +kernel
theorem d_B_indexFor_16 : decode c_B_indexFor 16 = .ok (.iload_n 3, 1) := by decide +kernel
theorem d_B_indexFor_17 : decode c_B_indexFor 17 = .ok (.iadd, 1) := by decide +kernel
theorem d_B_indexFor_18 : decode c_B_indexFor 18 = .ok (.iconst 1, 1) := by decide +kernel
theorem d_B_indexFor_19 : decode c_B_indexFor 19 = .ok (.iushr, 1) := by decide +kernel
theorem d_B_indexFor_20 : decode c_B_indexFor 20 = .ok (.istore 4, 2) := by decide +kernel
theorem d_B_indexFor_22 : decode c_B_indexFor 22 = .ok (.aload_n 0, 1) := by decide +kernel
theorem d_B_indexFor_23 : decode c_B_indexFor 23 = .ok (.getfield 10, 3) := by decide +kernel
theorem d_B_indexFor_26 : decode c_B_indexFor 26 = .ok (.iload 4, 2) := by decide +kernel
theorem d_B_indexFor_28 : decode c_B_indexFor 28 = .ok (.invokevirtual 75, 3) := by decide +kernel
theorem d_B_indexFor_31 : decode c_B_indexFor 31 = .ok (.checkcast 36, 3) := by decide +kernel
theorem d_B_indexFor_34 : decode c_B_indexFor 34 = .ok (.getfield 82, 3) := by decide +kernel
theorem d_B_indexFor_37 : decode c_B_indexFor 37 = .ok (.iload_n 1, 1) := by decide +kernel
theorem d_B_indexFor_38 : decode c_B_indexFor 38 = .ok (.if_icmp .ge 11, 3) := by decide +kernel
theorem d_B_indexFor_41 : decode c_B_indexFor 41 = .ok (.iload 4, 2) := by decide +kernel
theorem d_B_indexFor_43 : decode c_B_indexFor 43 = .ok (.iconst 1, 1) := by decide +kernel
theorem d_B_indexFor_44 : decode c_B_indexFor 44 = .ok (.iadd, 1) := by decide +kernel
theorem d_B_indexFor_45 : decode c_B_indexFor 45 = .ok (.istore_n 2, 1) := by decide +kernel
theorem d_B_indexFor_46 : decode c_B_indexFor 46 = .ok (.goto 6, 3) := by decide +kernel
theorem d_B_indexFor_49 : decode c_B_indexFor 49 = .ok (.iload 4, 2) := by decide +kernel
theorem d_B_indexFor_51 : decode c_B_indexFor 51 = .ok (.istore_n 3, 1) := by decide +kernel
theorem d_B_indexFor_52 : decode c_B_indexFor 52 = .ok (.goto (-42), 3) := by decide +kernel
theorem d_B_indexFor_55 : decode c_B_indexFor 55 = .ok (.iload_n 2, 1) := by decide +kernel
theorem d_B_indexFor_56 : decode c_B_indexFor 56 = .ok (.ireturn, 1) := by decide +kernel
theorem d_B_isAt_0 : decode c_B_isAt 0 = .ok (.iload_n 1, 1) := by decide +kernel
theorem d_B_isAt_1 : decode c_B_isAt 1 = .ok (.ifCond .lt 36, 3) := by decide +kernel
theorem d_B_isAt_4 : decode c_B_isAt 4 = .ok (.iload_n 1, 1) := by decide +kernel
theorem d_B_isAt_5 : decode c_B_isAt 5 = .ok (.aload_n 0, 1) := by decide +kernel
theorem d_B_isAt_6 : decode c_B_isAt 6 = .ok (.getfield 10, 3) := by decide +kernel
theorem d_B_isAt_9 : decode c_B_isAt 9 = .ok (.invokevirtual 61, 3) := by decide +kernel
theorem d_B_isAt_12 : decode c_B_isAt 12 = .ok (.if_icmp .ge 25, 3) := by decide +kernel
theorem d_B_isAt_15 : decode c_B_isAt 15 = .ok (.aload_n 0, 1) := by decide +kernel
theorem d_B_isAt_16 : decode c_B_isAt 16 = .ok (.getfield 10, 3) := by decide +kernel
theorem d_B_isAt_19 : decode c_B_isAt 19 = .ok (.iload_n 1, 1) := by decide +kernel
theorem d_B_isAt_20 : decode c_B_isAt 20 = .ok (.invokevirtual 75, 3) := by decide +kernel
theorem d_B_isAt_23 : decode c_B_isAt 23 = .ok (.checkcast 36, 3) := by decide +kernel
theorem d_B_isAt_26 : decode c_B_isAt 26 = .ok (.getfield 82, 3) := by decide +kernel
theorem d_B_isAt_29 : decode c_B_isAt 29 = .ok (.iload_n 2, 1) := by decide +kernel
theorem d_B_isAt_30 : decode c_B_isAt 30 = .ok (.if_icmp .ne 7, 3) := by decide +kernel
theorem d_B_isAt_33 : decode c_B_isAt 33 = .ok (.iconst 1, 1) := by decide +kernel
theorem d_B_isAt_34 : decode c_B_isAt 34 = .ok (.goto 4, 3) := by decide +kernel
theorem d_B_isAt_37 : decode c_B_isAt 37 = .ok (.iconst 0, 1) := by decide +kernel
theorem d_B_isAt_38 : decode c_B_isAt 38 = .ok (.ireturn, 1) := by decide +kernel
theorem d_B_take_0 : decode c_B_take 0 = .ok (.iload_n 1, 1) := by decide +kernel
theorem d_B_take_1 : decode c_B_take 1 = .ok (.invokestatic 28, 3) := by decide +kernel
theorem d_B_take_4 : decode c_B_take 4 = .ok (.aload_n 0, 1) := by decide +kernel
theorem d_B_take_5 : decode c_B_take 5 = .ok (.iload_n 1, 1) := by decide +kernel
theorem d_B_take_6 : decode c_B_take 6 = .ok (.invokevirtual 41, 3) := by decide +kernel
theorem d_B_take_9 : decode c_B_take 9 = .ok (.istore_n 2, 1) := by decide +kernel
theorem d_B_take_10 : decode c_B_take 10 = .ok (.aload_n 0, 1) := by decide +kernel
theorem d_B_take_11 : decode c_B_take 11 = .ok (.iload_n 2, 1) := by decide +kernel
theorem d_B_take_12 : decode c_B_take 12 = .ok (.iload_n 1, 1) := by decide +kernel
theorem d_B_take_13 : decode c_B_take 13 = .ok (.invokevirtual 45, 3) := by decide +kernel
theorem d_B_take_16 : decode c_B_take 16 = .ok (.ifCond .ne 5, 3) := by decide +kernel
theorem d_B_take_19 : decode c_B_take 19 = .ok (.iconst 0, 1) := by decide +kernel
theorem d_B_take_20 : decode c_B_take 20 = .ok (.ireturn, 1) := by decide +kernel
theorem d_B_take_21 : decode c_B_take 21 = .ok (.aload_n 0, 1) := by decide +kernel
theorem d_B_take_22 : decode c_B_take 22 = .ok (.getfield 10, 3) := by decide +kernel
theorem d_B_take_25 : decode c_B_take 25 = .ok (.iload_n 2, 1) := by decide +kernel
theorem d_B_take_26 : decode c_B_take 26 = .ok (.invokevirtual 57, 3) := by decide +kernel
theorem d_B_take_29 : decode c_B_take 29 = .ok (.pop, 1) := by decide +kernel
theorem d_B_take_30 : decode c_B_take 30 = .ok (.iconst 1, 1) := by decide +kernel
theorem d_B_take_31 : decode c_B_take 31 = .ok (.ireturn, 1) := by decide +kernel
theorem d_B_find_0 : decode c_B_find 0 = .ok (.iload_n 2, 1) := by decide +kernel
theorem d_B_find_1 : decode c_B_find 1 = .ok (.iload_n 3, 1) := by decide +kernel
theorem d_B_find_2 : decode c_B_find 2 = .ok (.iload 4, 2) := by decide +kernel
theorem d_B_find_4 : decode c_B_find 4 = .ok (.iload 5, 2) := by decide +kernel
theorem d_B_find_6 : decode c_B_find 6 = .ok (.invokestatic 32, 3) := by decide +kernel
theorem d_B_find_9 : decode c_B_find 9 = .ok (.iload_n 1, 1) := by decide +kernel
theorem d_B_find_10 : decode c_B_find 10 = .ok (.ifCond .lt 8, 3) := by decide +kernel
theorem d_B_find_13 : decode c_B_find 13 = .ok (.iload_n 1, 1) := by decide +kernel
theorem d_B_find_14 : decode c_B_find 14 = .ok (.iconst 2, 1) := by decide +kernel
theorem d_B_find_15 : decode c_B_find 15 = .ok (.if_icmp .le 13, 3) := by decide +kernel
theorem d_B_find_18 : decode c_B_find 18 = .ok (.new 68, 3) := by decide +kernel
theorem d_B_find_21 : decode c_B_find 21 = .ok (.dup, 1) := by decide +kernel
theorem d_B_find_22 : decode c_B_find 22 = .ok (.ldc 70, 2) := by decide +kernel
theorem d_B_find_24 : decode c_B_find 24 = .ok (.invokespecial 72, 3) := by decide +kernel
theorem d_B_find_27 : decode c_B_find 27 = .ok (.athrow, 1) := by decide +kernel
theorem d_B_find_28 : decode c_B_find 28 = .ok (.new 36, 3) := by decide +kernel
theorem d_B_find_31 : decode c_B_find 31 = .ok (.dup, 1) := by decide +kernel
theorem d_B_find_32 : decode c_B_find 32 = .ok (.iconst (-1), 1) := by decide +kernel
theorem d_B_find_33 : decode c_B_find 33 = .ok (.iload_n 2, 1) := by decide +kernel
theorem d_B_find_34 : decode c_B_find 34 = .ok (.iload_n 3, 1) := by decide +kernel
theorem d_B_find_35 : decode c_B_find 35 = .ok (.iload 4, 2) := by decide +kernel
theorem d_B_find_37 : decode c_B_find 37 = .ok (.iload 5, 2) := by decide +kernel
theorem d_B_find_39 : decode c_B_find 39 = .ok (.invokespecial 38, 3) := by decide +kernel
theorem d_B_find_42 : decode c_B_find 42 = .ok (.astore 6, 2) := by decide +kernel
theorem d_B_find_44 : decode c_B_find 44 = .ok (.aload_n 0, 1) := by decide +kernel
theorem d_B_find_45 : decode c_B_find 45 = .ok (.iconst 0, 1) := by decide +kernel
theorem d_B_find_46 : decode c_B_find 46 = .ok (.putfield 20, 3) := by decide +kernel
theorem d_B_find_49 : decode c_B_find 49 = .ok (.iconst 0, 1) := by decide +kernel
theorem d_B_find_50 : decode c_B_find 50 = .ok (.istore 7, 2) := by decide +kernel
theorem d_B_find_52 : decode c_B_find 52 = .ok (.iload 7, 2) := by decide +kernel
theorem d_B_find_54 : decode c_B_find 54 = .ok (.aload_n 0, 1) := by decide +kernel
theorem d_B_find_55 : decode c_B_find 55 = .ok (.getfield 10, 3) := by decide +kernel
theorem d_B_find_58 : decode c_B_find 58 = .ok (.invokevirtual 61, 3) := by decide +kernel
theorem d_B_find_61 : decode c_B_find 61 = .ok (.if_icmp .ge 43, 3) := by decide +kernel
theorem d_B_find_64 : decode c_B_find 64 = .ok (.aload_n 0, 1) := by decide +kernel
theorem d_B_find_65 : decode c_B_find 65 = .ok (.getfield 10, 3) := by decide +kernel
theorem d_B_find_68 : decode c_B_find 68 = .ok (.iload 7, 2) := by decide +kernel
theorem d_B_find_70 : decode c_B_find 70 = .ok (.invokevirtual 75, 3) := by decide +kernel
theorem d_B_find_73 : decode c_B_find 73 = .ok (.checkcast 36, 3) := by decide +kernel
theorem d_B_find_76 : decode c_B_find 76 = .ok (.astore 8, 2) := by decide +kernel
theorem d_B_find_78 : decode c_B_find 78 = .ok (.iload_n 1, 1) := by decide +kernel
theorem d_B_find_79 : decode c_B_find 79 = .ok (.aload 8, 2) := by decide +kernel
theorem d_B_find_81 : decode c_B_find 81 = .ok (.aload 6, 2) := by decide +kernel
theorem d_B_find_83 : decode c_B_find 83 = .ok (.invokestatic 78, 3) := by decide +kernel
theorem d_B_find_86 : decode c_B_find 86 = .ok (.ifCond .eq 12, 3) := by decide +kernel
theorem d_B_find_89 : decode c_B_find 89 = .ok (.aload_n 0, 1) := by decide +kernel
theorem d_B_find_90 : decode c_B_find 90 = .ok (.aload 8, 2) := by decide +kernel
theorem d_B_find_92 : decode c_B_find 92 = .ok (.getfield 82, 3) := by decide +kernel
theorem d_B_find_95 : decode c_B_find 95 = .ok (.invokevirtual 85, 3) := by decide +kernel
theorem d_B_find_98 : decode c_B_find 98 = .ok (.iinc 7 1, 3) := by decide +kernel
theorem d_B_find_101 : decode c_B_find 101 = .ok (.goto (-49), 3) := by decide +kernel
theorem d_B_find_104 : decode c_B_find 104 = .ok (.aload_n 0, 1) := by decide +kernel
theorem d_B_find_105 : decode c_B_find 105 = .ok (.getfield 20, 3) := by decide +kernel
theorem d_B_find_108 : decode c_B_find 108 = .ok (.ireturn, 1) := by decide +kernel
theorem d_B_fits_0 : decode c_B_fits 0 = .ok (.iload_n 0, 1) := by decide +kernel
theorem d_B_fits_1 : decode c_B_fits 1 = .ok (.lookupswitch 39 #[(0, 27), (1, 33)], 27) := by decide +kernel
theorem d_B_fits_28 : decode c_B_fits 28 = .ok (.aload_n 1, 1) := by decide +kernel
theorem d_B_fits_29 : decode c_B_fits 29 = .ok (.aload_n 2, 1) := by decide +kernel
theorem d_B_fits_30 : decode c_B_fits 30 = .ok (.invokevirtual 114, 3) := by decide +kernel
theorem d_B_fits_33 : decode c_B_fits 33 = .ok (.ireturn, 1) := by decide +kernel
theorem d_B_fits_34 : decode c_B_fits 34 = .ok (.aload_n 1, 1) := by decide +kernel
theorem d_B_fits_35 : decode c_B_fits 35 = .ok (.aload_n 2, 1) := by decide +kernel
theorem d_B_fits_36 : decode c_B_fits 36 = .ok (.invokevirtual 161, 3) := by decide +kernel
theorem d_B_fits_39 : decode c_B_fits 39 = .ok (.ireturn, 1) := by decide +kernel
theorem d_B_fits_40 : decode c_B_fits 40 = .ok (.aload_n 2, 1) := by decide +kernel
theorem d_B_fits_41 : decode c_B_fits 41 = .ok (.aload_n 1, 1) := by decide +kernel
theorem d_B_fits_42 : decode c_B_fits 42 = .ok (.invokevirtual 161, 3) := by decide +kernel
theorem d_B_fits_45 : decode c_B_fits 45 = .ok (.ireturn, 1) := by decide +kernel
theorem d_B_nearest_0 : decode c_B_nearest 0 = .ok (.iload_n 3, 1) := by decide +kernel
theorem d_B_nearest_1 : decode c_B_nearest 1 = .ok (.iconst 1, 1) := by decide +kernel
theorem d_B_nearest_2 : decode c_B_nearest 2 = .ok (.if_icmp .lt 10, 3) := by decide +kernel
theorem d_B_nearest_5 : decode c_B_nearest 5 = .ok (.iload_n 3, 1) := by decide +kernel
theorem d_B_nearest_6 : decode c_B_nearest 6 = .ok (.sipush 4096, 3) := by decide +kernel
theorem d_B_nearest_9 : decode c_B_nearest 9 = .ok (.if_icmp .le 13, 3) := by decide +kernel
theorem d_B_nearest_12 : decode c_B_nearest 12 = .ok (.new 68, 3) := by decide +kernel
theorem d_B_nearest_15 : decode c_B_nearest 15 = .ok (.dup, 1) := by decide +kernel
theorem d_B_nearest_16 : decode c_B_nearest 16 = .ok (.ldc 88, 2) := by decide +kernel
theorem d_B_nearest_18 : decode c_B_nearest 18 = .ok (.invokespecial 72, 3) := by decide +kernel
theorem d_B_nearest_21 : decode c_B_nearest 21 = .ok (.athrow, 1) := by decide +kernel
theorem d_B_nearest_22 : decode c_B_nearest 22 = .ok (.iload_n 1, 1) := by decide +kernel
theorem d_B_nearest_23 : decode c_B_nearest 23 = .ok (.iload_n 2, 1) := by decide +kernel
theorem d_B_nearest_24 : decode c_B_nearest 24 = .ok (.invokestatic 90, 3) := by decide +kernel
theorem d_B_nearest_27 : decode c_B_nearest 27 = .ok (.iload_n 3, 1) := by decide +kernel
theorem d_B_nearest_28 : decode c_B_nearest 28 = .ok (.aload_n 0, 1) := by decide +kernel
theorem d_B_nearest_29 : decode c_B_nearest 29 = .ok (.getfield 10, 3) := by decide +kernel
theorem d_B_nearest_32 : decode c_B_nearest 32 = .ok (.invokevirtual 61, 3) := by decide +kernel
theorem d_B_nearest_35 : decode c_B_nearest 35 = .ok (.invokestatic 94, 3) := by decide +kernel
theorem d_B_nearest_38 : decode c_B_nearest 38 = .ok (.istore 4, 2) := by decide +kernel
theorem d_B_nearest_40 : decode c_B_nearest 40 = .ok (.aload_n 0, 1) := by decide +kernel
theorem d_B_nearest_41 : decode c_B_nearest 41 = .ok (.iconst 0, 1) := by decide +kernel
theorem d_B_nearest_42 : decode c_B_nearest 42 = .ok (.putfield 20, 3) := by decide +kernel
theorem d_B_nearest_45 : decode c_B_nearest 45 = .ok (.aload_n 0, 1) := by decide +kernel
theorem d_B_nearest_46 : decode c_B_nearest 46 = .ok (.iload 4, 2) := by decide +kernel
theorem d_B_nearest_48 : decode c_B_nearest 48 = .ok (.invokevirtual 100, 3) := by decide +kernel
theorem d_B_nearest_51 : decode c_B_nearest 51 = .ok (.aload_n 0, 1) := by decide +kernel
theorem d_B_nearest_52 : decode c_B_nearest 52 = .ok (.invokevirtual 103, 3) := by decide +kernel
theorem d_B_nearest_55 : decode c_B_nearest 55 = .ok (.iconst 0, 1) := by decide +kernel
theorem d_B_nearest_56 : decode c_B_nearest 56 = .ok (.istore 5, 2) := by decide +kernel
theorem d_B_nearest_58 : decode c_B_nearest 58 = .ok (.iload 5, 2) := by decide +kernel
theorem d_B_nearest_60 : decode c_B_nearest 60 = .ok (.aload_n 0, 1) := by decide +kernel
theorem d_B_nearest_61 : decode c_B_nearest 61 = .ok (.getfield 10, 3) := by decide +kernel
theorem d_B_nearest_64 : decode c_B_nearest 64 = .ok (.invokevirtual 61, 3) := by decide +kernel
theorem d_B_nearest_67 : decode c_B_nearest 67 = .ok (.if_icmp .ge 41, 3) := by decide +kernel
theorem d_B_nearest_70 : decode c_B_nearest 70 = .ok (.aload_n 0, 1) := by decide +kernel
theorem d_B_nearest_71 : decode c_B_nearest 71 = .ok (.getfield 10, 3) := by decide +kernel
theorem d_B_nearest_74 : decode c_B_nearest 74 = .ok (.iload 5, 2) := by decide +kernel
theorem d_B_nearest_76 : decode c_B_nearest 76 = .ok (.invokevirtual 75, 3) := by decide +kernel
theorem d_B_nearest_79 : decode c_B_nearest 79 = .ok (.checkcast 36, 3) := by decide +kernel
theorem d_B_nearest_82 : decode c_B_nearest 82 = .ok (.astore 6, 2) := by decide +kernel
theorem d_B_nearest_84 : decode c_B_nearest 84 = .ok (.aload_n 0, 1) := by decide +kernel
theorem d_B_nearest_85 : decode c_B_nearest 85 = .ok (.aload 6, 2) := by decide +kernel
theorem d_B_nearest_87 : decode c_B_nearest 87 = .ok (.getfield 82, 3) := by decide +kernel
theorem d_B_nearest_90 : decode c_B_nearest 90 = .ok (.aload 6, 2) := by decide +kernel
theorem d_B_nearest_92 : decode c_B_nearest 92 = .ok (.iload_n 1, 1) := by decide +kernel
theorem d_B_nearest_93 : decode c_B_nearest 93 = .ok (.iload_n 2, 1) := by decide +kernel
theorem d_B_nearest_94 : decode c_B_nearest 94 = .ok (.invokevirtual 106, 3) := by decide +kernel
theorem d_B_nearest_97 : decode c_B_nearest 97 = .ok (.iload 4, 2) := by decide +kernel
theorem d_B_nearest_99 : decode c_B_nearest 99 = .ok (.invokevirtual 110, 3) := by decide +kernel
theorem d_B_nearest_102 : decode c_B_nearest 102 = .ok (.iinc 5 1, 3) := by decide +kernel
theorem d_B_nearest_105 : decode c_B_nearest 105 = .ok (.goto (-47), 3) := by decide +kernel
theorem d_B_nearest_108 : decode c_B_nearest 108 = .ok (.aload_n 0, 1) := by decide +kernel
theorem d_B_nearest_109 : decode c_B_nearest 109 = .ok (.getfield 20, 3) := by decide +kernel
theorem d_B_nearest_112 : decode c_B_nearest 112 = .ok (.ireturn, 1) := by decide +kernel
theorem d_B_makeRoomForDistances_0 : decode c_B_makeRoomForDistances 0 = .ok (.aload_n 0, 1) := by decide +kernel
theorem d_B_makeRoomForDistances_1 : decode c_B_makeRoomForDistances 1 = .ok (.getfield 24, 3) := by decide +kernel
theorem d_B_makeRoomForDistances_4 : decode c_B_makeRoomForDistances 4 = .ok (.arraylength, 1) := by decide +kernel
theorem d_B_makeRoomForDistances_5 : decode c_B_makeRoomForDistances 5 = .ok (.aload_n 0, 1) := by decide +kernel
theorem d_B_makeRoomForDistances_6 : decode c_B_makeRoomForDistances 6 = .ok (.getfield 16, 3) := by decide +kernel
theorem d_B_makeRoomForDistances_9 : decode c_B_makeRoomForDistances 9 = .ok (.arraylength, 1) := by decide +kernel
theorem d_B_makeRoomForDistances_10 : decode c_B_makeRoomForDistances 10 = .ok (.if_icmp .ge 14, 3) := by decide +kernel
theorem d_B_makeRoomForDistances_13 : decode c_B_makeRoomForDistances 13 = .ok (.aload_n 0, 1) := by decide +kernel
theorem d_B_makeRoomForDistances_14 : decode c_B_makeRoomForDistances 14 = .ok (.aload_n 0, 1) := by decide +kernel
theorem d_B_makeRoomForDistances_15 : decode c_B_makeRoomForDistances 15 = .ok (.getfield 16, 3) := by decide +kernel
theorem d_B_makeRoomForDistances_18 : decode c_B_makeRoomForDistances 18 = .ok (.arraylength, 1) := by decide +kernel
theorem d_B_makeRoomForDistances_19 : decode c_B_makeRoomForDistances 19 = .ok (.newarray .long, 2) := by decide +kernel
theorem d_B_makeRoomForDistances_21 : decode c_B_makeRoomForDistances 21 = .ok (.putfield 24, 3) := by decide +kernel
theorem d_B_makeRoomForDistances_24 : decode c_B_makeRoomForDistances 24 = .ok (.return_, 1) := by decide +kernel
theorem d_B_insertByDistance_0 : decode c_B_insertByDistance 0 = .ok (.aload_n 0, 1) := by decide +kernel
theorem d_B_insertByDistance_1 : decode c_B_insertByDistance 1 = .ok (.lload_n 2, 1) := by decide +kernel
theorem d_B_insertByDistance_2 : decode c_B_insertByDistance 2 = .ok (.invokevirtual 170, 3) := by decide +kernel
theorem d_B_insertByDistance_5 : decode c_B_insertByDistance 5 = .ok (.istore 5, 2) := by decide +kernel
theorem d_B_insertByDistance_7 : decode c_B_insertByDistance 7 = .ok (.iload 5, 2) := by decide +kernel
theorem d_B_insertByDistance_9 : decode c_B_insertByDistance 9 = .ok (.iload 4, 2) := by decide +kernel
theorem d_B_insertByDistance_11 : decode c_B_insertByDistance 11 = .ok (.if_icmp .ge 23, 3) := by decide +kernel
theorem d_B_insertByDistance_14 : decode c_B_insertByDistance 14 = .ok (.iload 4, 2) := by decide +kernel
theorem d_B_insertByDistance_16 : decode c_B_insertByDistance 16 = .ok (.aload_n 0, 1) := by decide +kernel
theorem d_B_insertByDistance_17 : decode c_B_insertByDistance 17 = .ok (.getfield 16, 3) := by decide +kernel
theorem d_B_insertByDistance_20 : decode c_B_insertByDistance 20 = .ok (.arraylength, 1) := by decide +kernel
theorem d_B_insertByDistance_21 : decode c_B_insertByDistance 21 = .ok (.if_icmp .gt 13, 3) := by decide +kernel
theorem d_B_insertByDistance_24 : decode c_B_insertByDistance 24 = .ok (.iload 4, 2) := by decide +kernel
theorem d_B_insertByDistance_26 : decode c_B_insertByDistance 26 = .ok (.aload_n 0, 1) := by decide +kernel
theorem d_B_insertByDistance_27 : decode c_B_insertByDistance 27 = .ok (.getfield 24, 3) := by decide +kernel
theorem d_B_insertByDistance_30 : decode c_B_insertByDistance 30 = .ok (.arraylength, 1) := by decide +kernel
theorem d_B_insertByDistance_31 : decode c_B_insertByDistance 31 = .ok (.if_icmp .le 4, 3) := by decide +kernel
theorem d_B_insertByDistance_34 : decode c_B_insertByDistance 34 = .ok (.return_, 1) := by decide +kernel
theorem d_B_insertByDistance_35 : decode c_B_insertByDistance 35 = .ok (.aload_n 0, 1) := by decide +kernel
theorem d_B_insertByDistance_36 : decode c_B_insertByDistance 36 = .ok (.getfield 20, 3) := by decide +kernel
theorem d_B_insertByDistance_39 : decode c_B_insertByDistance 39 = .ok (.iload 4, 2) := by decide +kernel
theorem d_B_insertByDistance_41 : decode c_B_insertByDistance 41 = .ok (.iconst 1, 1) := by decide +kernel
theorem d_B_insertByDistance_42 : decode c_B_insertByDistance 42 = .ok (.isub, 1) := by decide +kernel
theorem d_B_insertByDistance_43 : decode c_B_insertByDistance 43 = .ok (.invokestatic 94, 3) := by decide +kernel
theorem d_B_insertByDistance_46 : decode c_B_insertByDistance 46 = .ok (.istore 6, 2) := by decide +kernel
theorem d_B_insertByDistance_48 : decode c_B_insertByDistance 48 = .ok (.aload_n 0, 1) := by decide +kernel
theorem d_B_insertByDistance_49 : decode c_B_insertByDistance 49 = .ok (.getfield 16, 3) := by decide +kernel
theorem d_B_insertByDistance_52 : decode c_B_insertByDistance 52 = .ok (.iload 5, 2) := by decide +kernel
theorem d_B_insertByDistance_54 : decode c_B_insertByDistance 54 = .ok (.aload_n 0, 1) := by decide +kernel
theorem d_B_insertByDistance_55 : decode c_B_insertByDistance 55 = .ok (.getfield 16, 3) := by decide +kernel
theorem d_B_insertByDistance_58 : decode c_B_insertByDistance 58 = .ok (.iload 5, 2) := by decide +kernel
theorem d_B_insertByDistance_60 : decode c_B_insertByDistance 60 = .ok (.iconst 1, 1) := by decide +kernel
theorem d_B_insertByDistance_61 : decode c_B_insertByDistance 61 = .ok (.iadd, 1) := by decide +kernel
theorem d_B_insertByDistance_62 : decode c_B_insertByDistance 62 = .ok (.iload 6, 2) := by decide +kernel
theorem d_B_insertByDistance_64 : decode c_B_insertByDistance 64 = .ok (.iload 5, 2) := by decide +kernel
theorem d_B_insertByDistance_66 : decode c_B_insertByDistance 66 = .ok (.isub, 1) := by decide +kernel
theorem d_B_insertByDistance_67 : decode c_B_insertByDistance 67 = .ok (.invokestatic 174, 3) := by decide +kernel
theorem d_B_insertByDistance_70 : decode c_B_insertByDistance 70 = .ok (.aload_n 0, 1) := by decide +kernel
theorem d_B_insertByDistance_71 : decode c_B_insertByDistance 71 = .ok (.getfield 24, 3) := by decide +kernel
theorem d_B_insertByDistance_74 : decode c_B_insertByDistance 74 = .ok (.iload 5, 2) := by decide +kernel
theorem d_B_insertByDistance_76 : decode c_B_insertByDistance 76 = .ok (.aload_n 0, 1) := by decide +kernel
theorem d_B_insertByDistance_77 : decode c_B_insertByDistance 77 = .ok (.getfield 24, 3) := by decide +kernel
theorem d_B_insertByDistance_80 : decode c_B_insertByDistance 80 = .ok (.iload 5, 2) := by decide +kernel
theorem d_B_insertByDistance_82 : decode c_B_insertByDistance 82 = .ok (.iconst 1, 1) := by decide +kernel
theorem d_B_insertByDistance_83 : decode c_B_insertByDistance 83 = .ok (.iadd, 1) := by decide +kernel
theorem d_B_insertByDistance_84 : decode c_B_insertByDistance 84 = .ok (.iload 6, 2) := by decide +kernel
theorem d_B_insertByDistance_86 : decode c_B_insertByDistance 86 = .ok (.iload 5, 2) := by decide +kernel
theorem d_B_insertByDistance_88 : decode c_B_insertByDistance 88 = .ok (.isub, 1) := by decide +kernel
theorem d_B_insertByDistance_89 : decode c_B_insertByDistance 89 = .ok (.invokestatic 174, 3) := by decide +kernel
theorem d_B_insertByDistance_92 : decode c_B_insertByDistance 92 = .ok (.aload_n 0, 1) := by decide +kernel
theorem d_B_insertByDistance_93 : decode c_B_insertByDistance 93 = .ok (.getfield 16, 3) := by decide +kernel
theorem d_B_insertByDistance_96 : decode c_B_insertByDistance 96 = .ok (.iload 5, 2) := by decide +kernel
theorem d_B_insertByDistance_98 : decode c_B_insertByDistance 98 = .ok (.iload_n 1, 1) := by decide +kernel
theorem d_B_insertByDistance_99 : decode c_B_insertByDistance 99 = .ok (.iastore, 1) := by decide +kernel
theorem d_B_insertByDistance_100 : decode c_B_insertByDistance 100 = .ok (.aload_n 0, 1) := by decide +kernel
theorem d_B_insertByDistance_101 : decode c_B_insertByDistance 101 = .ok (.getfield 24, 3) := by decide +kernel
theorem d_B_insertByDistance_104 : decode c_B_insertByDistance 104 = .ok (.iload 5, 2) := by decide +kernel
theorem d_B_insertByDistance_106 : decode c_B_insertByDistance 106 = .ok (.lload_n 2, 1) := by decide +kernel
theorem d_B_insertByDistance_107 : decode c_B_insertByDistance 107 = .ok (.lastore, 1) := by decide +kernel
theorem d_B_insertByDistance_108 : decode c_B_insertByDistance 108 = .ok (.aload_n 0, 1) := by decide +kernel
theorem d_B_insertByDistance_109 : decode c_B_insertByDistance 109 = .ok (.iload 6, 2) := by decide +kernel
theorem d_B_insertByDistance_111 : decode c_B_insertByDistance 111 = .ok (.iconst 1, 1) := by decide +kernel
theorem d_B_insertByDistance_112 : decode c_B_insertByDistance 112 = .ok (.iadd, 1) := by decide +kernel
theorem d_B_insertByDistance_113 : decode c_B_insertByDistance 113 = .ok (.putfield 20, 3) := by decide +kernel
theorem d_B_insertByDistance_116 : decode c_B_insertByDistance 116 = .ok (.return_, 1) := by decide +kernel
