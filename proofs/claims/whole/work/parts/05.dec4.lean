/-! decode rows, by program -/
theorem d_B_indexBehind_0 : decode c_B_indexBehind 0 = .ok (.iconst 0, 1) := by decide +kernel
theorem d_B_indexBehind_1 : decode c_B_indexBehind 1 = .ok (.istore_n 3, 1) := by decide +kernel
theorem d_B_indexBehind_2 : decode c_B_indexBehind 2 = .ok (.aload_n 0, 1) := by decide +kernel
theorem d_B_indexBehind_3 : decode c_B_indexBehind 3 = .ok (.getfield 20, 3) := by decide +kernel
theorem d_B_indexBehind_6 : decode c_B_indexBehind 6 = .ok (.aload_n 0, 1) := by decide +kernel
theorem d_B_indexBehind_7 : decode c_B_indexBehind 7 = .ok (.getfield 24, 3) := by decide +kernel
theorem d_B_indexBehind_10 : decode c_B_indexBehind 10 = .ok (.arraylength, 1) := by decide +kernel
theorem d_B_indexBehind_11 : decode c_B_indexBehind 11 = .ok (.invokestatic 94, 3) := by decide +kernel
theorem d_B_indexBehind_14 : decode c_B_indexBehind 14 = .ok (.istore 4, 2) := by decide +kernel
theorem d_B_indexBehind_16 : decode c_B_indexBehind 16 = .ok (.iload_n 3, 1) := by decide +kernel
theorem d_B_indexBehind_17 : decode c_B_indexBehind 17 = .ok (.iload 4, 2) := by decide +kernel
theorem d_B_indexBehind_19 : decode c_B_indexBehind 19 = .ok (.if_icmp .ge 38, 3) := by decide +kernel
theorem d_B_indexBehind_22 : decode c_B_indexBehind 22 = .ok (.iload_n 3, 1) := by decide +kernel
theorem d_B_indexBehind_23 : decode c_B_indexBehind 23 = .ok (.iload 4, 2) := by decide +kernel
theorem d_B_indexBehind_25 : decode c_B_indexBehind 25 = .ok (.iadd, 1) := by decide +kernel
theorem d_B_indexBehind_26 : decode c_B_indexBehind 26 = .ok (.iconst 1, 1) := by decide +kernel
theorem d_B_indexBehind_27 : decode c_B_indexBehind 27 = .ok (.iushr, 1) := by decide +kernel
theorem d_B_indexBehind_28 : decode c_B_indexBehind 28 = .ok (.istore 5, 2) := by decide +kernel
theorem d_B_indexBehind_30 : decode c_B_indexBehind 30 = .ok (.aload_n 0, 1) := by decide +kernel
theorem d_B_indexBehind_31 : decode c_B_indexBehind 31 = .ok (.getfield 24, 3) := by decide +kernel
theorem d_B_indexBehind_34 : decode c_B_indexBehind 34 = .ok (.iload 5, 2) := by decide +kernel
theorem d_B_indexBehind_36 : decode c_B_indexBehind 36 = .ok (.laload, 1) := by decide +kernel
theorem d_B_indexBehind_37 : decode c_B_indexBehind 37 = .ok (.lload_n 1, 1) := by decide +kernel
theorem d_B_indexBehind_38 : decode c_B_indexBehind 38 = .ok (.lcmp, 1) := by decide +kernel
theorem d_B_indexBehind_39 : decode c_B_indexBehind 39 = .ok (.ifCond .gt 11, 3) := by decide +kernel
theorem d_B_indexBehind_42 : decode c_B_indexBehind 42 = .ok (.iload 5, 2) := by decide +kernel
theorem d_B_indexBehind_44 : decode c_B_indexBehind 44 = .ok (.iconst 1, 1) := by decide +kernel
theorem d_B_indexBehind_45 : decode c_B_indexBehind 45 = .ok (.iadd, 1) := by decide +kernel
theorem d_B_indexBehind_46 : decode c_B_indexBehind 46 = .ok (.istore_n 3, 1) := by decide +kernel
theorem d_B_indexBehind_47 : decode c_B_indexBehind 47 = .ok (.goto 7, 3) := by decide +kernel
theorem d_B_indexBehind_50 : decode c_B_indexBehind 50 = .ok (.iload 5, 2) := by decide +kernel
theorem d_B_indexBehind_52 : decode c_B_indexBehind 52 = .ok (.istore 4, 2) := by decide +kernel
theorem d_B_indexBehind_54 : decode c_B_indexBehind 54 = .ok (.goto (-38), 3) := by decide +kernel
theorem d_B_indexBehind_57 : decode c_B_indexBehind 57 = .ok (.iload_n 3, 1) := by decide +kernel
theorem d_B_indexBehind_58 : decode c_B_indexBehind 58 = .ok (.ireturn, 1) := by decide +kernel
theorem d_B_distance_0 : decode c_B_distance 0 = .ok (.aload_n 0, 1) := by decide +kernel
theorem d_B_distance_1 : decode c_B_distance 1 = .ok (.iload_n 1, 1) := by decide +kernel
theorem d_B_distance_2 : decode c_B_distance 2 = .ok (.invokevirtual 118, 3) := by decide +kernel
theorem d_B_distance_5 : decode c_B_distance 5 = .ok (.astore 4, 2) := by decide +kernel
theorem d_B_distance_7 : decode c_B_distance 7 = .ok (.iload_n 2, 1) := by decide +kernel
theorem d_B_distance_8 : decode c_B_distance 8 = .ok (.iload_n 3, 1) := by decide +kernel
theorem d_B_distance_9 : decode c_B_distance 9 = .ok (.invokestatic 90, 3) := by decide +kernel
theorem d_B_distance_12 : decode c_B_distance 12 = .ok (.aload 4, 2) := by decide +kernel
theorem d_B_distance_14 : decode c_B_distance 14 = .ok (.iload_n 2, 1) := by decide +kernel
theorem d_B_distance_15 : decode c_B_distance 15 = .ok (.iload_n 3, 1) := by decide +kernel
theorem d_B_distance_16 : decode c_B_distance 16 = .ok (.invokevirtual 106, 3) := by decide +kernel
theorem d_B_distance_19 : decode c_B_distance 19 = .ok (.lreturn, 1) := by decide +kernel
theorem d_B_requireBox_0 : decode c_B_requireBox 0 = .ok (.aload_n 0, 1) := by decide +kernel
theorem d_B_requireBox_1 : decode c_B_requireBox 1 = .ok (.iload_n 1, 1) := by decide +kernel
theorem d_B_requireBox_2 : decode c_B_requireBox 2 = .ok (.invokevirtual 41, 3) := by decide +kernel
theorem d_B_requireBox_5 : decode c_B_requireBox 5 = .ok (.istore_n 2, 1) := by decide +kernel
theorem d_B_requireBox_6 : decode c_B_requireBox 6 = .ok (.aload_n 0, 1) := by decide +kernel
theorem d_B_requireBox_7 : decode c_B_requireBox 7 = .ok (.iload_n 2, 1) := by decide +kernel
theorem d_B_requireBox_8 : decode c_B_requireBox 8 = .ok (.iload_n 1, 1) := by decide +kernel
theorem d_B_requireBox_9 : decode c_B_requireBox 9 = .ok (.invokevirtual 45, 3) := by decide +kernel
theorem d_B_requireBox_12 : decode c_B_requireBox 12 = .ok (.ifCond .ne 13, 3) := by decide +kernel
theorem d_B_requireBox_15 : decode c_B_requireBox 15 = .ok (.new 144, 3) := by decide +kernel
theorem d_B_requireBox_18 : decode c_B_requireBox 18 = .ok (.dup, 1) := by decide +kernel
theorem d_B_requireBox_19 : decode c_B_requireBox 19 = .ok (.ldc 159, 2) := by decide +kernel
theorem d_B_requireBox_21 : decode c_B_requireBox 21 = .ok (.invokespecial 148, 3) := by decide +kernel
theorem d_B_requireBox_24 : decode c_B_requireBox 24 = .ok (.athrow, 1) := by decide +kernel
theorem d_B_requireBox_25 : decode c_B_requireBox 25 = .ok (.aload_n 0, 1) := by decide +kernel
theorem d_B_requireBox_26 : decode c_B_requireBox 26 = .ok (.getfield 10, 3) := by decide +kernel
theorem d_B_requireBox_29 : decode c_B_requireBox 29 = .ok (.iload_n 2, 1) := by decide +kernel
theorem d_B_requireBox_30 : decode c_B_requireBox 30 = .ok (.invokevirtual 75, 3) := by decide +kernel
theorem d_B_requireBox_33 : decode c_B_requireBox 33 = .ok (.checkcast 36, 3) := by decide +kernel
theorem d_B_requireBox_36 : decode c_B_requireBox 36 = .ok (.areturn, 1) := by decide +kernel
theorem d_B_bounds_0 : decode c_B_bounds 0 = .ok (.iload_n 1, 1) := by decide +kernel
theorem d_B_bounds_1 : decode c_B_bounds 1 = .ok (.invokestatic 122, 3) := by decide +kernel
theorem d_B_bounds_4 : decode c_B_bounds 4 = .ok (.aload_n 0, 1) := by decide +kernel
theorem d_B_bounds_5 : decode c_B_bounds 5 = .ok (.getfield 10, 3) := by decide +kernel
theorem d_B_bounds_8 : decode c_B_bounds 8 = .ok (.invokevirtual 125, 3) := by decide +kernel
theorem d_B_bounds_11 : decode c_B_bounds 11 = .ok (.ifCond .eq 13, 3) := by decide +kernel
theorem d_B_bounds_14 : decode c_B_bounds 14 = .ok (.new 129, 3) := by decide +kernel
theorem d_B_bounds_17 : decode c_B_bounds 17 = .ok (.dup, 1) := by decide +kernel
theorem d_B_bounds_18 : decode c_B_bounds 18 = .ok (.ldc 131, 2) := by decide +kernel
theorem d_B_bounds_20 : decode c_B_bounds 20 = .ok (.invokespecial 133, 3) := by decide +kernel
theorem d_B_bounds_23 : decode c_B_bounds 23 = .ok (.athrow, 1) := by decide +kernel
theorem d_B_bounds_24 : decode c_B_bounds 24 = .ok (.aload_n 0, 1) := by decide +kernel
theorem d_B_bounds_25 : decode c_B_bounds 25 = .ok (.getfield 10, 3) := by decide +kernel
theorem d_B_bounds_28 : decode c_B_bounds 28 = .ok (.iconst 0, 1) := by decide +kernel
theorem d_B_bounds_29 : decode c_B_bounds 29 = .ok (.invokevirtual 75, 3) := by decide +kernel
theorem d_B_bounds_32 : decode c_B_bounds 32 = .ok (.checkcast 36, 3) := by decide +kernel
theorem d_B_bounds_35 : decode c_B_bounds 35 = .ok (.iload_n 1, 1) := by decide +kernel
theorem d_B_bounds_36 : decode c_B_bounds 36 = .ok (.invokevirtual 134, 3) := by decide +kernel
theorem d_B_bounds_39 : decode c_B_bounds 39 = .ok (.istore_n 2, 1) := by decide +kernel
theorem d_B_bounds_40 : decode c_B_bounds 40 = .ok (.iconst 1, 1) := by decide +kernel
theorem d_B_bounds_41 : decode c_B_bounds 41 = .ok (.istore_n 3, 1) := by decide +kernel
theorem d_B_bounds_42 : decode c_B_bounds 42 = .ok (.iload_n 3, 1) := by decide +kernel
theorem d_B_bounds_43 : decode c_B_bounds 43 = .ok (.aload_n 0, 1) := by decide +kernel
theorem d_B_bounds_44 : decode c_B_bounds 44 = .ok (.getfield 10, 3) := by decide +kernel
theorem d_B_bounds_47 : decode c_B_bounds 47 = .ok (.invokevirtual 61, 3) := by decide +kernel
theorem d_B_bounds_50 : decode c_B_bounds 50 = .ok (.if_icmp .ge 49, 3) := by decide +kernel
theorem d_B_bounds_53 : decode c_B_bounds 53 = .ok (.aload_n 0, 1) := by decide +kernel
theorem d_B_bounds_54 : decode c_B_bounds 54 = .ok (.getfield 10, 3) := by decide +kernel
theorem d_B_bounds_57 : decode c_B_bounds 57 = .ok (.iload_n 3, 1) := by decide +kernel
theorem d_B_bounds_58 : decode c_B_bounds 58 = .ok (.invokevirtual 75, 3) := by decide +kernel
theorem d_B_bounds_61 : decode c_B_bounds 61 = .ok (.checkcast 36, 3) := by decide +kernel
theorem d_B_bounds_64 : decode c_B_bounds 64 = .ok (.iload_n 1, 1) := by decide +kernel
theorem d_B_bounds_65 : decode c_B_bounds 65 = .ok (.invokevirtual 134, 3) := by decide +kernel
theorem d_B_bounds_68 : decode c_B_bounds 68 = .ok (.istore 4, 2) := by decide +kernel
theorem d_B_bounds_70 : decode c_B_bounds 70 = .ok (.iload_n 1, 1) := by decide +kernel
theorem d_B_bounds_71 : decode c_B_bounds 71 = .ok (.invokestatic 137, 3) := by decide +kernel
theorem d_B_bounds_74 : decode c_B_bounds 74 = .ok (.ifCond .eq 12, 3) := by decide +kernel
theorem d_B_bounds_77 : decode c_B_bounds 77 = .ok (.iload_n 2, 1) := by decide +kernel
theorem d_B_bounds_78 : decode c_B_bounds 78 = .ok (.iload 4, 2) := by decide +kernel
theorem d_B_bounds_80 : decode c_B_bounds 80 = .ok (.invokestatic 94, 3) := by decide +kernel
theorem d_B_bounds_83 : decode c_B_bounds 83 = .ok (.goto 9, 3) := by decide +kernel
theorem d_B_bounds_86 : decode c_B_bounds 86 = .ok (.iload_n 2, 1) := by decide +kernel
theorem d_B_bounds_87 : decode c_B_bounds 87 = .ok (.iload 4, 2) := by decide +kernel
theorem d_B_bounds_89 : decode c_B_bounds 89 = .ok (.invokestatic 141, 3) := by decide +kernel
theorem d_B_bounds_92 : decode c_B_bounds 92 = .ok (.istore_n 2, 1) := by decide +kernel
theorem d_B_bounds_93 : decode c_B_bounds 93 = .ok (.iinc 3 1, 3) := by decide +kernel
theorem d_B_bounds_96 : decode c_B_bounds 96 = .ok (.goto (-54), 3) := by decide +kernel
theorem d_B_bounds_99 : decode c_B_bounds 99 = .ok (.iload_n 2, 1) := by decide +kernel
theorem d_B_bounds_100 : decode c_B_bounds 100 = .ok (.ireturn, 1) := by decide +kernel
theorem d_B_requireBound_0 : decode c_B_requireBound 0 = .ok (.iload_n 0, 1) := by decide +kernel
theorem d_B_requireBound_1 : decode c_B_requireBound 1 = .ok (.ifCond .lt 8, 3) := by decide +kernel
theorem d_B_requireBound_4 : decode c_B_requireBound 4 = .ok (.iload_n 0, 1) := by decide +kernel
theorem d_B_requireBound_5 : decode c_B_requireBound 5 = .ok (.iconst 3, 1) := by decide +kernel
theorem d_B_requireBound_6 : decode c_B_requireBound 6 = .ok (.if_icmp .le 13, 3) := by decide +kernel
theorem d_B_requireBound_9 : decode c_B_requireBound 9 = .ok (.new 144, 3) := by decide +kernel
theorem d_B_requireBound_12 : decode c_B_requireBound 12 = .ok (.dup, 1) := by decide +kernel
theorem d_B_requireBound_13 : decode c_B_requireBound 13 = .ok (.ldc 157, 2) := by decide +kernel
theorem d_B_requireBound_15 : decode c_B_requireBound 15 = .ok (.invokespecial 148, 3) := by decide +kernel
theorem d_B_requireBound_18 : decode c_B_requireBound 18 = .ok (.athrow, 1) := by decide +kernel
theorem d_B_requireBound_19 : decode c_B_requireBound 19 = .ok (.return_, 1) := by decide +kernel
theorem d_B_isLeast_0 : decode c_B_isLeast 0 = .ok (.iload_n 0, 1) := by decide +kernel
theorem d_B_isLeast_1 : decode c_B_isLeast 1 = .ok (.ifCond .eq 8, 3) := by decide +kernel
theorem d_B_isLeast_4 : decode c_B_isLeast 4 = .ok (.iload_n 0, 1) := by decide +kernel
theorem d_B_isLeast_5 : decode c_B_isLeast 5 = .ok (.iconst 1, 1) := by decide +kernel
theorem d_B_isLeast_6 : decode c_B_isLeast 6 = .ok (.if_icmp .ne 7, 3) := by decide +kernel
theorem d_B_isLeast_9 : decode c_B_isLeast 9 = .ok (.iconst 1, 1) := by decide +kernel
theorem d_B_isLeast_10 : decode c_B_isLeast 10 = .ok (.goto 4, 3) := by decide +kernel
theorem d_B_isLeast_13 : decode c_B_isLeast 13 = .ok (.iconst 0, 1) := by decide +kernel
theorem d_B_isLeast_14 : decode c_B_isLeast 14 = .ok (.ireturn, 1) := by decide +kernel
theorem d_B_result_0 : decode c_B_result 0 = .ok (.iload_n 1, 1) := by decide +kernel
theorem d_B_result_1 : decode c_B_result 1 = .ok (.ifCond .lt 20, 3) := by decide +kernel
theorem d_B_result_4 : decode c_B_result 4 = .ok (.iload_n 1, 1) := by decide +kernel
theorem d_B_result_5 : decode c_B_result 5 = .ok (.aload_n 0, 1) := by decide +kernel
theorem d_B_result_6 : decode c_B_result 6 = .ok (.getfield 20, 3) := by decide +kernel
theorem d_B_result_9 : decode c_B_result 9 = .ok (.if_icmp .ge 12, 3) := by decide +kernel
theorem d_B_result_12 : decode c_B_result 12 = .ok (.iload_n 1, 1) := by decide +kernel
theorem d_B_result_13 : decode c_B_result 13 = .ok (.aload_n 0, 1) := by decide +kernel
theorem d_B_result_14 : decode c_B_result 14 = .ok (.getfield 16, 3) := by decide +kernel
theorem d_B_result_17 : decode c_B_result 17 = .ok (.arraylength, 1) := by decide +kernel
theorem d_B_result_18 : decode c_B_result 18 = .ok (.if_icmp .lt 13, 3) := by decide +kernel
theorem d_B_result_21 : decode c_B_result 21 = .ok (.new 144, 3) := by decide +kernel
theorem d_B_result_24 : decode c_B_result 24 = .ok (.dup, 1) := by decide +kernel
theorem d_B_result_25 : decode c_B_result 25 = .ok (.ldc 146, 2) := by decide +kernel
theorem d_B_result_27 : decode c_B_result 27 = .ok (.invokespecial 148, 3) := by decide +kernel
theorem d_B_result_30 : decode c_B_result 30 = .ok (.athrow, 1) := by decide +kernel
theorem d_B_result_31 : decode c_B_result 31 = .ok (.aload_n 0, 1) := by decide +kernel
theorem d_B_result_32 : decode c_B_result 32 = .ok (.getfield 16, 3) := by decide +kernel
theorem d_B_result_35 : decode c_B_result 35 = .ok (.iload_n 1, 1) := by decide +kernel
theorem d_B_result_36 : decode c_B_result 36 = .ok (.iaload, 1) := by decide +kernel
theorem d_B_result_37 : decode c_B_result 37 = .ok (.ireturn, 1) := by decide +kernel
theorem d_B_box_0 : decode c_B_box 0 = .ok (.aload_n 0, 1) := by decide +kernel
theorem d_B_box_1 : decode c_B_box 1 = .ok (.iload_n 1, 1) := by decide +kernel
theorem d_B_box_2 : decode c_B_box 2 = .ok (.invokevirtual 118, 3) := by decide +kernel
theorem d_B_box_5 : decode c_B_box 5 = .ok (.astore_n 3, 1) := by decide +kernel
theorem d_B_box_6 : decode c_B_box 6 = .ok (.iload_n 2, 1) := by decide +kernel
theorem d_B_box_7 : decode c_B_box 7 = .ok (.invokestatic 122, 3) := by decide +kernel
theorem d_B_box_10 : decode c_B_box 10 = .ok (.aload_n 3, 1) := by decide +kernel
theorem d_B_box_11 : decode c_B_box 11 = .ok (.iload_n 2, 1) := by decide +kernel
theorem d_B_box_12 : decode c_B_box 12 = .ok (.invokevirtual 134, 3) := by decide +kernel
theorem d_B_box_15 : decode c_B_box 15 = .ok (.ireturn, 1) := by decide +kernel
theorem d_M_init_0 : decode c_M_init 0 = .ok (.aload_n 0, 1) := by decide +kernel
theorem d_M_init_1 : decode c_M_init 1 = .ok (.invokespecial 1, 3) := by decide +kernel
theorem d_M_init_4 : decode c_M_init 4 = .ok (.aload_n 0, 1) := by decide +kernel
theorem d_M_init_5 : decode c_M_init 5 = .ok (.sipush 4096, 3) := by decide +kernel
theorem d_M_init_8 : decode c_M_init 8 = .ok (.newarray .boolean, 2) := by decide +kernel
theorem d_M_init_10 : decode c_M_init 10 = .ok (.putfield 7, 3) := by decide +kernel
theorem d_M_init_13 : decode c_M_init 13 = .ok (.aload_n 0, 1) := by decide +kernel
theorem d_M_init_14 : decode c_M_init 14 = .ok (.sipush 4096, 3) := by decide +kernel
theorem d_M_init_17 : decode c_M_init 17 = .ok (.newarray .int, 2) := by decide +kernel
theorem d_M_init_19 : decode c_M_init 19 = .ok (.putfield 13, 3) := by decide +kernel
theorem d_M_init_22 : decode c_M_init 22 = .ok (.aload_n 0, 1) := by decide +kernel
theorem d_M_init_23 : decode c_M_init 23 = .ok (.sipush 4096, 3) := by decide +kernel
theorem d_M_init_26 : decode c_M_init 26 = .ok (.newarray .int, 2) := by decide +kernel
theorem d_M_init_28 : decode c_M_init 28 = .ok (.putfield 17, 3) := by decide +kernel
theorem d_M_init_31 : decode c_M_init 31 = .ok (.aload_n 0, 1) := by decide +kernel
theorem d_M_init_32 : decode c_M_init 32 = .ok (.sipush 4096, 3) := by decide +kernel
theorem d_M_init_35 : decode c_M_init 35 = .ok (.newarray .int, 2) := by decide +kernel
theorem d_M_init_37 : decode c_M_init 37 = .ok (.putfield 20, 3) := by decide +kernel
theorem d_M_init_40 : decode c_M_init 40 = .ok (.aload_n 0, 1) := by decide +kernel
theorem d_M_init_41 : decode c_M_init 41 = .ok (.sipush 4096, 3) := by decide +kernel
theorem d_M_init_44 : decode c_M_init 44 = .ok (.newarray .int, 2) := by decide +kernel
theorem d_M_init_46 : decode c_M_init 46 = .ok (.putfield 23, 3) := by decide +kernel
theorem d_M_init_49 : decode c_M_init 49 = .ok (.aload_n 0, 1) := by decide +kernel
theorem d_M_init_50 : decode c_M_init 50 = .ok (.sipush 4096, 3) := by decide +kernel
theorem d_M_init_53 : decode c_M_init 53 = .ok (.newarray .int, 2) := by decide +kernel
theorem d_M_init_55 : decode c_M_init 55 = .ok (.putfield 26, 3) := by decide +kernel
theorem d_M_init_58 : decode c_M_init 58 = .ok (.return_, 1) := by decide +kernel
theorem d_M_thrown_0 : decode c_M_thrown 0 = .ok (.aload_n 0, 1) := by decide +kernel
theorem d_M_thrown_1 : decode c_M_thrown 1 = .ok (.getfield 29, 3) := by decide +kernel
theorem d_M_thrown_4 : decode c_M_thrown 4 = .ok (.ireturn, 1) := by decide +kernel
theorem d_M_put_0 : decode c_M_put 0 = .ok (.aload_n 0, 1) := by decide +kernel
theorem d_M_put_1 : decode c_M_put 1 = .ok (.iconst 0, 1) := by decide +kernel
theorem d_M_put_2 : decode c_M_put 2 = .ok (.putfield 29, 3) := by decide +kernel
theorem d_M_put_5 : decode c_M_put 5 = .ok (.iload_n 1, 1) := by decide +kernel
theorem d_M_put_6 : decode c_M_put 6 = .ok (.iconst 0, 1) := by decide +kernel
theorem d_M_put_7 : decode c_M_put 7 = .ok (.sipush 4095, 3) := by decide +kernel
theorem d_M_put_10 : decode c_M_put 10 = .ok (.invokestatic 35, 3) := by decide +kernel
theorem d_M_put_13 : decode c_M_put 13 = .ok (.ifCond .ne 17, 3) := by decide +kernel
theorem d_M_put_16 : decode c_M_put 16 = .ok (.aload_n 0, 1) := by decide +kernel
theorem d_M_put_17 : decode c_M_put 17 = .ok (.iconst 1, 1) := by decide +kernel
theorem d_M_put_18 : decode c_M_put 18 = .ok (.invokevirtual 43, 3) := by decide +kernel
theorem d_M_put_21 : decode c_M_put 21 = .ok (.ifCond .le 7, 3) := by decide +kernel
theorem d_M_put_24 : decode c_M_put 24 = .ok (.iconst 1, 1) := by decide +kernel
theorem d_M_put_25 : decode c_M_put 25 = .ok (.goto 4, 3) := by decide +kernel
theorem d_M_put_28 : decode c_M_put 28 = .ok (.iconst 0, 1) := by decide +kernel
theorem d_M_put_29 : decode c_M_put 29 = .ok (.ireturn, 1) := by decide +kernel
theorem d_M_put_30 : decode c_M_put 30 = .ok (.iload_n 2, 1) := by decide +kernel
theorem d_M_put_31 : decode c_M_put 31 = .ok (.iload_n 3, 1) := by decide +kernel
theorem d_M_put_32 : decode c_M_put 32 = .ok (.iload 4, 2) := by decide +kernel
theorem d_M_put_34 : decode c_M_put 34 = .ok (.iload 5, 2) := by decide +kernel
theorem d_M_put_36 : decode c_M_put 36 = .ok (.invokestatic 47, 3) := by decide +kernel
theorem d_M_put_39 : decode c_M_put 39 = .ok (.ifCond .ne 17, 3) := by decide +kernel
theorem d_M_put_42 : decode c_M_put 42 = .ok (.aload_n 0, 1) := by decide +kernel
theorem d_M_put_43 : decode c_M_put 43 = .ok (.iconst 2, 1) := by decide +kernel
theorem d_M_put_44 : decode c_M_put 44 = .ok (.invokevirtual 43, 3) := by decide +kernel
theorem d_M_put_47 : decode c_M_put 47 = .ok (.ifCond .le 7, 3) := by decide +kernel
theorem d_M_put_50 : decode c_M_put 50 = .ok (.iconst 1, 1) := by decide +kernel
theorem d_M_put_51 : decode c_M_put 51 = .ok (.goto 4, 3) := by decide +kernel
theorem d_M_put_54 : decode c_M_put 54 = .ok (.iconst 0, 1) := by decide +kernel
theorem d_M_put_55 : decode c_M_put 55 = .ok (.ireturn, 1) := by decide +kernel
theorem d_M_put_56 : decode c_M_put 56 = .ok (.aload_n 0, 1) := by decide +kernel
theorem d_M_put_57 : decode c_M_put 57 = .ok (.getfield 7, 3) := by decide +kernel
theorem d_M_put_60 : decode c_M_put 60 = .ok (.iload_n 1, 1) := by decide +kernel
theorem d_M_put_61 : decode c_M_put 61 = .ok (.baload, 1) := by decide +kernel
theorem d_M_put_62 : decode c_M_put 62 = .ok (.istore 6, 2) := by decide +kernel
theorem d_M_put_64 : decode c_M_put 64 = .ok (.aload_n 0, 1) := by decide +kernel
theorem d_M_put_65 : decode c_M_put 65 = .ok (.getfield 7, 3) := by decide +kernel
theorem d_M_put_68 : decode c_M_put 68 = .ok (.iload_n 1, 1) := by decide +kernel
theorem d_M_put_69 : decode c_M_put 69 = .ok (.iconst 1, 1) := by decide +kernel
theorem d_M_put_70 : decode c_M_put 70 = .ok (.bastore, 1) := by decide +kernel
theorem d_M_put_71 : decode c_M_put 71 = .ok (.aload_n 0, 1) := by decide +kernel
theorem d_M_put_72 : decode c_M_put 72 = .ok (.getfield 13, 3) := by decide +kernel
theorem d_M_put_75 : decode c_M_put 75 = .ok (.iload_n 1, 1) := by decide +kernel
theorem d_M_put_76 : decode c_M_put 76 = .ok (.iload_n 2, 1) := by decide +kernel
theorem d_M_put_77 : decode c_M_put 77 = .ok (.iastore, 1) := by decide +kernel
theorem d_M_put_78 : decode c_M_put 78 = .ok (.aload_n 0, 1) := by decide +kernel
theorem d_M_put_79 : decode c_M_put 79 = .ok (.getfield 17, 3) := by decide +kernel
theorem d_M_put_82 : decode c_M_put 82 = .ok (.iload_n 1, 1) := by decide +kernel
theorem d_M_put_83 : decode c_M_put 83 = .ok (.iload_n 3, 1) := by decide +kernel
theorem d_M_put_84 : decode c_M_put 84 = .ok (.iastore, 1) := by decide +kernel
theorem d_M_put_85 : decode c_M_put 85 = .ok (.aload_n 0, 1) := by decide +kernel
theorem d_M_put_86 : decode c_M_put 86 = .ok (.getfield 20, 3) := by decide +kernel
theorem d_M_put_89 : decode c_M_put 89 = .ok (.iload_n 1, 1) := by decide +kernel
theorem d_M_put_90 : decode c_M_put 90 = .ok (.iload 4, 2) := by decide +kernel
theorem d_M_put_92 : decode c_M_put 92 = .ok (.iastore, 1) := by decide +kernel
theorem d_M_put_93 : decode c_M_put 93 = .ok (.aload_n 0, 1) := by decide +kernel
theorem d_M_put_94 : decode c_M_put 94 = .ok (.getfield 23, 3) := by decide +kernel
theorem d_M_put_97 : decode c_M_put 97 = .ok (.iload_n 1, 1) := by decide +kernel
theorem d_M_put_98 : decode c_M_put 98 = .ok (.iload 5, 2) := by decide +kernel
theorem d_M_put_100 : decode c_M_put 100 = .ok (.iastore, 1) := by decide +kernel
theorem d_M_put_101 : decode c_M_put 101 = .ok (.iload 6, 2) := by decide +kernel
theorem d_M_put_103 : decode c_M_put 103 = .ok (.ireturn, 1) := by decide +kernel
theorem d_M_within_0 : decode c_M_within 0 = .ok (.iload_n 0, 1) := by decide +kernel
theorem d_M_within_1 : decode c_M_within 1 = .ok (.iload_n 1, 1) := by decide +kernel
theorem d_M_within_2 : decode c_M_within 2 = .ok (.if_icmp .lt 12, 3) := by decide +kernel
theorem d_M_within_5 : decode c_M_within 5 = .ok (.iload_n 0, 1) := by decide +kernel
theorem d_M_within_6 : decode c_M_within 6 = .ok (.iload_n 2, 1) := by decide +kernel
theorem d_M_within_7 : decode c_M_within 7 = .ok (.if_icmp .gt 7, 3) := by decide +kernel
theorem d_M_within_10 : decode c_M_within 10 = .ok (.iconst 1, 1) := by decide +kernel
theorem d_M_within_11 : decode c_M_within 11 = .ok (.goto 4, 3) := by decide +kernel
theorem d_M_within_14 : decode c_M_within 14 = .ok (.iconst 0, 1) := by decide +kernel
theorem d_M_within_15 : decode c_M_within 15 = .ok (.ireturn, 1) := by decide +kernel
theorem d_M_fail_0 : decode c_M_fail 0 = .ok (.aload_n 0, 1) := by decide +kernel
theorem d_M_fail_1 : decode c_M_fail 1 = .ok (.iload_n 1, 1) := by decide +kernel
theorem d_M_fail_2 : decode c_M_fail 2 = .ok (.putfield 29, 3) := by decide +kernel
theorem d_M_fail_5 : decode c_M_fail 5 = .ok (.iconst 0, 1) := by decide +kernel
theorem d_M_fail_6 : decode c_M_fail 6 = .ok (.ireturn, 1) := by decide +kernel
theorem d_M_areBounds_0 : decode c_M_areBounds 0 = .ok (.iload_n 0, 1) := by decide +kernel
theorem d_M_areBounds_1 : decode c_M_areBounds 1 = .ok (.invokestatic 39, 3) := by decide +kernel
theorem d_M_areBounds_4 : decode c_M_areBounds 4 = .ok (.ifCond .ne 38, 3) := by decide +kernel
theorem d_M_areBounds_7 : decode c_M_areBounds 7 = .ok (.iload_n 1, 1) := by decide +kernel
theorem d_M_areBounds_8 : decode c_M_areBounds 8 = .ok (.invokestatic 39, 3) := by decide +kernel
theorem d_M_areBounds_11 : decode c_M_areBounds 11 = .ok (.ifCond .ne 31, 3) := by decide +kernel
theorem d_M_areBounds_14 : decode c_M_areBounds 14 = .ok (.iload_n 2, 1) := by decide +kernel
theorem d_M_areBounds_15 : decode c_M_areBounds 15 = .ok (.invokestatic 39, 3) := by decide +kernel
theorem d_M_areBounds_18 : decode c_M_areBounds 18 = .ok (.ifCond .ne 24, 3) := by decide +kernel
theorem d_M_areBounds_21 : decode c_M_areBounds 21 = .ok (.iload_n 3, 1) := by decide +kernel
theorem d_M_areBounds_22 : decode c_M_areBounds 22 = .ok (.invokestatic 39, 3) := by decide +kernel
theorem d_M_areBounds_25 : decode c_M_areBounds 25 = .ok (.ifCond .ne 17, 3) := by decide +kernel
theorem d_M_areBounds_28 : decode c_M_areBounds 28 = .ok (.iload_n 0, 1) := by decide +kernel
theorem d_M_areBounds_29 : decode c_M_areBounds 29 = .ok (.iload_n 2, 1) := by decide +kernel
theorem d_M_areBounds_30 : decode c_M_areBounds 30 = .ok (.if_icmp .gt 12, 3) := by decide +kernel
theorem d_M_areBounds_33 : decode c_M_areBounds 33 = .ok (.iload_n 1, 1) := by decide +kernel
theorem d_M_areBounds_34 : decode c_M_areBounds 34 = .ok (.iload_n 3, 1) := by decide +kernel
theorem d_M_areBounds_35 : decode c_M_areBounds 35 = .ok (.if_icmp .gt 7, 3) := by decide +kernel
theorem d_M_areBounds_38 : decode c_M_areBounds 38 = .ok (.iconst 1, 1) := by decide +kernel
theorem d_M_areBounds_39 : decode c_M_areBounds 39 = .ok (.goto 4, 3) := by decide +kernel
theorem d_M_areBounds_42 : decode c_M_areBounds 42 = .ok (.iconst 0, 1) := by decide +kernel
theorem d_M_areBounds_43 : decode c_M_areBounds 43 = .ok (.ireturn, 1) := by decide +kernel
theorem d_M_isFar_0 : decode c_M_isFar 0 = .ok (.iload_n 0, 1) := by decide +kernel
theorem d_M_isFar_1 : decode c_M_isFar 1 = .ok (.ldc 33, 2) := by decide +kernel
theorem d_M_isFar_3 : decode c_M_isFar 3 = .ok (.ldc 34, 2) := by decide +kernel
theorem d_M_isFar_5 : decode c_M_isFar 5 = .ok (.invokestatic 35, 3) := by decide +kernel
theorem d_M_isFar_8 : decode c_M_isFar 8 = .ok (.ifCond .ne 7, 3) := by decide +kernel
theorem d_M_isFar_11 : decode c_M_isFar 11 = .ok (.iconst 1, 1) := by decide +kernel
theorem d_M_isFar_12 : decode c_M_isFar 12 = .ok (.goto 4, 3) := by decide +kernel
theorem d_M_isFar_15 : decode c_M_isFar 15 = .ok (.iconst 0, 1) := by decide +kernel
theorem d_M_isFar_16 : decode c_M_isFar 16 = .ok (.ireturn, 1) := by decide +kernel
