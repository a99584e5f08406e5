/-! decode rows, by program -/
theorem d_M_take_0 : decode c_M_take 0 = .ok (.aload_n 0, 1) := by decide +kernel
theorem d_M_take_1 : decode c_M_take 1 = .ok (.iconst 0, 1) := by decide +kernel
theorem d_M_take_2 : decode c_M_take 2 = .ok (.putfield 29, 3) := by decide +kernel
theorem d_M_take_5 : decode c_M_take 5 = .ok (.iload_n 1, 1) := by decide +kernel
theorem d_M_take_6 : decode c_M_take 6 = .ok (.iconst 0, 1) := by decide +kernel
theorem d_M_take_7 : decode c_M_take 7 = .ok (.sipush 4095, 3) := by decide +kernel
theorem d_M_take_10 : decode c_M_take 10 = .ok (.invokestatic 35, 3) := by decide +kernel
theorem d_M_take_13 : decode c_M_take 13 = .ok (.ifCond .ne 17, 3) := by decide +kernel
theorem d_M_take_16 : decode c_M_take 16 = .ok (.aload_n 0, 1) := by decide +kernel
theorem d_M_take_17 : decode c_M_take 17 = .ok (.iconst 1, 1) := by decide +kernel
theorem d_M_take_18 : decode c_M_take 18 = .ok (.invokevirtual 43, 3) := by decide +kernel
theorem d_M_take_21 : decode c_M_take 21 = .ok (.ifCond .le 7, 3) := by decide +kernel
theorem d_M_take_24 : decode c_M_take 24 = .ok (.iconst 1, 1) := by decide +kernel
theorem d_M_take_25 : decode c_M_take 25 = .ok (.goto 4, 3) := by decide +kernel
theorem d_M_take_28 : decode c_M_take 28 = .ok (.iconst 0, 1) := by decide +kernel
theorem d_M_take_29 : decode c_M_take 29 = .ok (.ireturn, 1) := by decide +kernel
theorem d_M_take_30 : decode c_M_take 30 = .ok (.aload_n 0, 1) := by decide +kernel
theorem d_M_take_31 : decode c_M_take 31 = .ok (.getfield 7, 3) := by decide +kernel
theorem d_M_take_34 : decode c_M_take 34 = .ok (.iload_n 1, 1) := by decide +kernel
theorem d_M_take_35 : decode c_M_take 35 = .ok (.baload, 1) := by decide +kernel
theorem d_M_take_36 : decode c_M_take 36 = .ok (.istore_n 2, 1) := by decide +kernel
theorem d_M_take_37 : decode c_M_take 37 = .ok (.aload_n 0, 1) := by decide +kernel
theorem d_M_take_38 : decode c_M_take 38 = .ok (.getfield 7, 3) := by decide +kernel
theorem d_M_take_41 : decode c_M_take 41 = .ok (.iload_n 1, 1) := by decide +kernel
theorem d_M_take_42 : decode c_M_take 42 = .ok (.iconst 0, 1) := by decide +kernel
theorem d_M_take_43 : decode c_M_take 43 = .ok (.bastore, 1) := by decide +kernel
theorem d_M_take_44 : decode c_M_take 44 = .ok (.iload_n 2, 1) := by decide +kernel
theorem d_M_take_45 : decode c_M_take 45 = .ok (.ireturn, 1) := by decide +kernel
theorem d_M_clear_0 : decode c_M_clear 0 = .ok (.aload_n 0, 1) := by decide +kernel
theorem d_M_clear_1 : decode c_M_clear 1 = .ok (.iconst 0, 1) := by decide +kernel
theorem d_M_clear_2 : decode c_M_clear 2 = .ok (.putfield 29, 3) := by decide +kernel
theorem d_M_clear_5 : decode c_M_clear 5 = .ok (.aload_n 0, 1) := by decide +kernel
theorem d_M_clear_6 : decode c_M_clear 6 = .ok (.invokevirtual 51, 3) := by decide +kernel
theorem d_M_clear_9 : decode c_M_clear 9 = .ok (.istore_n 1, 1) := by decide +kernel
theorem d_M_clear_10 : decode c_M_clear 10 = .ok (.iconst 0, 1) := by decide +kernel
theorem d_M_clear_11 : decode c_M_clear 11 = .ok (.istore_n 2, 1) := by decide +kernel
theorem d_M_clear_12 : decode c_M_clear 12 = .ok (.iload_n 2, 1) := by decide +kernel
theorem d_M_clear_13 : decode c_M_clear 13 = .ok (.sipush 4096, 3) := by decide +kernel
theorem d_M_clear_16 : decode c_M_clear 16 = .ok (.if_icmp .ge 16, 3) := by decide +kernel
theorem d_M_clear_19 : decode c_M_clear 19 = .ok (.aload_n 0, 1) := by decide +kernel
theorem d_M_clear_20 : decode c_M_clear 20 = .ok (.getfield 7, 3) := by decide +kernel
theorem d_M_clear_23 : decode c_M_clear 23 = .ok (.iload_n 2, 1) := by decide +kernel
theorem d_M_clear_24 : decode c_M_clear 24 = .ok (.iconst 0, 1) := by decide +kernel
theorem d_M_clear_25 : decode c_M_clear 25 = .ok (.bastore, 1) := by decide +kernel
theorem d_M_clear_26 : decode c_M_clear 26 = .ok (.iinc 2 1, 3) := by decide +kernel
theorem d_M_clear_29 : decode c_M_clear 29 = .ok (.goto (-17), 3) := by decide +kernel
theorem d_M_clear_32 : decode c_M_clear 32 = .ok (.iload_n 1, 1) := by decide +kernel
theorem d_M_clear_33 : decode c_M_clear 33 = .ok (.ireturn, 1) := by decide +kernel
theorem d_M_many_0 : decode c_M_many 0 = .ok (.iconst 0, 1) := by decide +kernel
theorem d_M_many_1 : decode c_M_many 1 = .ok (.istore_n 1, 1) := by decide +kernel
theorem d_M_many_2 : decode c_M_many 2 = .ok (.iconst 0, 1) := by decide +kernel
theorem d_M_many_3 : decode c_M_many 3 = .ok (.istore_n 2, 1) := by decide +kernel
theorem d_M_many_4 : decode c_M_many 4 = .ok (.iload_n 2, 1) := by decide +kernel
theorem d_M_many_5 : decode c_M_many 5 = .ok (.sipush 4096, 3) := by decide +kernel
theorem d_M_many_8 : decode c_M_many 8 = .ok (.if_icmp .ge 26, 3) := by decide +kernel
theorem d_M_many_11 : decode c_M_many 11 = .ok (.iload_n 1, 1) := by decide +kernel
theorem d_M_many_12 : decode c_M_many 12 = .ok (.aload_n 0, 1) := by decide +kernel
theorem d_M_many_13 : decode c_M_many 13 = .ok (.getfield 7, 3) := by decide +kernel
theorem d_M_many_16 : decode c_M_many 16 = .ok (.iload_n 2, 1) := by decide +kernel
theorem d_M_many_17 : decode c_M_many 17 = .ok (.baload, 1) := by decide +kernel
theorem d_M_many_18 : decode c_M_many 18 = .ok (.ifCond .eq 7, 3) := by decide +kernel
theorem d_M_many_21 : decode c_M_many 21 = .ok (.iconst 1, 1) := by decide +kernel
theorem d_M_many_22 : decode c_M_many 22 = .ok (.goto 4, 3) := by decide +kernel
theorem d_M_many_25 : decode c_M_many 25 = .ok (.iconst 0, 1) := by decide +kernel
theorem d_M_many_26 : decode c_M_many 26 = .ok (.iadd, 1) := by decide +kernel
theorem d_M_many_27 : decode c_M_many 27 = .ok (.istore_n 1, 1) := by decide +kernel
theorem d_M_many_28 : decode c_M_many 28 = .ok (.iinc 2 1, 3) := by decide +kernel
theorem d_M_many_31 : decode c_M_many 31 = .ok (.goto (-27), 3) := by decide +kernel
theorem d_M_many_34 : decode c_M_many 34 = .ok (.iload_n 1, 1) := by decide +kernel
theorem d_M_many_35 : decode c_M_many 35 = .ok (.ireturn, 1) := by decide +kernel
theorem d_M_find_0 : decode c_M_find 0 = .ok (.aload_n 0, 1) := by decide +kernel
theorem d_M_find_1 : decode c_M_find 1 = .ok (.iconst 0, 1) := by decide +kernel
theorem d_M_find_2 : decode c_M_find 2 = .ok (.putfield 29, 3) := by decide +kernel
theorem d_M_find_5 : decode c_M_find 5 = .ok (.iload_n 1, 1) := by decide +kernel
theorem d_M_find_6 : decode c_M_find 6 = .ok (.iconst 0, 1) := by decide +kernel
theorem d_M_find_7 : decode c_M_find 7 = .ok (.iconst 2, 1) := by decide +kernel
theorem d_M_find_8 : decode c_M_find 8 = .ok (.invokestatic 35, 3) := by decide +kernel
theorem d_M_find_11 : decode c_M_find 11 = .ok (.ifCond .eq 15, 3) := by decide +kernel
theorem d_M_find_14 : decode c_M_find 14 = .ok (.iload_n 2, 1) := by decide +kernel
theorem d_M_find_15 : decode c_M_find 15 = .ok (.iload_n 3, 1) := by decide +kernel
theorem d_M_find_16 : decode c_M_find 16 = .ok (.iload 4, 2) := by decide +kernel
theorem d_M_find_18 : decode c_M_find 18 = .ok (.iload 5, 2) := by decide +kernel
theorem d_M_find_20 : decode c_M_find 20 = .ok (.invokestatic 47, 3) := by decide +kernel
theorem d_M_find_23 : decode c_M_find 23 = .ok (.ifCond .ne 9, 3) := by decide +kernel
theorem d_M_find_26 : decode c_M_find 26 = .ok (.aload_n 0, 1) := by decide +kernel
theorem d_M_find_27 : decode c_M_find 27 = .ok (.iconst 1, 1) := by decide +kernel
theorem d_M_find_28 : decode c_M_find 28 = .ok (.invokevirtual 43, 3) := by decide +kernel
theorem d_M_find_31 : decode c_M_find 31 = .ok (.ireturn, 1) := by decide +kernel
theorem d_M_find_32 : decode c_M_find 32 = .ok (.aload_n 0, 1) := by decide +kernel
theorem d_M_find_33 : decode c_M_find 33 = .ok (.iconst 0, 1) := by decide +kernel
theorem d_M_find_34 : decode c_M_find 34 = .ok (.putfield 55, 3) := by decide +kernel
theorem d_M_find_37 : decode c_M_find 37 = .ok (.iconst 0, 1) := by decide +kernel
theorem d_M_find_38 : decode c_M_find 38 = .ok (.istore 6, 2) := by decide +kernel
theorem d_M_find_40 : decode c_M_find 40 = .ok (.iload 6, 2) := by decide +kernel
theorem d_M_find_42 : decode c_M_find 42 = .ok (.sipush 4096, 3) := by decide +kernel
theorem d_M_find_45 : decode c_M_find 45 = .ok (.if_icmp .ge 112, 3) := by decide +kernel
theorem d_M_find_48 : decode c_M_find 48 = .ok (.aload_n 0, 1) := by decide +kernel
theorem d_M_find_49 : decode c_M_find 49 = .ok (.getfield 7, 3) := by decide +kernel
theorem d_M_find_52 : decode c_M_find 52 = .ok (.iload 6, 2) := by decide +kernel
theorem d_M_find_54 : decode c_M_find 54 = .ok (.baload, 1) := by decide +kernel
theorem d_M_find_55 : decode c_M_find 55 = .ok (.ifCond .eq 67, 3) := by decide +kernel
theorem d_M_find_58 : decode c_M_find 58 = .ok (.iload_n 1, 1) := by decide +kernel
theorem d_M_find_59 : decode c_M_find 59 = .ok (.ifCond .ne 21, 3) := by decide +kernel
theorem d_M_find_62 : decode c_M_find 62 = .ok (.aload_n 0, 1) := by decide +kernel
theorem d_M_find_63 : decode c_M_find 63 = .ok (.iload 6, 2) := by decide +kernel
theorem d_M_find_65 : decode c_M_find 65 = .ok (.iload_n 2, 1) := by decide +kernel
theorem d_M_find_66 : decode c_M_find 66 = .ok (.iload_n 3, 1) := by decide +kernel
theorem d_M_find_67 : decode c_M_find 67 = .ok (.iload 4, 2) := by decide +kernel
theorem d_M_find_69 : decode c_M_find 69 = .ok (.iload 5, 2) := by decide +kernel
theorem d_M_find_71 : decode c_M_find 71 = .ok (.invokevirtual 58, 3) := by decide +kernel
theorem d_M_find_74 : decode c_M_find 74 = .ok (.ifCond .eq 48, 3) := by decide +kernel
theorem d_M_find_77 : decode c_M_find 77 = .ok (.goto 41, 3) := by decide +kernel
theorem d_M_find_80 : decode c_M_find 80 = .ok (.iload_n 1, 1) := by decide +kernel
theorem d_M_find_81 : decode c_M_find 81 = .ok (.iconst 1, 1) := by decide +kernel
theorem d_M_find_82 : decode c_M_find 82 = .ok (.if_icmp .ne 21, 3) := by decide +kernel
theorem d_M_find_85 : decode c_M_find 85 = .ok (.aload_n 0, 1) := by decide +kernel
theorem d_M_find_86 : decode c_M_find 86 = .ok (.iload 6, 2) := by decide +kernel
theorem d_M_find_88 : decode c_M_find 88 = .ok (.iload_n 2, 1) := by decide +kernel
theorem d_M_find_89 : decode c_M_find 89 = .ok (.iload_n 3, 1) := by decide +kernel
theorem d_M_find_90 : decode c_M_find 90 = .ok (.iload 4, 2) := by decide +kernel
theorem d_M_find_92 : decode c_M_find 92 = .ok (.iload 5, 2) := by decide +kernel
theorem d_M_find_94 : decode c_M_find 94 = .ok (.invokevirtual 62, 3) := by decide +kernel
theorem d_M_find_97 : decode c_M_find 97 = .ok (.ifCond .eq 25, 3) := by decide +kernel
theorem d_M_find_100 : decode c_M_find 100 = .ok (.goto 18, 3) := by decide +kernel
theorem d_M_find_103 : decode c_M_find 103 = .ok (.aload_n 0, 1) := by decide +kernel
theorem d_M_find_104 : decode c_M_find 104 = .ok (.iload 6, 2) := by decide +kernel
theorem d_M_find_106 : decode c_M_find 106 = .ok (.iload_n 2, 1) := by decide +kernel
theorem d_M_find_107 : decode c_M_find 107 = .ok (.iload_n 3, 1) := by decide +kernel
theorem d_M_find_108 : decode c_M_find 108 = .ok (.iload 4, 2) := by decide +kernel
theorem d_M_find_110 : decode c_M_find 110 = .ok (.iload 5, 2) := by decide +kernel
theorem d_M_find_112 : decode c_M_find 112 = .ok (.invokevirtual 65, 3) := by decide +kernel
theorem d_M_find_115 : decode c_M_find 115 = .ok (.ifCond .eq 7, 3) := by decide +kernel
theorem d_M_find_118 : decode c_M_find 118 = .ok (.iconst 1, 1) := by decide +kernel
theorem d_M_find_119 : decode c_M_find 119 = .ok (.goto 4, 3) := by decide +kernel
theorem d_M_find_122 : decode c_M_find 122 = .ok (.iconst 0, 1) := by decide +kernel
theorem d_M_find_123 : decode c_M_find 123 = .ok (.istore 7, 2) := by decide +kernel
theorem d_M_find_125 : decode c_M_find 125 = .ok (.iload 7, 2) := by decide +kernel
theorem d_M_find_127 : decode c_M_find 127 = .ok (.ifCond .eq 24, 3) := by decide +kernel
theorem d_M_find_130 : decode c_M_find 130 = .ok (.aload_n 0, 1) := by decide +kernel
theorem d_M_find_131 : decode c_M_find 131 = .ok (.getfield 26, 3) := by decide +kernel
theorem d_M_find_134 : decode c_M_find 134 = .ok (.aload_n 0, 1) := by decide +kernel
theorem d_M_find_135 : decode c_M_find 135 = .ok (.getfield 55, 3) := by decide +kernel
theorem d_M_find_138 : decode c_M_find 138 = .ok (.iload 6, 2) := by decide +kernel
theorem d_M_find_140 : decode c_M_find 140 = .ok (.iastore, 1) := by decide +kernel
theorem d_M_find_141 : decode c_M_find 141 = .ok (.aload_n 0, 1) := by decide +kernel
theorem d_M_find_142 : decode c_M_find 142 = .ok (.dup, 1) := by decide +kernel
theorem d_M_find_143 : decode c_M_find 143 = .ok (.getfield 55, 3) := by decide +kernel
theorem d_M_find_146 : decode c_M_find 146 = .ok (.iconst 1, 1) := by decide +kernel
theorem d_M_find_147 : decode c_M_find 147 = .ok (.iadd, 1) := by decide +kernel
theorem d_M_find_148 : decode c_M_find 148 = .ok (.putfield 55, 3) := by decide +kernel
theorem d_M_find_151 : decode c_M_find 151 = .ok (.iinc 6 1, 3) := by decide +kernel
theorem d_M_find_154 : decode c_M_find 154 = .ok (.goto (-114), 3) := by decide +kernel
theorem d_M_find_157 : decode c_M_find 157 = .ok (.aload_n 0, 1) := by decide +kernel
theorem d_M_find_158 : decode c_M_find 158 = .ok (.getfield 55, 3) := by decide +kernel
theorem d_M_find_161 : decode c_M_find 161 = .ok (.ireturn, 1) := by decide +kernel
theorem d_M_meets_0 : decode c_M_meets 0 = .ok (.aload_n 0, 1) := by decide +kernel
theorem d_M_meets_1 : decode c_M_meets 1 = .ok (.getfield 13, 3) := by decide +kernel
theorem d_M_meets_4 : decode c_M_meets 4 = .ok (.iload_n 1, 1) := by decide +kernel
theorem d_M_meets_5 : decode c_M_meets 5 = .ok (.iaload, 1) := by decide +kernel
theorem d_M_meets_6 : decode c_M_meets 6 = .ok (.iload 4, 2) := by decide +kernel
theorem d_M_meets_8 : decode c_M_meets 8 = .ok (.if_icmp .gt 38, 3) := by decide +kernel
theorem d_M_meets_11 : decode c_M_meets 11 = .ok (.aload_n 0, 1) := by decide +kernel
theorem d_M_meets_12 : decode c_M_meets 12 = .ok (.getfield 20, 3) := by decide +kernel
theorem d_M_meets_15 : decode c_M_meets 15 = .ok (.iload_n 1, 1) := by decide +kernel
theorem d_M_meets_16 : decode c_M_meets 16 = .ok (.iaload, 1) := by decide +kernel
theorem d_M_meets_17 : decode c_M_meets 17 = .ok (.iload_n 2, 1) := by decide +kernel
theorem d_M_meets_18 : decode c_M_meets 18 = .ok (.if_icmp .lt 28, 3) := by decide +kernel
theorem d_M_meets_21 : decode c_M_meets 21 = .ok (.aload_n 0, 1) := by decide +kernel
theorem d_M_meets_22 : decode c_M_meets 22 = .ok (.getfield 17, 3) := by decide +kernel
theorem d_M_meets_25 : decode c_M_meets 25 = .ok (.iload_n 1, 1) := by decide +kernel
theorem d_M_meets_26 : decode c_M_meets 26 = .ok (.iaload, 1) := by decide +kernel
theorem d_M_meets_27 : decode c_M_meets 27 = .ok (.iload 5, 2) := by decide +kernel
theorem d_M_meets_29 : decode c_M_meets 29 = .ok (.if_icmp .gt 17, 3) := by decide +kernel
theorem d_M_meets_32 : decode c_M_meets 32 = .ok (.aload_n 0, 1) := by decide +kernel
theorem d_M_meets_33 : decode c_M_meets 33 = .ok (.getfield 23, 3) := by decide +kernel
theorem d_M_meets_36 : decode c_M_meets 36 = .ok (.iload_n 1, 1) := by decide +kernel
theorem d_M_meets_37 : decode c_M_meets 37 = .ok (.iaload, 1) := by decide +kernel
theorem d_M_meets_38 : decode c_M_meets 38 = .ok (.iload_n 3, 1) := by decide +kernel
theorem d_M_meets_39 : decode c_M_meets 39 = .ok (.if_icmp .lt 7, 3) := by decide +kernel
theorem d_M_meets_42 : decode c_M_meets 42 = .ok (.iconst 1, 1) := by decide +kernel
theorem d_M_meets_43 : decode c_M_meets 43 = .ok (.goto 4, 3) := by decide +kernel
theorem d_M_meets_46 : decode c_M_meets 46 = .ok (.iconst 0, 1) := by decide +kernel
theorem d_M_meets_47 : decode c_M_meets 47 = .ok (.ireturn, 1) := by decide +kernel
theorem d_M_lies_0 : decode c_M_lies 0 = .ok (.aload_n 0, 1) := by decide +kernel
theorem d_M_lies_1 : decode c_M_lies 1 = .ok (.getfield 13, 3) := by decide +kernel
theorem d_M_lies_4 : decode c_M_lies 4 = .ok (.iload_n 1, 1) := by decide +kernel
theorem d_M_lies_5 : decode c_M_lies 5 = .ok (.iaload, 1) := by decide +kernel
theorem d_M_lies_6 : decode c_M_lies 6 = .ok (.iload_n 2, 1) := by decide +kernel
theorem d_M_lies_7 : decode c_M_lies 7 = .ok (.if_icmp .lt 39, 3) := by decide +kernel
theorem d_M_lies_10 : decode c_M_lies 10 = .ok (.aload_n 0, 1) := by decide +kernel
theorem d_M_lies_11 : decode c_M_lies 11 = .ok (.getfield 20, 3) := by decide +kernel
theorem d_M_lies_14 : decode c_M_lies 14 = .ok (.iload_n 1, 1) := by decide +kernel
theorem d_M_lies_15 : decode c_M_lies 15 = .ok (.iaload, 1) := by decide +kernel
theorem d_M_lies_16 : decode c_M_lies 16 = .ok (.iload 4, 2) := by decide +kernel
theorem d_M_lies_18 : decode c_M_lies 18 = .ok (.if_icmp .gt 28, 3) := by decide +kernel
theorem d_M_lies_21 : decode c_M_lies 21 = .ok (.aload_n 0, 1) := by decide +kernel
theorem d_M_lies_22 : decode c_M_lies 22 = .ok (.getfield 17, 3) := by decide +kernel
theorem d_M_lies_25 : decode c_M_lies 25 = .ok (.iload_n 1, 1) := by decide +kernel
theorem d_M_lies_26 : decode c_M_lies 26 = .ok (.iaload, 1) := by decide +kernel
theorem d_M_lies_27 : decode c_M_lies 27 = .ok (.iload_n 3, 1) := by decide +kernel
theorem d_M_lies_28 : decode c_M_lies 28 = .ok (.if_icmp .lt 18, 3) := by decide +kernel
theorem d_M_lies_31 : decode c_M_lies 31 = .ok (.aload_n 0, 1) := by decide +kernel
theorem d_M_lies_32 : decode c_M_lies 32 = .ok (.getfield 23, 3) := by decide +kernel
theorem d_M_lies_35 : decode c_M_lies 35 = .ok (.iload_n 1, 1) := by decide +kernel
theorem d_M_lies_36 : decode c_M_lies 36 = .ok (.iaload, 1) := by decide +kernel
theorem d_M_lies_37 : decode c_M_lies 37 = .ok (.iload 5, 2) := by decide +kernel
theorem d_M_lies_39 : decode c_M_lies 39 = .ok (.if_icmp .gt 7, 3) := by decide +kernel
theorem d_M_lies_42 : decode c_M_lies 42 = .ok (.iconst 1, 1) := by decide +kernel
theorem d_M_lies_43 : decode c_M_lies 43 = .ok (.goto 4, 3) := by decide +kernel
theorem d_M_lies_46 : decode c_M_lies 46 = .ok (.iconst 0, 1) := by decide +kernel
theorem d_M_lies_47 : decode c_M_lies 47 = .ok (.ireturn, 1) := by decide +kernel
theorem d_M_has_0 : decode c_M_has 0 = .ok (.aload_n 0, 1) := by decide +kernel
theorem d_M_has_1 : decode c_M_has 1 = .ok (.getfield 13, 3) := by decide +kernel
theorem d_M_has_4 : decode c_M_has 4 = .ok (.iload_n 1, 1) := by decide +kernel
theorem d_M_has_5 : decode c_M_has 5 = .ok (.iaload, 1) := by decide +kernel
theorem d_M_has_6 : decode c_M_has 6 = .ok (.iload_n 2, 1) := by decide +kernel
theorem d_M_has_7 : decode c_M_has 7 = .ok (.if_icmp .gt 39, 3) := by decide +kernel
theorem d_M_has_10 : decode c_M_has 10 = .ok (.aload_n 0, 1) := by decide +kernel
theorem d_M_has_11 : decode c_M_has 11 = .ok (.getfield 20, 3) := by decide +kernel
theorem d_M_has_14 : decode c_M_has 14 = .ok (.iload_n 1, 1) := by decide +kernel
theorem d_M_has_15 : decode c_M_has 15 = .ok (.iaload, 1) := by decide +kernel
theorem d_M_has_16 : decode c_M_has 16 = .ok (.iload 4, 2) := by decide +kernel
theorem d_M_has_18 : decode c_M_has 18 = .ok (.if_icmp .lt 28, 3) := by decide +kernel
theorem d_M_has_21 : decode c_M_has 21 = .ok (.aload_n 0, 1) := by decide +kernel
theorem d_M_has_22 : decode c_M_has 22 = .ok (.getfield 17, 3) := by decide +kernel
theorem d_M_has_25 : decode c_M_has 25 = .ok (.iload_n 1, 1) := by decide +kernel
theorem d_M_has_26 : decode c_M_has 26 = .ok (.iaload, 1) := by decide +kernel
theorem d_M_has_27 : decode c_M_has 27 = .ok (.iload_n 3, 1) := by decide +kernel
theorem d_M_has_28 : decode c_M_has 28 = .ok (.if_icmp .gt 18, 3) := by decide +kernel
theorem d_M_has_31 : decode c_M_has 31 = .ok (.aload_n 0, 1) := by decide +kernel
theorem d_M_has_32 : decode c_M_has 32 = .ok (.getfield 23, 3) := by decide +kernel
theorem d_M_has_35 : decode c_M_has 35 = .ok (.iload_n 1, 1) := by decide +kernel
theorem d_M_has_36 : decode c_M_has 36 = .ok (.iaload, 1) := by decide +kernel
theorem d_M_has_37 : decode c_M_has 37 = .ok (.iload 5, 2) := by decide +kernel
theorem d_M_has_39 : decode c_M_has 39 = .ok (.if_icmp .lt 7, 3) := by decide +kernel
theorem d_M_has_42 : decode c_M_has 42 = .ok (.iconst 1, 1) := by decide +kernel
theorem d_M_has_43 : decode c_M_has 43 = .ok (.goto 4, 3) := by decide +kernel
theorem d_M_has_46 : decode c_M_has 46 = .ok (.iconst 0, 1) := by decide +kernel
theorem d_M_has_47 : decode c_M_has 47 = .ok (.ireturn, 1) := by decide +kernel
