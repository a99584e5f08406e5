/-! decode rows, by program -/
theorem d_X_meets_0 : decode c_X_meets 0 = .ok (.aload_n 0, 1) := by decide +kernel
theorem d_X_meets_1 : decode c_X_meets 1 = .ok (.getfield 15, 3) := by decide +kernel
theorem d_X_meets_4 : decode c_X_meets 4 = .ok (.aload_n 1, 1) := by decide +kernel
theorem d_X_meets_5 : decode c_X_meets 5 = .ok (.getfield 21, 3) := by decide +kernel
theorem d_X_meets_8 : decode c_X_meets 8 = .ok (.if_icmp .gt 40, 3) := by decide +kernel
theorem d_X_meets_11 : decode c_X_meets 11 = .ok (.aload_n 1, 1) := by decide +kernel
theorem d_X_meets_12 : decode c_X_meets 12 = .ok (.getfield 15, 3) := by decide +kernel
theorem d_X_meets_15 : decode c_X_meets 15 = .ok (.aload_n 0, 1) := by decide +kernel
theorem d_X_meets_16 : decode c_X_meets 16 = .ok (.getfield 21, 3) := by decide +kernel
theorem d_X_meets_19 : decode c_X_meets 19 = .ok (.if_icmp .gt 29, 3) := by decide +kernel
theorem d_X_meets_22 : decode c_X_meets 22 = .ok (.aload_n 0, 1) := by decide +kernel
theorem d_X_meets_23 : decode c_X_meets 23 = .ok (.getfield 18, 3) := by decide +kernel
theorem d_X_meets_26 : decode c_X_meets 26 = .ok (.aload_n 1, 1) := by decide +kernel
theorem d_X_meets_27 : decode c_X_meets 27 = .ok (.getfield 24, 3) := by decide +kernel
theorem d_X_meets_30 : decode c_X_meets 30 = .ok (.if_icmp .gt 18, 3) := by decide +kernel
theorem d_X_meets_33 : decode c_X_meets 33 = .ok (.aload_n 1, 1) := by decide +kernel
theorem d_X_meets_34 : decode c_X_meets 34 = .ok (.getfield 18, 3) := by decide +kernel
theorem d_X_meets_37 : decode c_X_meets 37 = .ok (.aload_n 0, 1) := by decide +kernel
theorem d_X_meets_38 : decode c_X_meets 38 = .ok (.getfield 24, 3) := by decide +kernel
theorem d_X_meets_41 : decode c_X_meets 41 = .ok (.if_icmp .gt 7, 3) := by decide +kernel
theorem d_X_meets_44 : decode c_X_meets 44 = .ok (.iconst 1, 1) := by decide +kernel
theorem d_X_meets_45 : decode c_X_meets 45 = .ok (.goto 4, 3) := by decide +kernel
theorem d_X_meets_48 : decode c_X_meets 48 = .ok (.iconst 0, 1) := by decide +kernel
theorem d_X_meets_49 : decode c_X_meets 49 = .ok (.ireturn, 1) := by decide +kernel
theorem d_X_init_0 : decode c_X_init 0 = .ok (.aload_n 0, 1) := by decide +kernel
theorem d_X_init_1 : decode c_X_init 1 = .ok (.invokespecial 3, 3) := by decide +kernel
theorem d_X_init_4 : decode c_X_init 4 = .ok (.aload_n 0, 1) := by decide +kernel
theorem d_X_init_5 : decode c_X_init 5 = .ok (.iload_n 1, 1) := by decide +kernel
theorem d_X_init_6 : decode c_X_init 6 = .ok (.putfield 9, 3) := by decide +kernel
theorem d_X_init_9 : decode c_X_init 9 = .ok (.aload_n 0, 1) := by decide +kernel
theorem d_X_init_10 : decode c_X_init 10 = .ok (.iload_n 2, 1) := by decide +kernel
theorem d_X_init_11 : decode c_X_init 11 = .ok (.putfield 15, 3) := by decide +kernel
theorem d_X_init_14 : decode c_X_init 14 = .ok (.aload_n 0, 1) := by decide +kernel
theorem d_X_init_15 : decode c_X_init 15 = .ok (.iload_n 3, 1) := by decide +kernel
theorem d_X_init_16 : decode c_X_init 16 = .ok (.putfield 18, 3) := by decide +kernel
theorem d_X_init_19 : decode c_X_init 19 = .ok (.aload_n 0, 1) := by decide +kernel
theorem d_X_init_20 : decode c_X_init 20 = .ok (.iload 4, 2) := by decide +kernel
theorem d_X_init_22 : decode c_X_init 22 = .ok (.putfield 21, 3) := by decide +kernel
theorem d_X_init_25 : decode c_X_init 25 = .ok (.aload_n 0, 1) := by decide +kernel
theorem d_X_init_26 : decode c_X_init 26 = .ok (.iload 5, 2) := by decide +kernel
theorem d_X_init_28 : decode c_X_init 28 = .ok (.putfield 24, 3) := by decide +kernel
theorem d_X_init_31 : decode c_X_init 31 = .ok (.return_, 1) := by decide +kernel
theorem d_X_liesIn_0 : decode c_X_liesIn 0 = .ok (.aload_n 1, 1) := by decide +kernel
theorem d_X_liesIn_1 : decode c_X_liesIn 1 = .ok (.getfield 15, 3) := by decide +kernel
theorem d_X_liesIn_4 : decode c_X_liesIn 4 = .ok (.aload_n 0, 1) := by decide +kernel
theorem d_X_liesIn_5 : decode c_X_liesIn 5 = .ok (.getfield 15, 3) := by decide +kernel
theorem d_X_liesIn_8 : decode c_X_liesIn 8 = .ok (.if_icmp .gt 40, 3) := by decide +kernel
theorem d_X_liesIn_11 : decode c_X_liesIn 11 = .ok (.aload_n 0, 1) := by decide +kernel
theorem d_X_liesIn_12 : decode c_X_liesIn 12 = .ok (.getfield 21, 3) := by decide +kernel
theorem d_X_liesIn_15 : decode c_X_liesIn 15 = .ok (.aload_n 1, 1) := by decide +kernel
theorem d_X_liesIn_16 : decode c_X_liesIn 16 = .ok (.getfield 21, 3) := by decide +kernel
theorem d_X_liesIn_19 : decode c_X_liesIn 19 = .ok (.if_icmp .gt 29, 3) := by decide +kernel
theorem d_X_liesIn_22 : decode c_X_liesIn 22 = .ok (.aload_n 1, 1) := by decide +kernel
theorem d_X_liesIn_23 : decode c_X_liesIn 23 = .ok (.getfield 18, 3) := by decide +kernel
theorem d_X_liesIn_26 : decode c_X_liesIn 26 = .ok (.aload_n 0, 1) := by decide +kernel
theorem d_X_liesIn_27 : decode c_X_liesIn 27 = .ok (.getfield 18, 3) := by decide +kernel
theorem d_X_liesIn_30 : decode c_X_liesIn 30 = .ok (.if_icmp .gt 18, 3) := by decide +kernel
theorem d_X_liesIn_33 : decode c_X_liesIn 33 = .ok (.aload_n 0, 1) := by decide +kernel
theorem d_X_liesIn_34 : decode c_X_liesIn 34 = .ok (.getfield 24, 3) := by decide +kernel
theorem d_X_liesIn_37 : decode c_X_liesIn 37 = .ok (.aload_n 1, 1) := by decide +kernel
theorem d_X_liesIn_38 : decode c_X_liesIn 38 = .ok (.getfield 24, 3) := by decide +kernel
theorem d_X_liesIn_41 : decode c_X_liesIn 41 = .ok (.if_icmp .gt 7, 3) := by decide +kernel
theorem d_X_liesIn_44 : decode c_X_liesIn 44 = .ok (.iconst 1, 1) := by decide +kernel
theorem d_X_liesIn_45 : decode c_X_liesIn 45 = .ok (.goto 4, 3) := by decide +kernel
theorem d_X_liesIn_48 : decode c_X_liesIn 48 = .ok (.iconst 0, 1) := by decide +kernel
theorem d_X_liesIn_49 : decode c_X_liesIn 49 = .ok (.ireturn, 1) := by decide +kernel
theorem d_X_distanceFrom_0 : decode c_X_distanceFrom 0 = .ok (.iload_n 1, 1) := by decide +kernel
theorem d_X_distanceFrom_1 : decode c_X_distanceFrom 1 = .ok (.aload_n 0, 1) := by decide +kernel
theorem d_X_distanceFrom_2 : decode c_X_distanceFrom 2 = .ok (.getfield 15, 3) := by decide +kernel
theorem d_X_distanceFrom_5 : decode c_X_distanceFrom 5 = .ok (.aload_n 0, 1) := by decide +kernel
theorem d_X_distanceFrom_6 : decode c_X_distanceFrom 6 = .ok (.getfield 21, 3) := by decide +kernel
theorem d_X_distanceFrom_9 : decode c_X_distanceFrom 9 = .ok (.invokestatic 27, 3) := by decide +kernel
theorem d_X_distanceFrom_12 : decode c_X_distanceFrom 12 = .ok (.lstore_n 3, 1) := by decide +kernel
theorem d_X_distanceFrom_13 : decode c_X_distanceFrom 13 = .ok (.iload_n 2, 1) := by decide +kernel
theorem d_X_distanceFrom_14 : decode c_X_distanceFrom 14 = .ok (.aload_n 0, 1) := by decide +kernel
theorem d_X_distanceFrom_15 : decode c_X_distanceFrom 15 = .ok (.getfield 18, 3) := by decide +kernel
theorem d_X_distanceFrom_18 : decode c_X_distanceFrom 18 = .ok (.aload_n 0, 1) := by decide +kernel
theorem d_X_distanceFrom_19 : decode c_X_distanceFrom 19 = .ok (.getfield 24, 3) := by decide +kernel
theorem d_X_distanceFrom_22 : decode c_X_distanceFrom 22 = .ok (.invokestatic 27, 3) := by decide +kernel
theorem d_X_distanceFrom_25 : decode c_X_distanceFrom 25 = .ok (.lstore 5, 2) := by decide +kernel
theorem d_X_distanceFrom_27 : decode c_X_distanceFrom 27 = .ok (.lload_n 3, 1) := by decide +kernel
theorem d_X_distanceFrom_28 : decode c_X_distanceFrom 28 = .ok (.lload_n 3, 1) := by decide +kernel
theorem d_X_distanceFrom_29 : decode c_X_distanceFrom 29 = .ok (.lmul, 1) := by decide +kernel
theorem d_X_distanceFrom_30 : decode c_X_distanceFrom 30 = .ok (.lload 5, 2) := by decide +kernel
theorem d_X_distanceFrom_32 : decode c_X_distanceFrom 32 = .ok (.lload 5, 2) := by decide +kernel
theorem d_X_distanceFrom_34 : decode c_X_distanceFrom 34 = .ok (.lmul, 1) := by decide +kernel
theorem d_X_distanceFrom_35 : decode c_X_distanceFrom 35 = .ok (.ladd, 1) := by decide +kernel
theorem d_X_distanceFrom_36 : decode c_X_distanceFrom 36 = .ok (.lreturn, 1) := by decide +kernel
theorem d_X_wayTo_0 : decode c_X_wayTo 0 = .ok (.iload_n 0, 1) := by decide +kernel
theorem d_X_wayTo_1 : decode c_X_wayTo 1 = .ok (.iload_n 1, 1) := by decide +kernel
theorem d_X_wayTo_2 : decode c_X_wayTo 2 = .ok (.if_icmp .ge 9, 3) := by decide +kernel
theorem d_X_wayTo_5 : decode c_X_wayTo 5 = .ok (.iload_n 1, 1) := by decide +kernel
theorem d_X_wayTo_6 : decode c_X_wayTo 6 = .ok (.i2l, 1) := by decide +kernel
theorem d_X_wayTo_7 : decode c_X_wayTo 7 = .ok (.iload_n 0, 1) := by decide +kernel
theorem d_X_wayTo_8 : decode c_X_wayTo 8 = .ok (.i2l, 1) := by decide +kernel
theorem d_X_wayTo_9 : decode c_X_wayTo 9 = .ok (.lsub, 1) := by decide +kernel
theorem d_X_wayTo_10 : decode c_X_wayTo 10 = .ok (.lreturn, 1) := by decide +kernel
theorem d_X_wayTo_11 : decode c_X_wayTo 11 = .ok (.iload_n 0, 1) := by decide +kernel
theorem d_X_wayTo_12 : decode c_X_wayTo 12 = .ok (.iload_n 2, 1) := by decide +kernel
theorem d_X_wayTo_13 : decode c_X_wayTo 13 = .ok (.if_icmp .le 11, 3) := by decide +kernel
theorem d_X_wayTo_16 : decode c_X_wayTo 16 = .ok (.iload_n 0, 1) := by decide +kernel
theorem d_X_wayTo_17 : decode c_X_wayTo 17 = .ok (.i2l, 1) := by decide +kernel
theorem d_X_wayTo_18 : decode c_X_wayTo 18 = .ok (.iload_n 2, 1) := by decide +kernel
theorem d_X_wayTo_19 : decode c_X_wayTo 19 = .ok (.i2l, 1) := by decide +kernel
theorem d_X_wayTo_20 : decode c_X_wayTo 20 = .ok (.lsub, 1) := by decide +kernel
theorem d_X_wayTo_21 : decode c_X_wayTo 21 = .ok (.goto 4, 3) := by decide +kernel
theorem d_X_wayTo_24 : decode c_X_wayTo 24 = .ok (.lconst 0, 1) := by decide +kernel
theorem d_X_wayTo_25 : decode c_X_wayTo 25 = .ok (.lreturn, 1) := by decide +kernel
theorem d_X_bound_0 : decode c_X_bound 0 = .ok (.iload_n 1, 1) := by decide +kernel
theorem d_X_bound_1 : decode c_X_bound 1 = .ok (.tableswitch 42 0 2 #[27, 32, 37], 27) := by decide +kernel
theorem d_X_bound_28 : decode c_X_bound 28 = .ok (.aload_n 0, 1) := by decide +kernel
theorem d_X_bound_29 : decode c_X_bound 29 = .ok (.getfield 15, 3) := by decide +kernel
theorem d_X_bound_32 : decode c_X_bound 32 = .ok (.ireturn, 1) := by decide +kernel
theorem d_X_bound_33 : decode c_X_bound 33 = .ok (.aload_n 0, 1) := by decide +kernel
theorem d_X_bound_34 : decode c_X_bound 34 = .ok (.getfield 18, 3) := by decide +kernel
theorem d_X_bound_37 : decode c_X_bound 37 = .ok (.ireturn, 1) := by decide +kernel
theorem d_X_bound_38 : decode c_X_bound 38 = .ok (.aload_n 0, 1) := by decide +kernel
theorem d_X_bound_39 : decode c_X_bound 39 = .ok (.getfield 21, 3) := by decide +kernel
theorem d_X_bound_42 : decode c_X_bound 42 = .ok (.ireturn, 1) := by decide +kernel
theorem d_X_bound_43 : decode c_X_bound 43 = .ok (.aload_n 0, 1) := by decide +kernel
theorem d_X_bound_44 : decode c_X_bound 44 = .ok (.getfield 24, 3) := by decide +kernel
theorem d_X_bound_47 : decode c_X_bound 47 = .ok (.ireturn, 1) := by decide +kernel
theorem d_B_init_0 : decode c_B_init 0 = .ok (.aload_n 0, 1) := by decide +kernel
theorem d_B_init_1 : decode c_B_init 1 = .ok (.invokespecial 1, 3) := by decide +kernel
theorem d_B_init_4 : decode c_B_init 4 = .ok (.aload_n 0, 1) := by decide +kernel
theorem d_B_init_5 : decode c_B_init 5 = .ok (.new 7, 3) := by decide +kernel
theorem d_B_init_8 : decode c_B_init 8 = .ok (.dup, 1) := by decide +kernel
theorem d_B_init_9 : decode c_B_init 9 = .ok (.invokespecial 9, 3) := by decide +kernel
theorem d_B_init_12 : decode c_B_init 12 = .ok (.putfield 10, 3) := by decide +kernel
theorem d_B_init_15 : decode c_B_init 15 = .ok (.aload_n 0, 1) := by decide +kernel
theorem d_B_init_16 : decode c_B_init 16 = .ok (.bipush 16, 2) := by decide +kernel
theorem d_B_init_18 : decode c_B_init 18 = .ok (.newarray .int, 2) := by decide +kernel
theorem d_B_init_20 : decode c_B_init 20 = .ok (.putfield 16, 3) := by decide +kernel
theorem d_B_init_23 : decode c_B_init 23 = .ok (.aload_n 0, 1) := by decide +kernel
theorem d_B_init_24 : decode c_B_init 24 = .ok (.iconst 0, 1) := by decide +kernel
theorem d_B_init_25 : decode c_B_init 25 = .ok (.putfield 20, 3) := by decide +kernel
theorem d_B_init_28 : decode c_B_init 28 = .ok (.aload_n 0, 1) := by decide +kernel
theorem d_B_init_29 : decode c_B_init 29 = .ok (.bipush 16, 2) := by decide +kernel
theorem d_B_init_31 : decode c_B_init 31 = .ok (.newarray .long, 2) := by decide +kernel
theorem d_B_init_33 : decode c_B_init 33 = .ok (.putfield 24, 3) := by decide +kernel
theorem d_B_init_36 : decode c_B_init 36 = .ok (.return_, 1) := by decide +kernel
theorem d_B_clear_0 : decode c_B_clear 0 = .ok (.aload_n 0, 1) := by decide +kernel
theorem d_B_clear_1 : decode c_B_clear 1 = .ok (.getfield 10, 3) := by decide +kernel
theorem d_B_clear_4 : decode c_B_clear 4 = .ok (.invokevirtual 61, 3) := by decide +kernel
theorem d_B_clear_7 : decode c_B_clear 7 = .ok (.istore_n 1, 1) := by decide +kernel
theorem d_B_clear_8 : decode c_B_clear 8 = .ok (.aload_n 0, 1) := by decide +kernel
theorem d_B_clear_9 : decode c_B_clear 9 = .ok (.getfield 10, 3) := by decide +kernel
theorem d_B_clear_12 : decode c_B_clear 12 = .ok (.invokevirtual 65, 3) := by decide +kernel
theorem d_B_clear_15 : decode c_B_clear 15 = .ok (.iload_n 1, 1) := by decide +kernel
theorem d_B_clear_16 : decode c_B_clear 16 = .ok (.ireturn, 1) := by decide +kernel
theorem d_B_pairs_0 : decode c_B_pairs 0 = .ok (.aload_n 0, 1) := by decide +kernel
theorem d_B_pairs_1 : decode c_B_pairs 1 = .ok (.iconst 0, 1) := by decide +kernel
theorem d_B_pairs_2 : decode c_B_pairs 2 = .ok (.putfield 20, 3) := by decide +kernel
theorem d_B_pairs_5 : decode c_B_pairs 5 = .ok (.iconst 0, 1) := by decide +kernel
theorem d_B_pairs_6 : decode c_B_pairs 6 = .ok (.istore_n 1, 1) := by decide +kernel
theorem d_B_pairs_7 : decode c_B_pairs 7 = .ok (.iconst 0, 1) := by decide +kernel
theorem d_B_pairs_8 : decode c_B_pairs 8 = .ok (.istore_n 2, 1) := by decide +kernel
theorem d_B_pairs_9 : decode c_B_pairs 9 = .ok (.iload_n 2, 1) := by decide +kernel
theorem d_B_pairs_10 : decode c_B_pairs 10 = .ok (.aload_n 0, 1) := by decide +kernel
theorem d_B_pairs_11 : decode c_B_pairs 11 = .ok (.getfield 10, 3) := by decide +kernel
theorem d_B_pairs_14 : decode c_B_pairs 14 = .ok (.invokevirtual 61, 3) := by decide +kernel
theorem d_B_pairs_17 : decode c_B_pairs 17 = .ok (.if_icmp .ge 94, 3) := by decide +kernel
theorem d_B_pairs_20 : decode c_B_pairs 20 = .ok (.aload_n 0, 1) := by decide +kernel
theorem d_B_pairs_21 : decode c_B_pairs 21 = .ok (.getfield 10, 3) := by decide +kernel
theorem d_B_pairs_24 : decode c_B_pairs 24 = .ok (.iload_n 2, 1) := by decide +kernel
theorem d_B_pairs_25 : decode c_B_pairs 25 = .ok (.invokevirtual 75, 3) := by decide +kernel
theorem d_B_pairs_28 : decode c_B_pairs 28 = .ok (.checkcast 36, 3) := by decide +kernel
theorem d_B_pairs_31 : decode c_B_pairs 31 = .ok (.astore_n 3, 1) := by decide +kernel
theorem d_B_pairs_32 : decode c_B_pairs 32 = .ok (.iload_n 2, 1) := by decide +kernel
theorem d_B_pairs_33 : decode c_B_pairs 33 = .ok (.iconst 1, 1) := by decide +kernel
theorem d_B_pairs_34 : decode c_B_pairs 34 = .ok (.iadd, 1) := by decide +kernel
theorem d_B_pairs_35 : decode c_B_pairs 35 = .ok (.istore 4, 2) := by decide +kernel
theorem d_B_pairs_37 : decode c_B_pairs 37 = .ok (.iload 4, 2) := by decide +kernel
theorem d_B_pairs_39 : decode c_B_pairs 39 = .ok (.aload_n 0, 1) := by decide +kernel
theorem d_B_pairs_40 : decode c_B_pairs 40 = .ok (.getfield 10, 3) := by decide +kernel
theorem d_B_pairs_43 : decode c_B_pairs 43 = .ok (.invokevirtual 61, 3) := by decide +kernel
theorem d_B_pairs_46 : decode c_B_pairs 46 = .ok (.if_icmp .ge 59, 3) := by decide +kernel
theorem d_B_pairs_49 : decode c_B_pairs 49 = .ok (.aload_n 0, 1) := by decide +kernel
theorem d_B_pairs_50 : decode c_B_pairs 50 = .ok (.getfield 10, 3) := by decide +kernel
theorem d_B_pairs_53 : decode c_B_pairs 53 = .ok (.iload 4, 2) := by decide +kernel
theorem d_B_pairs_55 : decode c_B_pairs 55 = .ok (.invokevirtual 75, 3) := by decide +kernel
theorem d_B_pairs_58 : decode c_B_pairs 58 = .ok (.checkcast 36, 3) := by decide +kernel
theorem d_B_pairs_61 : decode c_B_pairs 61 = .ok (.astore 5, 2) := by decide +kernel
theorem d_B_pairs_63 : decode c_B_pairs 63 = .ok (.aload_n 3, 1) := by decide +kernel
theorem d_B_pairs_64 : decode c_B_pairs 64 = .ok (.aload 5, 2) := by decide +kernel
theorem d_B_pairs_66 : decode c_B_pairs 66 = .ok (.invokevirtual 114, 3) := by decide +kernel
theorem d_B_pairs_69 : decode c_B_pairs 69 = .ok (.ifCond .eq 30, 3) := by decide +kernel
theorem d_B_pairs_72 : decode c_B_pairs 72 = .ok (.iload_n 1, 1) := by decide +kernel
theorem d_B_pairs_73 : decode c_B_pairs 73 = .ok (.sipush 2048, 3) := by decide +kernel
theorem d_B_pairs_76 : decode c_B_pairs 76 = .ok (.if_icmp .ge 20, 3) := by decide +kernel
theorem d_B_pairs_79 : decode c_B_pairs 79 = .ok (.aload_n 0, 1) := by decide +kernel
theorem d_B_pairs_80 : decode c_B_pairs 80 = .ok (.aload_n 3, 1) := by decide +kernel
theorem d_B_pairs_81 : decode c_B_pairs 81 = .ok (.getfield 82, 3) := by decide +kernel
theorem d_B_pairs_84 : decode c_B_pairs 84 = .ok (.invokevirtual 85, 3) := by decide +kernel
theorem d_B_pairs_87 : decode c_B_pairs 87 = .ok (.aload_n 0, 1) := by decide +kernel
theorem d_B_pairs_88 : decode c_B_pairs 88 = .ok (.aload 5, 2) := by decide +kernel
theorem d_B_pairs_90 : decode c_B_pairs 90 = .ok (.getfield 82, 3) := by decide +kernel
theorem d_B_pairs_93 : decode c_B_pairs 93 = .ok (.invokevirtual 85, 3) := by decide +kernel
theorem d_B_pairs_96 : decode c_B_pairs 96 = .ok (.iinc 1 1, 3) := by decide +kernel
theorem d_B_pairs_99 : decode c_B_pairs 99 = .ok (.iinc 4 1, 3) := by decide +kernel
theorem d_B_pairs_102 : decode c_B_pairs 102 = .ok (.goto (-65), 3) := by decide +kernel
theorem d_B_pairs_105 : decode c_B_pairs 105 = .ok (.iinc 2 1, 3) := by decide +kernel
theorem d_B_pairs_108 : decode c_B_pairs 108 = .ok (.goto (-99), 3) := by decide +kernel
theorem d_B_pairs_111 : decode c_B_pairs 111 = .ok (.iload_n 1, 1) := by decide +kernel
theorem d_B_pairs_112 : decode c_B_pairs 112 = .ok (.ireturn, 1) := by decide +kernel
theorem d_B_append_0 : decode c_B_append 0 = .ok (.aload_n 0, 1) := by decide +kernel
theorem d_B_append_1 : decode c_B_append 1 = .ok (.aload_n 0, 1) := by decide +kernel
theorem d_B_append_2 : decode c_B_append 2 = .ok (.getfield 20, 3) := by decide +kernel
theorem d_B_append_5 : decode c_B_append 5 = .ok (.iconst 1, 1) := by decide +kernel
theorem d_B_append_6 : decode c_B_append 6 = .ok (.iadd, 1) := by decide +kernel
theorem d_B_append_7 : decode c_B_append 7 = .ok (.invokevirtual 100, 3) := by decide +kernel
theorem d_B_append_10 : decode c_B_append 10 = .ok (.aload_n 0, 1) := by decide +kernel
theorem d_B_append_11 : decode c_B_append 11 = .ok (.getfield 20, 3) := by decide +kernel
theorem d_B_append_14 : decode c_B_append 14 = .ok (.aload_n 0, 1) := by decide +kernel
theorem d_B_append_15 : decode c_B_append 15 = .ok (.getfield 16, 3) := by decide +kernel
theorem d_B_append_18 : decode c_B_append 18 = .ok (.arraylength, 1) := by decide +kernel
theorem d_B_append_19 : decode c_B_append 19 = .ok (.if_icmp .ge 23, 3) := by decide +kernel
theorem d_B_append_22 : decode c_B_append 22 = .ok (.aload_n 0, 1) := by decide +kernel
theorem d_B_append_23 : decode c_B_append 23 = .ok (.getfield 16, 3) := by decide +kernel
theorem d_B_append_26 : decode c_B_append 26 = .ok (.aload_n 0, 1) := by decide +kernel
theorem d_B_append_27 : decode c_B_append 27 = .ok (.getfield 20, 3) := by decide +kernel
theorem d_B_append_30 : decode c_B_append 30 = .ok (.iload_n 1, 1) := by decide +kernel
theorem d_B_append_31 : decode c_B_append 31 = .ok (.iastore, 1) := by decide +kernel
theorem d_B_append_32 : decode c_B_append 32 = .ok (.aload_n 0, 1) := by decide +kernel
theorem d_B_append_33 : decode c_B_append 33 = .ok (.dup, 1) := by decide +kernel
theorem d_B_append_34 : decode c_B_append 34 = .ok (.getfield 20, 3) := by decide +kernel
theorem d_B_append_37 : decode c_B_append 37 = .ok (.iconst 1, 1) := by decide +kernel
theorem d_B_append_38 : decode c_B_append 38 = .ok (.iadd, 1) := by decide +kernel
theorem d_B_append_39 : decode c_B_append 39 = .ok (.putfield 20, 3) := by decide +kernel
theorem d_B_append_42 : decode c_B_append 42 = .ok (.return_, 1) := by decide +kernel
theorem d_B_makeRoom_0 : decode c_B_makeRoom 0 = .ok (.iload_n 1, 1) := by decide +kernel
theorem d_B_makeRoom_1 : decode c_B_makeRoom 1 = .ok (.aload_n 0, 1) := by decide +kernel
theorem d_B_makeRoom_2 : decode c_B_makeRoom 2 = .ok (.getfield 16, 3) := by decide +kernel
theorem d_B_makeRoom_5 : decode c_B_makeRoom 5 = .ok (.arraylength, 1) := by decide +kernel
theorem d_B_makeRoom_6 : decode c_B_makeRoom 6 = .ok (.if_icmp .le 44, 3) := by decide +kernel
theorem d_B_makeRoom_9 : decode c_B_makeRoom 9 = .ok (.aload_n 0, 1) := by decide +kernel
theorem d_B_makeRoom_10 : decode c_B_makeRoom 10 = .ok (.getfield 16, 3) := by decide +kernel
theorem d_B_makeRoom_13 : decode c_B_makeRoom 13 = .ok (.arraylength, 1) := by decide +kernel
theorem d_B_makeRoom_14 : decode c_B_makeRoom 14 = .ok (.sipush 4096, 3) := by decide +kernel
theorem d_B_makeRoom_17 : decode c_B_makeRoom 17 = .ok (.if_icmp .ge 33, 3) := by decide +kernel
theorem d_B_makeRoom_20 : decode c_B_makeRoom 20 = .ok (.iload_n 1, 1) := by decide +kernel
theorem d_B_makeRoom_21 : decode c_B_makeRoom 21 = .ok (.iconst 2, 1) := by decide +kernel
theorem d_B_makeRoom_22 : decode c_B_makeRoom 22 = .ok (.aload_n 0, 1) := by decide +kernel
theorem d_B_makeRoom_23 : decode c_B_makeRoom 23 = .ok (.getfield 16, 3) := by decide +kernel
theorem d_B_makeRoom_26 : decode c_B_makeRoom 26 = .ok (.arraylength, 1) := by decide +kernel
theorem d_B_makeRoom_27 : decode c_B_makeRoom 27 = .ok (.imul, 1) := by decide +kernel
theorem d_B_makeRoom_28 : decode c_B_makeRoom 28 = .ok (.invokestatic 141, 3) := by decide +kernel
theorem d_B_makeRoom_31 : decode c_B_makeRoom 31 = .ok (.istore_n 2, 1) := by decide +kernel
theorem d_B_makeRoom_32 : decode c_B_makeRoom 32 = .ok (.aload_n 0, 1) := by decide +kernel
theorem d_B_makeRoom_33 : decode c_B_makeRoom 33 = .ok (.aload_n 0, 1) := by decide +kernel
theorem d_B_makeRoom_34 : decode c_B_makeRoom 34 = .ok (.getfield 16, 3) := by decide +kernel
theorem d_B_makeRoom_37 : decode c_B_makeRoom 37 = .ok (.iload_n 2, 1) := by decide +kernel
theorem d_B_makeRoom_38 : decode c_B_makeRoom 38 = .ok (.sipush 4096, 3) := by decide +kernel
theorem d_B_makeRoom_41 : decode c_B_makeRoom 41 = .ok (.invokestatic 94, 3) := by decide +kernel
theorem d_B_makeRoom_44 : decode c_B_makeRoom 44 = .ok (.invokestatic 164, 3) := by decide +kernel
theorem d_B_makeRoom_47 : decode c_B_makeRoom 47 = .ok (.putfield 16, 3) := by decide +kernel
theorem d_B_makeRoom_50 : decode c_B_makeRoom 50 = .ok (.return_, 1) := by decide +kernel
theorem d_B_count_0 : decode c_B_count 0 = .ok (.iload_n 1, 1) := by decide +kernel
theorem d_B_count_1 : decode c_B_count 1 = .ok (.lookupswitch 40 #[(0, 27), (1, 35)], 27) := by decide +kernel
theorem d_B_count_28 : decode c_B_count 28 = .ok (.aload_n 0, 1) := by decide +kernel
theorem d_B_count_29 : decode c_B_count 29 = .ok (.getfield 10, 3) := by decide +kernel
theorem d_B_count_32 : decode c_B_count 32 = .ok (.invokevirtual 61, 3) := by decide +kernel
theorem d_B_count_35 : decode c_B_count 35 = .ok (.ireturn, 1) := by decide +kernel
theorem d_B_count_36 : decode c_B_count 36 = .ok (.aload_n 0, 1) := by decide +kernel
theorem d_B_count_37 : decode c_B_count 37 = .ok (.getfield 20, 3) := by decide +kernel
theorem d_B_count_40 : decode c_B_count 40 = .ok (.ireturn, 1) := by decide +kernel
theorem d_B_count_41 : decode c_B_count 41 = .ok (.iconst (-1), 1) := by decide +kernel
theorem d_B_count_42 : decode c_B_count 42 = .ok (.ireturn, 1) := by decide +kernel
theorem d_B_put_0 : decode c_B_put 0 = .ok (.iload_n 1, 1) := by decide +kernel
theorem d_B_put_1 : decode c_B_put 1 = .ok (.invokestatic 28, 3) := by decide +kernel
theorem d_B_put_4 : decode c_B_put 4 = .ok (.iload_n 2, 1) := by decide +kernel
theorem d_B_put_5 : decode c_B_put 5 = .ok (.iload_n 3, 1) := by decide +kernel
theorem d_B_put_6 : decode c_B_put 6 = .ok (.iload 4, 2) := by decide +kernel
theorem d_B_put_8 : decode c_B_put 8 = .ok (.iload 5, 2) := by decide +kernel
theorem d_B_put_10 : decode c_B_put 10 = .ok (.invokestatic 32, 3) := by decide +kernel
theorem d_B_put_13 : decode c_B_put 13 = .ok (.new 36, 3) := by decide +kernel
theorem d_B_put_16 : decode c_B_put 16 = .ok (.dup, 1) := by decide +kernel
theorem d_B_put_17 : decode c_B_put 17 = .ok (.iload_n 1, 1) := by decide +kernel
theorem d_B_put_18 : decode c_B_put 18 = .ok (.iload_n 2, 1) := by decide +kernel
theorem d_B_put_19 : decode c_B_put 19 = .ok (.iload_n 3, 1) := by decide +kernel
theorem d_B_put_20 : decode c_B_put 20 = .ok (.iload 4, 2) := by decide +kernel
theorem d_B_put_22 : decode c_B_put 22 = .ok (.iload 5, 2) := by decide +kernel
theorem d_B_put_24 : decode c_B_put 24 = .ok (.invokespecial 38, 3) := by decide +kernel
theorem d_B_put_27 : decode c_B_put 27 = .ok (.astore 6, 2) := by decide +kernel
theorem d_B_put_29 : decode c_B_put 29 = .ok (.aload_n 0, 1) := by decide +kernel
theorem d_B_put_30 : decode c_B_put 30 = .ok (.iload_n 1, 1) := by decide +kernel
theorem d_B_put_31 : decode c_B_put 31 = .ok (.invokevirtual 41, 3) := by decide +kernel
theorem d_B_put_34 : decode c_B_put 34 = .ok (.istore 7, 2) := by decide +kernel
theorem d_B_put_36 : decode c_B_put 36 = .ok (.aload_n 0, 1) := by decide +kernel
theorem d_B_put_37 : decode c_B_put 37 = .ok (.iload 7, 2) := by decide +kernel
theorem d_B_put_39 : decode c_B_put 39 = .ok (.iload_n 1, 1) := by decide +kernel
theorem d_B_put_40 : decode c_B_put 40 = .ok (.invokevirtual 45, 3) := by decide +kernel
theorem d_B_put_43 : decode c_B_put 43 = .ok (.ifCond .eq 17, 3) := by decide +kernel
theorem d_B_put_46 : decode c_B_put 46 = .ok (.aload_n 0, 1) := by decide +kernel
theorem d_B_put_47 : decode c_B_put 47 = .ok (.getfield 10, 3) := by decide +kernel
theorem d_B_put_50 : decode c_B_put 50 = .ok (.iload 7, 2) := by decide +kernel
theorem d_B_put_52 : decode c_B_put 52 = .ok (.aload 6, 2) := by decide +kernel
theorem d_B_put_54 : decode c_B_put 54 = .ok (.invokevirtual 49, 3) := by decide +kernel
theorem d_B_put_57 : decode c_B_put 57 = .ok (.pop, 1) := by decide +kernel
theorem d_B_put_58 : decode c_B_put 58 = .ok (.iconst 1, 1) := by decide +kernel
theorem d_B_put_59 : decode c_B_put 59 = .ok (.ireturn, 1) := by decide +kernel
theorem d_B_put_60 : decode c_B_put 60 = .ok (.aload_n 0, 1) := by decide +kernel
theorem d_B_put_61 : decode c_B_put 61 = .ok (.getfield 10, 3) := by decide +kernel
theorem d_B_put_64 : decode c_B_put 64 = .ok (.iload 7, 2) := by decide +kernel
theorem d_B_put_66 : decode c_B_put 66 = .ok (.aload 6, 2) := by decide +kernel
theorem d_B_put_68 : decode c_B_put 68 = .ok (.invokevirtual 53, 3) := by decide +kernel
theorem d_B_put_71 : decode c_B_put 71 = .ok (.iconst 0, 1) := by decide +kernel
theorem d_B_put_72 : decode c_B_put 72 = .ok (.ireturn, 1) := by decide +kernel
theorem d_B_requireNumber_0 : decode c_B_requireNumber 0 = .ok (.iload_n 0, 1) := by decide +kernel
theorem d_B_requireNumber_1 : decode c_B_requireNumber 1 = .ok (.ifCond .lt 10, 3) := by decide +kernel
theorem d_B_requireNumber_4 : decode c_B_requireNumber 4 = .ok (.iload_n 0, 1) := by decide +kernel
theorem d_B_requireNumber_5 : decode c_B_requireNumber 5 = .ok (.sipush 4096, 3) := by decide +kernel
theorem d_B_requireNumber_8 : decode c_B_requireNumber 8 = .ok (.if_icmp .lt 13, 3) := by decide +kernel
theorem d_B_requireNumber_11 : decode c_B_requireNumber 11 = .ok (.new 144, 3) := by decide +kernel
theorem d_B_requireNumber_14 : decode c_B_requireNumber 14 = .ok (.dup, 1) := by decide +kernel
theorem d_B_requireNumber_15 : decode c_B_requireNumber 15 = .ok (.ldc 149, 2) := by decide +kernel
theorem d_B_requireNumber_17 : decode c_B_requireNumber 17 = .ok (.invokespecial 148, 3) := by decide +kernel
theorem d_B_requireNumber_20 : decode c_B_requireNumber 20 = .ok (.athrow, 1) := by decide +kernel
theorem d_B_requireNumber_21 : decode c_B_requireNumber 21 = .ok (.return_, 1) := by decide +kernel
