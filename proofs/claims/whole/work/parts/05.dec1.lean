/-! decode rows, by program -/
theorem d_A_init_0 : decode c_A_init 0 = .ok (.aload_n 0, 1) := by decide +kernel
theorem d_A_init_1 : decode c_A_init 1 = .ok (.invokespecial 1, 3) := by decide +kernel
theorem d_A_init_4 : decode c_A_init 4 = .ok (.aload_n 0, 1) := by decide +kernel
theorem d_A_init_5 : decode c_A_init 5 = .ok (.getstatic 39, 3) := by decide +kernel
theorem d_A_init_8 : decode c_A_init 8 = .ok (.putfield 9, 3) := by decide +kernel
theorem d_A_init_11 : decode c_A_init 11 = .ok (.return_, 1) := by decide +kernel
theorem d_AL_init_0 : decode c_AL_init 0 = .ok (.aload_n 0, 1) := by decide +kernel
theorem d_AL_init_1 : decode c_AL_init 1 = .ok (.invokespecial 1, 3) := by decide +kernel
theorem d_AL_init_4 : decode c_AL_init 4 = .ok (.aload_n 0, 1) := by decide +kernel
theorem d_AL_init_5 : decode c_AL_init 5 = .ok (.iconst 0, 1) := by decide +kernel
theorem d_AL_init_6 : decode c_AL_init 6 = .ok (.putfield 7, 3) := by decide +kernel
theorem d_AL_init_9 : decode c_AL_init 9 = .ok (.return_, 1) := by decide +kernel
theorem d_AC_init_0 : decode c_AC_init 0 = .ok (.aload_n 0, 1) := by decide +kernel
theorem d_AC_init_1 : decode c_AC_init 1 = .ok (.invokespecial 1, 3) := by decide +kernel
theorem d_AC_init_4 : decode c_AC_init 4 = .ok (.return_, 1) := by decide +kernel
theorem d_A_size_0 : decode c_A_size 0 = .ok (.aload_n 0, 1) := by decide +kernel
theorem d_A_size_1 : decode c_A_size 1 = .ok (.getfield 48, 3) := by decide +kernel
theorem d_A_size_4 : decode c_A_size 4 = .ok (.ireturn, 1) := by decide +kernel
theorem d_A_clear_0 : decode c_A_clear 0 = .ok (.aload_n 0, 1) := by decide +kernel
theorem d_A_clear_1 : decode c_A_clear 1 = .ok (.dup, 1) := by decide +kernel
theorem d_A_clear_2 : decode c_A_clear 2 = .ok (.getfield 63, 3) := by decide +kernel
theorem d_A_clear_5 : decode c_A_clear 5 = .ok (.iconst 1, 1) := by decide +kernel
theorem d_A_clear_6 : decode c_A_clear 6 = .ok (.iadd, 1) := by decide +kernel
theorem d_A_clear_7 : decode c_A_clear 7 = .ok (.putfield 63, 3) := by decide +kernel
theorem d_A_clear_10 : decode c_A_clear 10 = .ok (.aload_n 0, 1) := by decide +kernel
theorem d_A_clear_11 : decode c_A_clear 11 = .ok (.getfield 9, 3) := by decide +kernel
theorem d_A_clear_14 : decode c_A_clear 14 = .ok (.astore_n 1, 1) := by decide +kernel
theorem d_A_clear_15 : decode c_A_clear 15 = .ok (.aload_n 0, 1) := by decide +kernel
theorem d_A_clear_16 : decode c_A_clear 16 = .ok (.getfield 48, 3) := by decide +kernel
theorem d_A_clear_19 : decode c_A_clear 19 = .ok (.istore_n 2, 1) := by decide +kernel
theorem d_A_clear_20 : decode c_A_clear 20 = .ok (.aload_n 0, 1) := by decide +kernel
theorem d_A_clear_21 : decode c_A_clear 21 = .ok (.iconst 0, 1) := by decide +kernel
theorem d_A_clear_22 : decode c_A_clear 22 = .ok (.dup_x1, 1) := by decide +kernel
theorem d_A_clear_23 : decode c_A_clear 23 = .ok (.putfield 48, 3) := by decide +kernel
theorem d_A_clear_26 : decode c_A_clear 26 = .ok (.istore_n 3, 1) := by decide +kernel
theorem d_A_clear_27 : decode c_A_clear 27 = .ok (.iload_n 3, 1) := by decide +kernel
theorem d_A_clear_28 : decode c_A_clear 28 = .ok (.iload_n 2, 1) := by decide +kernel
theorem d_A_clear_29 : decode c_A_clear 29 = .ok (.if_icmp .ge 13, 3) := by decide +kernel
theorem d_A_clear_32 : decode c_A_clear 32 = .ok (.aload_n 1, 1) := by decide +kernel
theorem d_A_clear_33 : decode c_A_clear 33 = .ok (.iload_n 3, 1) := by decide +kernel
theorem d_A_clear_34 : decode c_A_clear 34 = .ok (.aconst_null, 1) := by decide +kernel
theorem d_A_clear_35 : decode c_A_clear 35 = .ok (.aastore, 1) := by decide +kernel
theorem d_A_clear_36 : decode c_A_clear 36 = .ok (.iinc 3 1, 3) := by decide +kernel
theorem d_A_clear_39 : decode c_A_clear 39 = .ok (.goto (-12), 3) := by decide +kernel
theorem d_A_clear_42 : decode c_A_clear 42 = .ok (.return_, 1) := by decide +kernel
theorem d_A_get_0 : decode c_A_get 0 = .ok (.iload_n 1, 1) := by decide +kernel
theorem d_A_get_1 : decode c_A_get 1 = .ok (.aload_n 0, 1) := by decide +kernel
theorem d_A_get_2 : decode c_A_get 2 = .ok (.getfield 48, 3) := by decide +kernel
theorem d_A_get_5 : decode c_A_get 5 = .ok (.invokestatic 118, 3) := by decide +kernel
theorem d_A_get_8 : decode c_A_get 8 = .ok (.pop, 1) := by decide +kernel
theorem d_A_get_9 : decode c_A_get 9 = .ok (.aload_n 0, 1) := by decide +kernel
theorem d_A_get_10 : decode c_A_get 10 = .ok (.iload_n 1, 1) := by decide +kernel
theorem d_A_get_11 : decode c_A_get 11 = .ok (.invokevirtual 123, 3) := by decide +kernel
theorem d_A_get_14 : decode c_A_get 14 = .ok (.areturn, 1) := by decide +kernel
theorem d_O_checkIndex_0 : decode c_O_checkIndex 0 = .ok (.iload_n 0, 1) := by decide +kernel
theorem d_O_checkIndex_1 : decode c_O_checkIndex 1 = .ok (.iload_n 1, 1) := by decide +kernel
theorem d_O_checkIndex_2 : decode c_O_checkIndex 2 = .ok (.aconst_null, 1) := by decide +kernel
theorem d_O_checkIndex_3 : decode c_O_checkIndex 3 = .ok (.invokestatic 105, 3) := by decide +kernel
theorem d_O_checkIndex_6 : decode c_O_checkIndex 6 = .ok (.ireturn, 1) := by decide +kernel
theorem d_P_checkIndex_0 : decode c_P_checkIndex 0 = .ok (.iload_n 0, 1) := by decide +kernel
theorem d_P_checkIndex_1 : decode c_P_checkIndex 1 = .ok (.ifCond .lt 8, 3) := by decide +kernel
theorem d_P_checkIndex_4 : decode c_P_checkIndex 4 = .ok (.iload_n 0, 1) := by decide +kernel
theorem d_P_checkIndex_5 : decode c_P_checkIndex 5 = .ok (.iload_n 1, 1) := by decide +kernel
theorem d_P_checkIndex_6 : decode c_P_checkIndex 6 = .ok (.if_icmp .lt 10, 3) := by decide +kernel
theorem d_P_checkIndex_9 : decode c_P_checkIndex 9 = .ok (.aload_n 2, 1) := by decide +kernel
theorem d_P_checkIndex_10 : decode c_P_checkIndex 10 = .ok (.iload_n 0, 1) := by decide +kernel
theorem d_P_checkIndex_11 : decode c_P_checkIndex 11 = .ok (.iload_n 1, 1) := by decide +kernel
theorem d_P_checkIndex_12 : decode c_P_checkIndex 12 = .ok (.invokestatic 95, 3) := by decide +kernel
theorem d_P_checkIndex_15 : decode c_P_checkIndex 15 = .ok (.athrow, 1) := by decide +kernel
theorem d_P_checkIndex_16 : decode c_P_checkIndex 16 = .ok (.iload_n 0, 1) := by decide +kernel
theorem d_P_checkIndex_17 : decode c_P_checkIndex 17 = .ok (.ireturn, 1) := by decide +kernel
theorem d_A_elementData_0 : decode c_A_elementData 0 = .ok (.aload_n 0, 1) := by decide +kernel
theorem d_A_elementData_1 : decode c_A_elementData 1 = .ok (.getfield 9, 3) := by decide +kernel
theorem d_A_elementData_4 : decode c_A_elementData 4 = .ok (.iload_n 1, 1) := by decide +kernel
theorem d_A_elementData_5 : decode c_A_elementData 5 = .ok (.aaload, 1) := by decide +kernel
theorem d_A_elementData_6 : decode c_A_elementData 6 = .ok (.areturn, 1) := by decide +kernel
theorem d_R_copyOf_0 : decode c_R_copyOf 0 = .ok (.iload_n 1, 1) := by decide +kernel
theorem d_R_copyOf_1 : decode c_R_copyOf 1 = .ok (.aload_n 0, 1) := by decide +kernel
theorem d_R_copyOf_2 : decode c_R_copyOf 2 = .ok (.arraylength, 1) := by decide +kernel
theorem d_R_copyOf_3 : decode c_R_copyOf 3 = .ok (.if_icmp .ne 11, 3) := by decide +kernel
theorem d_R_copyOf_6 : decode c_R_copyOf 6 = .ok (.aload_n 0, 1) := by decide +kernel
theorem d_R_copyOf_7 : decode c_R_copyOf 7 = .ok (.invokevirtual 316, 3) := by decide +kernel
theorem d_R_copyOf_10 : decode c_R_copyOf 10 = .ok (.checkcast 317, 3) := by decide +kernel
theorem d_R_copyOf_13 : decode c_R_copyOf 13 = .ok (.areturn, 1) := by decide +kernel
theorem d_R_copyOf_14 : decode c_R_copyOf 14 = .ok (.iload_n 1, 1) := by decide +kernel
theorem d_R_copyOf_15 : decode c_R_copyOf 15 = .ok (.newarray .int, 2) := by decide +kernel
theorem d_R_copyOf_17 : decode c_R_copyOf 17 = .ok (.astore_n 2, 1) := by decide +kernel
theorem d_R_copyOf_18 : decode c_R_copyOf 18 = .ok (.aload_n 0, 1) := by decide +kernel
theorem d_R_copyOf_19 : decode c_R_copyOf 19 = .ok (.iconst 0, 1) := by decide +kernel
theorem d_R_copyOf_20 : decode c_R_copyOf 20 = .ok (.aload_n 2, 1) := by decide +kernel
theorem d_R_copyOf_21 : decode c_R_copyOf 21 = .ok (.iconst 0, 1) := by decide +kernel
theorem d_R_copyOf_22 : decode c_R_copyOf 22 = .ok (.aload_n 0, 1) := by decide +kernel
theorem d_R_copyOf_23 : decode c_R_copyOf 23 = .ok (.arraylength, 1) := by decide +kernel
theorem d_R_copyOf_24 : decode c_R_copyOf 24 = .ok (.iload_n 1, 1) := by decide +kernel
theorem d_R_copyOf_25 : decode c_R_copyOf 25 = .ok (.invokestatic 304, 3) := by decide +kernel
theorem d_R_copyOf_28 : decode c_R_copyOf 28 = .ok (.invokestatic 150, 3) := by decide +kernel
theorem d_R_copyOf_31 : decode c_R_copyOf 31 = .ok (.aload_n 2, 1) := by decide +kernel
theorem d_R_copyOf_32 : decode c_R_copyOf 32 = .ok (.areturn, 1) := by decide +kernel
theorem d_A_set_0 : decode c_A_set 0 = .ok (.iload_n 1, 1) := by decide +kernel
theorem d_A_set_1 : decode c_A_set 1 = .ok (.aload_n 0, 1) := by decide +kernel
theorem d_A_set_2 : decode c_A_set 2 = .ok (.getfield 48, 3) := by decide +kernel
theorem d_A_set_5 : decode c_A_set 5 = .ok (.invokestatic 118, 3) := by decide +kernel
theorem d_A_set_8 : decode c_A_set 8 = .ok (.pop, 1) := by decide +kernel
theorem d_A_set_9 : decode c_A_set 9 = .ok (.aload_n 0, 1) := by decide +kernel
theorem d_A_set_10 : decode c_A_set 10 = .ok (.iload_n 1, 1) := by decide +kernel
theorem d_A_set_11 : decode c_A_set 11 = .ok (.invokevirtual 123, 3) := by decide +kernel
theorem d_A_set_14 : decode c_A_set 14 = .ok (.astore_n 3, 1) := by decide +kernel
theorem d_A_set_15 : decode c_A_set 15 = .ok (.aload_n 0, 1) := by decide +kernel
theorem d_A_set_16 : decode c_A_set 16 = .ok (.getfield 9, 3) := by decide +kernel
theorem d_A_set_19 : decode c_A_set 19 = .ok (.iload_n 1, 1) := by decide +kernel
theorem d_A_set_20 : decode c_A_set 20 = .ok (.aload_n 2, 1) := by decide +kernel
theorem d_A_set_21 : decode c_A_set 21 = .ok (.aastore, 1) := by decide +kernel
theorem d_A_set_22 : decode c_A_set 22 = .ok (.aload_n 3, 1) := by decide +kernel
theorem d_A_set_23 : decode c_A_set 23 = .ok (.areturn, 1) := by decide +kernel
theorem d_A_add_0 : decode c_A_add 0 = .ok (.aload_n 0, 1) := by decide +kernel
theorem d_A_add_1 : decode c_A_add 1 = .ok (.iload_n 1, 1) := by decide +kernel
theorem d_A_add_2 : decode c_A_add 2 = .ok (.invokevirtual 135, 3) := by decide +kernel
theorem d_A_add_5 : decode c_A_add 5 = .ok (.aload_n 0, 1) := by decide +kernel
theorem d_A_add_6 : decode c_A_add 6 = .ok (.dup, 1) := by decide +kernel
theorem d_A_add_7 : decode c_A_add 7 = .ok (.getfield 63, 3) := by decide +kernel
theorem d_A_add_10 : decode c_A_add 10 = .ok (.iconst 1, 1) := by decide +kernel
theorem d_A_add_11 : decode c_A_add 11 = .ok (.iadd, 1) := by decide +kernel
theorem d_A_add_12 : decode c_A_add 12 = .ok (.putfield 63, 3) := by decide +kernel
theorem d_A_add_15 : decode c_A_add 15 = .ok (.aload_n 0, 1) := by decide +kernel
theorem d_A_add_16 : decode c_A_add 16 = .ok (.getfield 48, 3) := by decide +kernel
theorem d_A_add_19 : decode c_A_add 19 = .ok (.dup, 1) := by decide +kernel
theorem d_A_add_20 : decode c_A_add 20 = .ok (.istore_n 3, 1) := by decide +kernel
theorem d_A_add_21 : decode c_A_add 21 = .ok (.aload_n 0, 1) := by decide +kernel
theorem d_A_add_22 : decode c_A_add 22 = .ok (.getfield 9, 3) := by decide +kernel
theorem d_A_add_25 : decode c_A_add 25 = .ok (.dup, 1) := by decide +kernel
theorem d_A_add_26 : decode c_A_add 26 = .ok (.astore 4, 2) := by decide +kernel
theorem d_A_add_28 : decode c_A_add 28 = .ok (.arraylength, 1) := by decide +kernel
theorem d_A_add_29 : decode c_A_add 29 = .ok (.if_icmp .ne 9, 3) := by decide +kernel
theorem d_A_add_32 : decode c_A_add 32 = .ok (.aload_n 0, 1) := by decide +kernel
theorem d_A_add_33 : decode c_A_add 33 = .ok (.invokevirtual 129, 3) := by decide +kernel
theorem d_A_add_36 : decode c_A_add 36 = .ok (.astore 4, 2) := by decide +kernel
theorem d_A_add_38 : decode c_A_add 38 = .ok (.aload 4, 2) := by decide +kernel
theorem d_A_add_40 : decode c_A_add 40 = .ok (.iload_n 1, 1) := by decide +kernel
theorem d_A_add_41 : decode c_A_add 41 = .ok (.aload 4, 2) := by decide +kernel
theorem d_A_add_43 : decode c_A_add 43 = .ok (.iload_n 1, 1) := by decide +kernel
theorem d_A_add_44 : decode c_A_add 44 = .ok (.iconst 1, 1) := by decide +kernel
theorem d_A_add_45 : decode c_A_add 45 = .ok (.iadd, 1) := by decide +kernel
theorem d_A_add_46 : decode c_A_add 46 = .ok (.iload_n 3, 1) := by decide +kernel
theorem d_A_add_47 : decode c_A_add 47 = .ok (.iload_n 1, 1) := by decide +kernel
theorem d_A_add_48 : decode c_A_add 48 = .ok (.isub, 1) := by decide +kernel
theorem d_A_add_49 : decode c_A_add 49 = .ok (.invokestatic 112, 3) := by decide +kernel
theorem d_A_add_52 : decode c_A_add 52 = .ok (.aload 4, 2) := by decide +kernel
theorem d_A_add_54 : decode c_A_add 54 = .ok (.iload_n 1, 1) := by decide +kernel
theorem d_A_add_55 : decode c_A_add 55 = .ok (.aload_n 2, 1) := by decide +kernel
theorem d_A_add_56 : decode c_A_add 56 = .ok (.aastore, 1) := by decide +kernel
theorem d_A_add_57 : decode c_A_add 57 = .ok (.aload_n 0, 1) := by decide +kernel
theorem d_A_add_58 : decode c_A_add 58 = .ok (.iload_n 3, 1) := by decide +kernel
theorem d_A_add_59 : decode c_A_add 59 = .ok (.iconst 1, 1) := by decide +kernel
theorem d_A_add_60 : decode c_A_add 60 = .ok (.iadd, 1) := by decide +kernel
theorem d_A_add_61 : decode c_A_add 61 = .ok (.putfield 48, 3) := by decide +kernel
theorem d_A_add_64 : decode c_A_add 64 = .ok (.return_, 1) := by decide +kernel
theorem d_A_rangeCheckForAdd_0 : decode c_A_rangeCheckForAdd 0 = .ok (.iload_n 1, 1) := by decide +kernel
theorem d_A_rangeCheckForAdd_1 : decode c_A_rangeCheckForAdd 1 = .ok (.aload_n 0, 1) := by decide +kernel
theorem d_A_rangeCheckForAdd_2 : decode c_A_rangeCheckForAdd 2 = .ok (.getfield 48, 3) := by decide +kernel
theorem d_A_rangeCheckForAdd_5 : decode c_A_rangeCheckForAdd 5 = .ok (.if_icmp .gt 7, 3) := by decide +kernel
theorem d_A_rangeCheckForAdd_8 : decode c_A_rangeCheckForAdd 8 = .ok (.iload_n 1, 1) := by decide +kernel
theorem d_A_rangeCheckForAdd_9 : decode c_A_rangeCheckForAdd 9 = .ok (.ifCond .ge 16, 3) := by decide +kernel
theorem d_A_rangeCheckForAdd_12 : decode c_A_rangeCheckForAdd 12 = .ok (.new 187, 3) := by decide +kernel
theorem d_A_rangeCheckForAdd_15 : decode c_A_rangeCheckForAdd 15 = .ok (.dup, 1) := by decide +kernel
theorem d_A_rangeCheckForAdd_16 : decode c_A_rangeCheckForAdd 16 = .ok (.aload_n 0, 1) := by decide +kernel
theorem d_A_rangeCheckForAdd_17 : decode c_A_rangeCheckForAdd 17 = .ok (.iload_n 1, 1) := by decide +kernel
theorem d_A_rangeCheckForAdd_18 : decode c_A_rangeCheckForAdd 18 = .ok (.invokevirtual 198, 3) := by decide +kernel
theorem d_A_rangeCheckForAdd_21 : decode c_A_rangeCheckForAdd 21 = .ok (.invokespecial 193, 3) := by decide +kernel
theorem d_A_rangeCheckForAdd_24 : decode c_A_rangeCheckForAdd 24 = .ok (.athrow, 1) := by decide +kernel
theorem d_A_rangeCheckForAdd_25 : decode c_A_rangeCheckForAdd 25 = .ok (.return_, 1) := by decide +kernel
theorem d_S_newLength_0 : decode c_S_newLength 0 = .ok (.iload_n 0, 1) := by decide +kernel
theorem d_S_newLength_1 : decode c_S_newLength 1 = .ok (.iload_n 1, 1) := by decide +kernel
theorem d_S_newLength_2 : decode c_S_newLength 2 = .ok (.iload_n 2, 1) := by decide +kernel
theorem d_S_newLength_3 : decode c_S_newLength 3 = .ok (.invokestatic 194, 3) := by decide +kernel
theorem d_S_newLength_6 : decode c_S_newLength 6 = .ok (.iadd, 1) := by decide +kernel
theorem d_S_newLength_7 : decode c_S_newLength 7 = .ok (.istore_n 3, 1) := by decide +kernel
theorem d_S_newLength_8 : decode c_S_newLength 8 = .ok (.iconst 0, 1) := by decide +kernel
theorem d_S_newLength_9 : decode c_S_newLength 9 = .ok (.iload_n 3, 1) := by decide +kernel
theorem d_S_newLength_10 : decode c_S_newLength 10 = .ok (.if_icmp .ge 11, 3) := by decide +kernel
theorem d_S_newLength_13 : decode c_S_newLength 13 = .ok (.iload_n 3, 1) := by decide +kernel
theorem d_S_newLength_14 : decode c_S_newLength 14 = .ok (.ldc 200, 2) := by decide +kernel
theorem d_S_newLength_16 : decode c_S_newLength 16 = .ok (.if_icmp .gt 5, 3) := by decide +kernel
theorem d_S_newLength_19 : decode c_S_newLength 19 = .ok (.iload_n 3, 1) := by decide +kernel
theorem d_S_newLength_20 : decode c_S_newLength 20 = .ok (.ireturn, 1) := by decide +kernel
theorem d_S_newLength_21 : decode c_S_newLength 21 = .ok (.iload_n 0, 1) := by decide +kernel
theorem d_S_newLength_22 : decode c_S_newLength 22 = .ok (.iload_n 1, 1) := by decide +kernel
theorem d_S_newLength_23 : decode c_S_newLength 23 = .ok (.invokestatic 201, 3) := by decide +kernel
theorem d_S_newLength_26 : decode c_S_newLength 26 = .ok (.ireturn, 1) := by decide +kernel
theorem d_A_grow_0 : decode c_A_grow 0 = .ok (.aload_n 0, 1) := by decide +kernel
theorem d_A_grow_1 : decode c_A_grow 1 = .ok (.aload_n 0, 1) := by decide +kernel
theorem d_A_grow_2 : decode c_A_grow 2 = .ok (.getfield 48, 3) := by decide +kernel
theorem d_A_grow_5 : decode c_A_grow 5 = .ok (.iconst 1, 1) := by decide +kernel
theorem d_A_grow_6 : decode c_A_grow 6 = .ok (.iadd, 1) := by decide +kernel
theorem d_A_grow_7 : decode c_A_grow 7 = .ok (.invokevirtual 69, 3) := by decide +kernel
theorem d_A_grow_10 : decode c_A_grow 10 = .ok (.areturn, 1) := by decide +kernel
theorem d_A_grow2_0 : decode c_A_grow2 0 = .ok (.aload_n 0, 1) := by decide +kernel
theorem d_A_grow2_1 : decode c_A_grow2 1 = .ok (.getfield 9, 3) := by decide +kernel
theorem d_A_grow2_4 : decode c_A_grow2 4 = .ok (.arraylength, 1) := by decide +kernel
theorem d_A_grow2_5 : decode c_A_grow2 5 = .ok (.istore_n 2, 1) := by decide +kernel
theorem d_A_grow2_6 : decode c_A_grow2 6 = .ok (.iload_n 2, 1) := by decide +kernel
theorem d_A_grow2_7 : decode c_A_grow2 7 = .ok (.ifCond .gt 13, 3) := by decide +kernel
theorem d_A_grow2_10 : decode c_A_grow2 10 = .ok (.aload_n 0, 1) := by decide +kernel
theorem d_A_grow2_11 : decode c_A_grow2 11 = .ok (.getfield 9, 3) := by decide +kernel
theorem d_A_grow2_14 : decode c_A_grow2 14 = .ok (.getstatic 39, 3) := by decide +kernel
theorem d_A_grow2_17 : decode c_A_grow2 17 = .ok (.if_acmp .eq 28, 3) := by decide +kernel
theorem d_A_grow2_20 : decode c_A_grow2 20 = .ok (.iload_n 2, 1) := by decide +kernel
theorem d_A_grow2_21 : decode c_A_grow2 21 = .ok (.iload_n 1, 1) := by decide +kernel
theorem d_A_grow2_22 : decode c_A_grow2 22 = .ok (.iload_n 2, 1) := by decide +kernel
theorem d_A_grow2_23 : decode c_A_grow2 23 = .ok (.isub, 1) := by decide +kernel
theorem d_A_grow2_24 : decode c_A_grow2 24 = .ok (.iload_n 2, 1) := by decide +kernel
theorem d_A_grow2_25 : decode c_A_grow2 25 = .ok (.iconst 1, 1) := by decide +kernel
theorem d_A_grow2_26 : decode c_A_grow2 26 = .ok (.ishr, 1) := by decide +kernel
theorem d_A_grow2_27 : decode c_A_grow2 27 = .ok (.invokestatic 73, 3) := by decide +kernel
theorem d_A_grow2_30 : decode c_A_grow2 30 = .ok (.istore_n 3, 1) := by decide +kernel
theorem d_A_grow2_31 : decode c_A_grow2 31 = .ok (.aload_n 0, 1) := by decide +kernel
theorem d_A_grow2_32 : decode c_A_grow2 32 = .ok (.aload_n 0, 1) := by decide +kernel
theorem d_A_grow2_33 : decode c_A_grow2 33 = .ok (.getfield 9, 3) := by decide +kernel
theorem d_A_grow2_36 : decode c_A_grow2 36 = .ok (.iload_n 3, 1) := by decide +kernel
theorem d_A_grow2_37 : decode c_A_grow2 37 = .ok (.invokestatic 66, 3) := by decide +kernel
theorem d_A_grow2_40 : decode c_A_grow2 40 = .ok (.dup_x1, 1) := by decide +kernel
theorem d_A_grow2_41 : decode c_A_grow2 41 = .ok (.putfield 9, 3) := by decide +kernel
theorem d_A_grow2_44 : decode c_A_grow2 44 = .ok (.areturn, 1) := by decide +kernel
theorem d_A_grow2_45 : decode c_A_grow2 45 = .ok (.aload_n 0, 1) := by decide +kernel
theorem d_A_grow2_46 : decode c_A_grow2 46 = .ok (.bipush 10, 2) := by decide +kernel
theorem d_A_grow2_48 : decode c_A_grow2 48 = .ok (.iload_n 1, 1) := by decide +kernel
theorem d_A_grow2_49 : decode c_A_grow2 49 = .ok (.invokestatic 79, 3) := by decide +kernel
theorem d_A_grow2_52 : decode c_A_grow2 52 = .ok (.anewarray 7, 3) := by decide +kernel
theorem d_A_grow2_55 : decode c_A_grow2 55 = .ok (.dup_x1, 1) := by decide +kernel
theorem d_A_grow2_56 : decode c_A_grow2 56 = .ok (.putfield 9, 3) := by decide +kernel
theorem d_A_grow2_59 : decode c_A_grow2 59 = .ok (.areturn, 1) := by decide +kernel
theorem d_R_copyOf3_0 : decode c_R_copyOf3 0 = .ok (.aload_n 0, 1) := by decide +kernel
theorem d_R_copyOf3_1 : decode c_R_copyOf3 1 = .ok (.iload_n 1, 1) := by decide +kernel
theorem d_R_copyOf3_2 : decode c_R_copyOf3 2 = .ok (.aload_n 0, 1) := by decide +kernel
theorem d_R_copyOf3_3 : decode c_R_copyOf3 3 = .ok (.invokevirtual 86, 3) := by decide +kernel
theorem d_R_copyOf3_6 : decode c_R_copyOf3 6 = .ok (.invokestatic 300, 3) := by decide +kernel
theorem d_R_copyOf3_9 : decode c_R_copyOf3 9 = .ok (.areturn, 1) := by decide +kernel
theorem d_R_copyOf4_0 : decode c_R_copyOf4 0 = .ok (.aload_n 2, 1) := by decide +kernel
theorem d_R_copyOf4_1 : decode c_R_copyOf4 1 = .ok (.ldc 110, 2) := by decide +kernel
theorem d_R_copyOf4_3 : decode c_R_copyOf4 3 = .ok (.if_acmp .ne 10, 3) := by decide +kernel
theorem d_R_copyOf4_6 : decode c_R_copyOf4 6 = .ok (.iload_n 1, 1) := by decide +kernel
theorem d_R_copyOf4_7 : decode c_R_copyOf4 7 = .ok (.anewarray 2, 3) := by decide +kernel
theorem d_R_copyOf4_10 : decode c_R_copyOf4 10 = .ok (.goto 14, 3) := by decide +kernel
theorem d_R_copyOf4_13 : decode c_R_copyOf4 13 = .ok (.aload_n 2, 1) := by decide +kernel
theorem d_R_copyOf4_14 : decode c_R_copyOf4 14 = .ok (.invokevirtual 90, 3) := by decide +kernel
theorem d_R_copyOf4_17 : decode c_R_copyOf4 17 = .ok (.iload_n 1, 1) := by decide +kernel
theorem d_R_copyOf4_18 : decode c_R_copyOf4 18 = .ok (.invokestatic 95, 3) := by decide +kernel
theorem d_R_copyOf4_21 : decode c_R_copyOf4 21 = .ok (.checkcast 110, 3) := by decide +kernel
theorem d_R_copyOf4_24 : decode c_R_copyOf4 24 = .ok (.astore_n 3, 1) := by decide +kernel
theorem d_R_copyOf4_25 : decode c_R_copyOf4 25 = .ok (.aload_n 0, 1) := by decide +kernel
theorem d_R_copyOf4_26 : decode c_R_copyOf4 26 = .ok (.iconst 0, 1) := by decide +kernel
theorem d_R_copyOf4_27 : decode c_R_copyOf4 27 = .ok (.aload_n 3, 1) := by decide +kernel
theorem d_R_copyOf4_28 : decode c_R_copyOf4 28 = .ok (.iconst 0, 1) := by decide +kernel
theorem d_R_copyOf4_29 : decode c_R_copyOf4 29 = .ok (.aload_n 0, 1) := by decide +kernel
theorem d_R_copyOf4_30 : decode c_R_copyOf4 30 = .ok (.arraylength, 1) := by decide +kernel
theorem d_R_copyOf4_31 : decode c_R_copyOf4 31 = .ok (.iload_n 1, 1) := by decide +kernel
theorem d_R_copyOf4_32 : decode c_R_copyOf4 32 = .ok (.invokestatic 304, 3) := by decide +kernel
theorem d_R_copyOf4_35 : decode c_R_copyOf4 35 = .ok (.invokestatic 150, 3) := by decide +kernel
theorem d_R_copyOf4_38 : decode c_R_copyOf4 38 = .ok (.aload_n 3, 1) := by decide +kernel
theorem d_R_copyOf4_39 : decode c_R_copyOf4 39 = .ok (.areturn, 1) := by decide +kernel
theorem d_A_remove_0 : decode c_A_remove 0 = .ok (.iload_n 1, 1) := by decide +kernel
theorem d_A_remove_1 : decode c_A_remove 1 = .ok (.aload_n 0, 1) := by decide +kernel
theorem d_A_remove_2 : decode c_A_remove 2 = .ok (.getfield 48, 3) := by decide +kernel
theorem d_A_remove_5 : decode c_A_remove 5 = .ok (.invokestatic 118, 3) := by decide +kernel
theorem d_A_remove_8 : decode c_A_remove 8 = .ok (.pop, 1) := by decide +kernel
theorem d_A_remove_9 : decode c_A_remove 9 = .ok (.aload_n 0, 1) := by decide +kernel
theorem d_A_remove_10 : decode c_A_remove 10 = .ok (.getfield 9, 3) := by decide +kernel
theorem d_A_remove_13 : decode c_A_remove 13 = .ok (.astore_n 2, 1) := by decide +kernel
theorem d_A_remove_14 : decode c_A_remove 14 = .ok (.aload_n 2, 1) := by decide +kernel
theorem d_A_remove_15 : decode c_A_remove 15 = .ok (.iload_n 1, 1) := by decide +kernel
theorem d_A_remove_16 : decode c_A_remove 16 = .ok (.aaload, 1) := by decide +kernel
theorem d_A_remove_17 : decode c_A_remove 17 = .ok (.astore_n 3, 1) := by decide +kernel
theorem d_A_remove_18 : decode c_A_remove 18 = .ok (.aload_n 0, 1) := by decide +kernel
theorem d_A_remove_19 : decode c_A_remove 19 = .ok (.aload_n 2, 1) := by decide +kernel
theorem d_A_remove_20 : decode c_A_remove 20 = .ok (.iload_n 1, 1) := by decide +kernel
theorem d_A_remove_21 : decode c_A_remove 21 = .ok (.invokevirtual 144, 3) := by decide +kernel
theorem d_A_remove_24 : decode c_A_remove 24 = .ok (.aload_n 3, 1) := by decide +kernel
theorem d_A_remove_25 : decode c_A_remove 25 = .ok (.areturn, 1) := by decide +kernel
theorem d_A_fastRemove_0 : decode c_A_fastRemove 0 = .ok (.aload_n 0, 1) := by decide +kernel
theorem d_A_fastRemove_1 : decode c_A_fastRemove 1 = .ok (.dup, 1) := by decide +kernel
theorem d_A_fastRemove_2 : decode c_A_fastRemove 2 = .ok (.getfield 63, 3) := by decide +kernel
theorem d_A_fastRemove_5 : decode c_A_fastRemove 5 = .ok (.iconst 1, 1) := by decide +kernel
theorem d_A_fastRemove_6 : decode c_A_fastRemove 6 = .ok (.iadd, 1) := by decide +kernel
theorem d_A_fastRemove_7 : decode c_A_fastRemove 7 = .ok (.putfield 63, 3) := by decide +kernel
theorem d_A_fastRemove_10 : decode c_A_fastRemove 10 = .ok (.aload_n 0, 1) := by decide +kernel
theorem d_A_fastRemove_11 : decode c_A_fastRemove 11 = .ok (.getfield 48, 3) := by decide +kernel
theorem d_A_fastRemove_14 : decode c_A_fastRemove 14 = .ok (.iconst 1, 1) := by decide +kernel
theorem d_A_fastRemove_15 : decode c_A_fastRemove 15 = .ok (.isub, 1) := by decide +kernel
theorem d_A_fastRemove_16 : decode c_A_fastRemove 16 = .ok (.dup, 1) := by decide +kernel
theorem d_A_fastRemove_17 : decode c_A_fastRemove 17 = .ok (.istore_n 3, 1) := by decide +kernel
theorem d_A_fastRemove_18 : decode c_A_fastRemove 18 = .ok (.iload_n 2, 1) := by decide +kernel
theorem d_A_fastRemove_19 : decode c_A_fastRemove 19 = .ok (.if_icmp .le 15, 3) := by decide +kernel
theorem d_A_fastRemove_22 : decode c_A_fastRemove 22 = .ok (.aload_n 1, 1) := by decide +kernel
theorem d_A_fastRemove_23 : decode c_A_fastRemove 23 = .ok (.iload_n 2, 1) := by decide +kernel
theorem d_A_fastRemove_24 : decode c_A_fastRemove 24 = .ok (.iconst 1, 1) := by decide +kernel
theorem d_A_fastRemove_25 : decode c_A_fastRemove 25 = .ok (.iadd, 1) := by decide +kernel
theorem d_A_fastRemove_26 : decode c_A_fastRemove 26 = .ok (.aload_n 1, 1) := by decide +kernel
theorem d_A_fastRemove_27 : decode c_A_fastRemove 27 = .ok (.iload_n 2, 1) := by decide +kernel
theorem d_A_fastRemove_28 : decode c_A_fastRemove 28 = .ok (.iload_n 3, 1) := by decide +kernel
theorem d_A_fastRemove_29 : decode c_A_fastRemove 29 = .ok (.iload_n 2, 1) := by decide +kernel
theorem d_A_fastRemove_30 : decode c_A_fastRemove 30 = .ok (.isub, 1) := by decide +kernel
theorem d_A_fastRemove_31 : decode c_A_fastRemove 31 = .ok (.invokestatic 112, 3) := by decide +kernel
theorem d_A_fastRemove_34 : decode c_A_fastRemove 34 = .ok (.aload_n 1, 1) := by decide +kernel
theorem d_A_fastRemove_35 : decode c_A_fastRemove 35 = .ok (.aload_n 0, 1) := by decide +kernel
theorem d_A_fastRemove_36 : decode c_A_fastRemove 36 = .ok (.iload_n 3, 1) := by decide +kernel
theorem d_A_fastRemove_37 : decode c_A_fastRemove 37 = .ok (.dup_x1, 1) := by decide +kernel
theorem d_A_fastRemove_38 : decode c_A_fastRemove 38 = .ok (.putfield 48, 3) := by decide +kernel
theorem d_A_fastRemove_41 : decode c_A_fastRemove 41 = .ok (.aconst_null, 1) := by decide +kernel
theorem d_A_fastRemove_42 : decode c_A_fastRemove 42 = .ok (.aastore, 1) := by decide +kernel
theorem d_A_fastRemove_43 : decode c_A_fastRemove 43 = .ok (.return_, 1) := by decide +kernel
theorem d_A_isEmpty_0 : decode c_A_isEmpty 0 = .ok (.aload_n 0, 1) := by decide +kernel
theorem d_A_isEmpty_1 : decode c_A_isEmpty 1 = .ok (.getfield 48, 3) := by decide +kernel
theorem d_A_isEmpty_4 : decode c_A_isEmpty 4 = .ok (.ifCond .ne 7, 3) := by decide +kernel
theorem d_A_isEmpty_7 : decode c_A_isEmpty 7 = .ok (.iconst 1, 1) := by decide +kernel
theorem d_A_isEmpty_8 : decode c_A_isEmpty 8 = .ok (.goto 4, 3) := by decide +kernel
theorem d_A_isEmpty_11 : decode c_A_isEmpty 11 = .ok (.iconst 0, 1) := by decide +kernel
theorem d_A_isEmpty_12 : decode c_A_isEmpty 12 = .ok (.ireturn, 1) := by decide +kernel
