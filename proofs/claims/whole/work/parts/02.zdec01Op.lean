/-! decode rows -/
theorem d_Op_init_0 : decode prog_3_method_1_code 0 = .ok (.aload_n 0, 1) := by decide +kernel
theorem d_Op_init_1 : decode prog_3_method_1_code 1 = .ok (.invokespecial 3, 3) := by decide +kernel
theorem d_Op_init_4 : decode prog_3_method_1_code 4 = .ok (.aload_n 0, 1) := by decide +kernel
theorem d_Op_init_5 : decode prog_3_method_1_code 5 = .ok (.bipush 6, 2) := by decide +kernel
theorem d_Op_init_7 : decode prog_3_method_1_code 7 = .ok (.newarray .int, 2) := by decide +kernel
theorem d_Op_init_9 : decode prog_3_method_1_code 9 = .ok (.putfield 9, 3) := by decide +kernel
theorem d_Op_init_12 : decode prog_3_method_1_code 12 = .ok (.return_, 1) := by decide +kernel
theorem d_Op_begin_0 : decode prog_3_method_2_code 0 = .ok (.aload_n 0, 1) := by decide +kernel
theorem d_Op_begin_1 : decode prog_3_method_2_code 1 = .ok (.iload_n 1, 1) := by decide +kernel
theorem d_Op_begin_2 : decode prog_3_method_2_code 2 = .ok (.putfield 15, 3) := by decide +kernel
theorem d_Op_begin_5 : decode prog_3_method_2_code 5 = .ok (.aload_n 0, 1) := by decide +kernel
theorem d_Op_begin_6 : decode prog_3_method_2_code 6 = .ok (.iload_n 2, 1) := by decide +kernel
theorem d_Op_begin_7 : decode prog_3_method_2_code 7 = .ok (.putfield 19, 3) := by decide +kernel
theorem d_Op_begin_10 : decode prog_3_method_2_code 10 = .ok (.aload_n 0, 1) := by decide +kernel
theorem d_Op_begin_11 : decode prog_3_method_2_code 11 = .ok (.iload_n 3, 1) := by decide +kernel
theorem d_Op_begin_12 : decode prog_3_method_2_code 12 = .ok (.putfield 22, 3) := by decide +kernel
theorem d_Op_begin_15 : decode prog_3_method_2_code 15 = .ok (.aload_n 0, 1) := by decide +kernel
theorem d_Op_begin_16 : decode prog_3_method_2_code 16 = .ok (.iload 4, 2) := by decide +kernel
theorem d_Op_begin_18 : decode prog_3_method_2_code 18 = .ok (.putfield 25, 3) := by decide +kernel
theorem d_Op_begin_21 : decode prog_3_method_2_code 21 = .ok (.aload_n 0, 1) := by decide +kernel
theorem d_Op_begin_22 : decode prog_3_method_2_code 22 = .ok (.iload 5, 2) := by decide +kernel
theorem d_Op_begin_24 : decode prog_3_method_2_code 24 = .ok (.putfield 28, 3) := by decide +kernel
theorem d_Op_begin_27 : decode prog_3_method_2_code 27 = .ok (.aload_n 0, 1) := by decide +kernel
theorem d_Op_begin_28 : decode prog_3_method_2_code 28 = .ok (.iconst 0, 1) := by decide +kernel
theorem d_Op_begin_29 : decode prog_3_method_2_code 29 = .ok (.putfield 31, 3) := by decide +kernel
theorem d_Op_begin_32 : decode prog_3_method_2_code 32 = .ok (.return_, 1) := by decide +kernel
theorem d_Op_copyFrom_0 : decode prog_3_method_3_code 0 = .ok (.aload_n 0, 1) := by decide +kernel
theorem d_Op_copyFrom_1 : decode prog_3_method_3_code 1 = .ok (.aload_n 1, 1) := by decide +kernel
theorem d_Op_copyFrom_2 : decode prog_3_method_3_code 2 = .ok (.getfield 15, 3) := by decide +kernel
theorem d_Op_copyFrom_5 : decode prog_3_method_3_code 5 = .ok (.aload_n 1, 1) := by decide +kernel
theorem d_Op_copyFrom_6 : decode prog_3_method_3_code 6 = .ok (.getfield 19, 3) := by decide +kernel
theorem d_Op_copyFrom_9 : decode prog_3_method_3_code 9 = .ok (.aload_n 1, 1) := by decide +kernel
theorem d_Op_copyFrom_10 : decode prog_3_method_3_code 10 = .ok (.getfield 22, 3) := by decide +kernel
theorem d_Op_copyFrom_13 : decode prog_3_method_3_code 13 = .ok (.aload_n 1, 1) := by decide +kernel
theorem d_Op_copyFrom_14 : decode prog_3_method_3_code 14 = .ok (.getfield 25, 3) := by decide +kernel
theorem d_Op_copyFrom_17 : decode prog_3_method_3_code 17 = .ok (.aload_n 1, 1) := by decide +kernel
theorem d_Op_copyFrom_18 : decode prog_3_method_3_code 18 = .ok (.getfield 28, 3) := by decide +kernel
theorem d_Op_copyFrom_21 : decode prog_3_method_3_code 21 = .ok (.invokevirtual 34, 3) := by decide +kernel
theorem d_Op_copyFrom_24 : decode prog_3_method_3_code 24 = .ok (.aload_n 1, 1) := by decide +kernel
theorem d_Op_copyFrom_25 : decode prog_3_method_3_code 25 = .ok (.getfield 9, 3) := by decide +kernel
theorem d_Op_copyFrom_28 : decode prog_3_method_3_code 28 = .ok (.iconst 0, 1) := by decide +kernel
theorem d_Op_copyFrom_29 : decode prog_3_method_3_code 29 = .ok (.aload_n 0, 1) := by decide +kernel
theorem d_Op_copyFrom_30 : decode prog_3_method_3_code 30 = .ok (.getfield 9, 3) := by decide +kernel
theorem d_Op_copyFrom_33 : decode prog_3_method_3_code 33 = .ok (.iconst 0, 1) := by decide +kernel
theorem d_Op_copyFrom_34 : decode prog_3_method_3_code 34 = .ok (.bipush 6, 2) := by decide +kernel
theorem d_Op_copyFrom_36 : decode prog_3_method_3_code 36 = .ok (.invokestatic 38, 3) := by decide +kernel
theorem d_Op_copyFrom_39 : decode prog_3_method_3_code 39 = .ok (.aload_n 0, 1) := by decide +kernel
theorem d_Op_copyFrom_40 : decode prog_3_method_3_code 40 = .ok (.aload_n 1, 1) := by decide +kernel
theorem d_Op_copyFrom_41 : decode prog_3_method_3_code 41 = .ok (.getfield 31, 3) := by decide +kernel
theorem d_Op_copyFrom_44 : decode prog_3_method_3_code 44 = .ok (.putfield 31, 3) := by decide +kernel
theorem d_Op_copyFrom_47 : decode prog_3_method_3_code 47 = .ok (.return_, 1) := by decide +kernel
theorem d_Op_addBefore_0 : decode prog_3_method_4_code 0 = .ok (.aload_n 0, 1) := by decide +kernel
theorem d_Op_addBefore_1 : decode prog_3_method_4_code 1 = .ok (.getfield 31, 3) := by decide +kernel
theorem d_Op_addBefore_4 : decode prog_3_method_4_code 4 = .ok (.bipush 6, 2) := by decide +kernel
theorem d_Op_addBefore_6 : decode prog_3_method_4_code 6 = .ok (.if_icmp .lt 5, 3) := by decide +kernel
theorem d_Op_addBefore_9 : decode prog_3_method_4_code 9 = .ok (.iconst 0, 1) := by decide +kernel
theorem d_Op_addBefore_10 : decode prog_3_method_4_code 10 = .ok (.ireturn, 1) := by decide +kernel
theorem d_Op_addBefore_11 : decode prog_3_method_4_code 11 = .ok (.aload_n 0, 1) := by decide +kernel
theorem d_Op_addBefore_12 : decode prog_3_method_4_code 12 = .ok (.getfield 31, 3) := by decide +kernel
theorem d_Op_addBefore_15 : decode prog_3_method_4_code 15 = .ok (.istore_n 2, 1) := by decide +kernel
theorem d_Op_addBefore_16 : decode prog_3_method_4_code 16 = .ok (.iload_n 2, 1) := by decide +kernel
theorem d_Op_addBefore_17 : decode prog_3_method_4_code 17 = .ok (.ifCond .le 35, 3) := by decide +kernel
theorem d_Op_addBefore_20 : decode prog_3_method_4_code 20 = .ok (.aload_n 0, 1) := by decide +kernel
theorem d_Op_addBefore_21 : decode prog_3_method_4_code 21 = .ok (.getfield 9, 3) := by decide +kernel
theorem d_Op_addBefore_24 : decode prog_3_method_4_code 24 = .ok (.iload_n 2, 1) := by decide +kernel
theorem d_Op_addBefore_25 : decode prog_3_method_4_code 25 = .ok (.iconst 1, 1) := by decide +kernel
theorem d_Op_addBefore_26 : decode prog_3_method_4_code 26 = .ok (.isub, 1) := by decide +kernel
theorem d_Op_addBefore_27 : decode prog_3_method_4_code 27 = .ok (.iaload, 1) := by decide +kernel
theorem d_Op_addBefore_28 : decode prog_3_method_4_code 28 = .ok (.iload_n 1, 1) := by decide +kernel
theorem d_Op_addBefore_29 : decode prog_3_method_4_code 29 = .ok (.if_icmp .le 23, 3) := by decide +kernel
theorem d_Op_addBefore_32 : decode prog_3_method_4_code 32 = .ok (.aload_n 0, 1) := by decide +kernel
theorem d_Op_addBefore_33 : decode prog_3_method_4_code 33 = .ok (.getfield 9, 3) := by decide +kernel
theorem d_Op_addBefore_36 : decode prog_3_method_4_code 36 = .ok (.iload_n 2, 1) := by decide +kernel
theorem d_Op_addBefore_37 : decode prog_3_method_4_code 37 = .ok (.aload_n 0, 1) := by decide +kernel
theorem d_Op_addBefore_38 : decode prog_3_method_4_code 38 = .ok (.getfield 9, 3) := by decide +kernel
theorem d_Op_addBefore_41 : decode prog_3_method_4_code 41 = .ok (.iload_n 2, 1) := by decide +kernel
theorem d_Op_addBefore_42 : decode prog_3_method_4_code 42 = .ok (.iconst 1, 1) := by decide +kernel
theorem d_Op_addBefore_43 : decode prog_3_method_4_code 43 = .ok (.isub, 1) := by decide +kernel
theorem d_Op_addBefore_44 : decode prog_3_method_4_code 44 = .ok (.iaload, 1) := by decide +kernel
theorem d_Op_addBefore_45 : decode prog_3_method_4_code 45 = .ok (.iastore, 1) := by decide +kernel
theorem d_Op_addBefore_46 : decode prog_3_method_4_code 46 = .ok (.iinc 2 (-1), 3) := by decide +kernel
theorem d_Op_addBefore_49 : decode prog_3_method_4_code 49 = .ok (.goto (-33), 3) := by decide +kernel
theorem d_Op_addBefore_52 : decode prog_3_method_4_code 52 = .ok (.aload_n 0, 1) := by decide +kernel
theorem d_Op_addBefore_53 : decode prog_3_method_4_code 53 = .ok (.getfield 9, 3) := by decide +kernel
theorem d_Op_addBefore_56 : decode prog_3_method_4_code 56 = .ok (.iload_n 2, 1) := by decide +kernel
theorem d_Op_addBefore_57 : decode prog_3_method_4_code 57 = .ok (.iload_n 1, 1) := by decide +kernel
theorem d_Op_addBefore_58 : decode prog_3_method_4_code 58 = .ok (.iastore, 1) := by decide +kernel
theorem d_Op_addBefore_59 : decode prog_3_method_4_code 59 = .ok (.aload_n 0, 1) := by decide +kernel
theorem d_Op_addBefore_60 : decode prog_3_method_4_code 60 = .ok (.dup, 1) := by decide +kernel
theorem d_Op_addBefore_61 : decode prog_3_method_4_code 61 = .ok (.getfield 31, 3) := by decide +kernel
theorem d_Op_addBefore_64 : decode prog_3_method_4_code 64 = .ok (.iconst 1, 1) := by decide +kernel
theorem d_Op_addBefore_65 : decode prog_3_method_4_code 65 = .ok (.iadd, 1) := by decide +kernel
theorem d_Op_addBefore_66 : decode prog_3_method_4_code 66 = .ok (.putfield 31, 3) := by decide +kernel
theorem d_Op_addBefore_69 : decode prog_3_method_4_code 69 = .ok (.iconst 1, 1) := by decide +kernel
theorem d_Op_addBefore_70 : decode prog_3_method_4_code 70 = .ok (.ireturn, 1) := by decide +kernel
theorem d_Op_hasBefore_0 : decode prog_3_method_5_code 0 = .ok (.iconst 0, 1) := by decide +kernel
theorem d_Op_hasBefore_1 : decode prog_3_method_5_code 1 = .ok (.istore_n 2, 1) := by decide +kernel
theorem d_Op_hasBefore_2 : decode prog_3_method_5_code 2 = .ok (.iload_n 2, 1) := by decide +kernel
theorem d_Op_hasBefore_3 : decode prog_3_method_5_code 3 = .ok (.aload_n 0, 1) := by decide +kernel
theorem d_Op_hasBefore_4 : decode prog_3_method_5_code 4 = .ok (.getfield 31, 3) := by decide +kernel
theorem d_Op_hasBefore_7 : decode prog_3_method_5_code 7 = .ok (.if_icmp .ge 21, 3) := by decide +kernel
theorem d_Op_hasBefore_10 : decode prog_3_method_5_code 10 = .ok (.aload_n 0, 1) := by decide +kernel
theorem d_Op_hasBefore_11 : decode prog_3_method_5_code 11 = .ok (.getfield 9, 3) := by decide +kernel
theorem d_Op_hasBefore_14 : decode prog_3_method_5_code 14 = .ok (.iload_n 2, 1) := by decide +kernel
theorem d_Op_hasBefore_15 : decode prog_3_method_5_code 15 = .ok (.iaload, 1) := by decide +kernel
theorem d_Op_hasBefore_16 : decode prog_3_method_5_code 16 = .ok (.iload_n 1, 1) := by decide +kernel
theorem d_Op_hasBefore_17 : decode prog_3_method_5_code 17 = .ok (.if_icmp .ne 5, 3) := by decide +kernel
theorem d_Op_hasBefore_20 : decode prog_3_method_5_code 20 = .ok (.iconst 1, 1) := by decide +kernel
theorem d_Op_hasBefore_21 : decode prog_3_method_5_code 21 = .ok (.ireturn, 1) := by decide +kernel
theorem d_Op_hasBefore_22 : decode prog_3_method_5_code 22 = .ok (.iinc 2 1, 3) := by decide +kernel
theorem d_Op_hasBefore_25 : decode prog_3_method_5_code 25 = .ok (.goto (-23), 3) := by decide +kernel
theorem d_Op_hasBefore_28 : decode prog_3_method_5_code 28 = .ok (.iconst 0, 1) := by decide +kernel
theorem d_Op_hasBefore_29 : decode prog_3_method_5_code 29 = .ok (.ireturn, 1) := by decide +kernel
theorem d_Op_writesToMap_0 : decode prog_3_method_6_code 0 = .ok (.aload_n 0, 1) := by decide +kernel
theorem d_Op_writesToMap_1 : decode prog_3_method_6_code 1 = .ok (.getfield 19, 3) := by decide +kernel
theorem d_Op_writesToMap_4 : decode prog_3_method_6_code 4 = .ok (.ifCond .eq 27, 3) := by decide +kernel
theorem d_Op_writesToMap_7 : decode prog_3_method_6_code 7 = .ok (.aload_n 0, 1) := by decide +kernel
theorem d_Op_writesToMap_8 : decode prog_3_method_6_code 8 = .ok (.getfield 19, 3) := by decide +kernel
theorem d_Op_writesToMap_11 : decode prog_3_method_6_code 11 = .ok (.iconst 1, 1) := by decide +kernel
theorem d_Op_writesToMap_12 : decode prog_3_method_6_code 12 = .ok (.if_icmp .eq 19, 3) := by decide +kernel
theorem d_Op_writesToMap_15 : decode prog_3_method_6_code 15 = .ok (.aload_n 0, 1) := by decide +kernel
theorem d_Op_writesToMap_16 : decode prog_3_method_6_code 16 = .ok (.getfield 19, 3) := by decide +kernel
theorem d_Op_writesToMap_19 : decode prog_3_method_6_code 19 = .ok (.iconst 2, 1) := by decide +kernel
theorem d_Op_writesToMap_20 : decode prog_3_method_6_code 20 = .ok (.if_icmp .eq 11, 3) := by decide +kernel
theorem d_Op_writesToMap_23 : decode prog_3_method_6_code 23 = .ok (.aload_n 0, 1) := by decide +kernel
theorem d_Op_writesToMap_24 : decode prog_3_method_6_code 24 = .ok (.getfield 19, 3) := by decide +kernel
theorem d_Op_writesToMap_27 : decode prog_3_method_6_code 27 = .ok (.iconst 5, 1) := by decide +kernel
theorem d_Op_writesToMap_28 : decode prog_3_method_6_code 28 = .ok (.if_icmp .ne 7, 3) := by decide +kernel
theorem d_Op_writesToMap_31 : decode prog_3_method_6_code 31 = .ok (.iconst 1, 1) := by decide +kernel
theorem d_Op_writesToMap_32 : decode prog_3_method_6_code 32 = .ok (.goto 4, 3) := by decide +kernel
theorem d_Op_writesToMap_35 : decode prog_3_method_6_code 35 = .ok (.iconst 0, 1) := by decide +kernel
theorem d_Op_writesToMap_36 : decode prog_3_method_6_code 36 = .ok (.ireturn, 1) := by decide +kernel
theorem d_Op_names_0 : decode prog_3_method_7_code 0 = .ok (.iload_n 1, 1) := by decide +kernel
theorem d_Op_names_1 : decode prog_3_method_7_code 1 = .ok (.ifCond .eq 31, 3) := by decide +kernel
theorem d_Op_names_4 : decode prog_3_method_7_code 4 = .ok (.aload_n 0, 1) := by decide +kernel
theorem d_Op_names_5 : decode prog_3_method_7_code 5 = .ok (.getfield 22, 3) := by decide +kernel
theorem d_Op_names_8 : decode prog_3_method_7_code 8 = .ok (.iload_n 1, 1) := by decide +kernel
theorem d_Op_names_9 : decode prog_3_method_7_code 9 = .ok (.if_icmp .eq 19, 3) := by decide +kernel
theorem d_Op_names_12 : decode prog_3_method_7_code 12 = .ok (.aload_n 0, 1) := by decide +kernel
theorem d_Op_names_13 : decode prog_3_method_7_code 13 = .ok (.getfield 19, 3) := by decide +kernel
theorem d_Op_names_16 : decode prog_3_method_7_code 16 = .ok (.iconst 3, 1) := by decide +kernel
theorem d_Op_names_17 : decode prog_3_method_7_code 17 = .ok (.if_icmp .ne 15, 3) := by decide +kernel
theorem d_Op_names_20 : decode prog_3_method_7_code 20 = .ok (.aload_n 0, 1) := by decide +kernel
theorem d_Op_names_21 : decode prog_3_method_7_code 21 = .ok (.getfield 25, 3) := by decide +kernel
theorem d_Op_names_24 : decode prog_3_method_7_code 24 = .ok (.iload_n 1, 1) := by decide +kernel
theorem d_Op_names_25 : decode prog_3_method_7_code 25 = .ok (.if_icmp .ne 7, 3) := by decide +kernel
theorem d_Op_names_28 : decode prog_3_method_7_code 28 = .ok (.iconst 1, 1) := by decide +kernel
theorem d_Op_names_29 : decode prog_3_method_7_code 29 = .ok (.goto 4, 3) := by decide +kernel
theorem d_Op_names_32 : decode prog_3_method_7_code 32 = .ok (.iconst 0, 1) := by decide +kernel
theorem d_Op_names_33 : decode prog_3_method_7_code 33 = .ok (.ireturn, 1) := by decide +kernel
theorem d_Op_namesOnlyBefore_0 : decode prog_3_method_8_code 0 = .ok (.aload_n 0, 1) := by decide +kernel
theorem d_Op_namesOnlyBefore_1 : decode prog_3_method_8_code 1 = .ok (.getfield 19, 3) := by decide +kernel
theorem d_Op_namesOnlyBefore_4 : decode prog_3_method_8_code 4 = .ok (.iconst 3, 1) := by decide +kernel
theorem d_Op_namesOnlyBefore_5 : decode prog_3_method_8_code 5 = .ok (.if_icmp .ne 14, 3) := by decide +kernel
theorem d_Op_namesOnlyBefore_8 : decode prog_3_method_8_code 8 = .ok (.aload_n 0, 1) := by decide +kernel
theorem d_Op_namesOnlyBefore_9 : decode prog_3_method_8_code 9 = .ok (.getfield 25, 3) := by decide +kernel
theorem d_Op_namesOnlyBefore_12 : decode prog_3_method_8_code 12 = .ok (.ifCond .eq 7, 3) := by decide +kernel
theorem d_Op_namesOnlyBefore_15 : decode prog_3_method_8_code 15 = .ok (.iconst 1, 1) := by decide +kernel
theorem d_Op_namesOnlyBefore_16 : decode prog_3_method_8_code 16 = .ok (.goto 4, 3) := by decide +kernel
theorem d_Op_namesOnlyBefore_19 : decode prog_3_method_8_code 19 = .ok (.iconst 0, 1) := by decide +kernel
theorem d_Op_namesOnlyBefore_20 : decode prog_3_method_8_code 20 = .ok (.istore_n 1, 1) := by decide +kernel
theorem d_Op_namesOnlyBefore_21 : decode prog_3_method_8_code 21 = .ok (.aload_n 0, 1) := by decide +kernel
theorem d_Op_namesOnlyBefore_22 : decode prog_3_method_8_code 22 = .ok (.getfield 22, 3) := by decide +kernel
theorem d_Op_namesOnlyBefore_25 : decode prog_3_method_8_code 25 = .ok (.ifCond .eq 14, 3) := by decide +kernel
theorem d_Op_namesOnlyBefore_28 : decode prog_3_method_8_code 28 = .ok (.aload_n 0, 1) := by decide +kernel
theorem d_Op_namesOnlyBefore_29 : decode prog_3_method_8_code 29 = .ok (.aload_n 0, 1) := by decide +kernel
theorem d_Op_namesOnlyBefore_30 : decode prog_3_method_8_code 30 = .ok (.getfield 22, 3) := by decide +kernel
theorem d_Op_namesOnlyBefore_33 : decode prog_3_method_8_code 33 = .ok (.invokevirtual 44, 3) := by decide +kernel
theorem d_Op_namesOnlyBefore_36 : decode prog_3_method_8_code 36 = .ok (.ifCond .eq 22, 3) := by decide +kernel
theorem d_Op_namesOnlyBefore_39 : decode prog_3_method_8_code 39 = .ok (.iload_n 1, 1) := by decide +kernel
theorem d_Op_namesOnlyBefore_40 : decode prog_3_method_8_code 40 = .ok (.ifCond .eq 14, 3) := by decide +kernel
theorem d_Op_namesOnlyBefore_43 : decode prog_3_method_8_code 43 = .ok (.aload_n 0, 1) := by decide +kernel
theorem d_Op_namesOnlyBefore_44 : decode prog_3_method_8_code 44 = .ok (.aload_n 0, 1) := by decide +kernel
theorem d_Op_namesOnlyBefore_45 : decode prog_3_method_8_code 45 = .ok (.getfield 25, 3) := by decide +kernel
theorem d_Op_namesOnlyBefore_48 : decode prog_3_method_8_code 48 = .ok (.invokevirtual 44, 3) := by decide +kernel
theorem d_Op_namesOnlyBefore_51 : decode prog_3_method_8_code 51 = .ok (.ifCond .eq 7, 3) := by decide +kernel
theorem d_Op_namesOnlyBefore_54 : decode prog_3_method_8_code 54 = .ok (.iconst 1, 1) := by decide +kernel
theorem d_Op_namesOnlyBefore_55 : decode prog_3_method_8_code 55 = .ok (.goto 4, 3) := by decide +kernel
theorem d_Op_namesOnlyBefore_58 : decode prog_3_method_8_code 58 = .ok (.iconst 0, 1) := by decide +kernel
theorem d_Op_namesOnlyBefore_59 : decode prog_3_method_8_code 59 = .ok (.ireturn, 1) := by decide +kernel
theorem d_Op_isBehindBefore_0 : decode prog_3_method_9_code 0 = .ok (.iconst 0, 1) := by decide +kernel
theorem d_Op_isBehindBefore_1 : decode prog_3_method_9_code 1 = .ok (.istore_n 1, 1) := by decide +kernel
theorem d_Op_isBehindBefore_2 : decode prog_3_method_9_code 2 = .ok (.iload_n 1, 1) := by decide +kernel
theorem d_Op_isBehindBefore_3 : decode prog_3_method_9_code 3 = .ok (.aload_n 0, 1) := by decide +kernel
theorem d_Op_isBehindBefore_4 : decode prog_3_method_9_code 4 = .ok (.getfield 31, 3) := by decide +kernel
theorem d_Op_isBehindBefore_7 : decode prog_3_method_9_code 7 = .ok (.if_icmp .ge 24, 3) := by decide +kernel
theorem d_Op_isBehindBefore_10 : decode prog_3_method_9_code 10 = .ok (.aload_n 0, 1) := by decide +kernel
theorem d_Op_isBehindBefore_11 : decode prog_3_method_9_code 11 = .ok (.getfield 9, 3) := by decide +kernel
theorem d_Op_isBehindBefore_14 : decode prog_3_method_9_code 14 = .ok (.iload_n 1, 1) := by decide +kernel
theorem d_Op_isBehindBefore_15 : decode prog_3_method_9_code 15 = .ok (.iaload, 1) := by decide +kernel
theorem d_Op_isBehindBefore_16 : decode prog_3_method_9_code 16 = .ok (.aload_n 0, 1) := by decide +kernel
theorem d_Op_isBehindBefore_17 : decode prog_3_method_9_code 17 = .ok (.getfield 15, 3) := by decide +kernel
theorem d_Op_isBehindBefore_20 : decode prog_3_method_9_code 20 = .ok (.if_icmp .lt 5, 3) := by decide +kernel
theorem d_Op_isBehindBefore_23 : decode prog_3_method_9_code 23 = .ok (.iconst 0, 1) := by decide +kernel
theorem d_Op_isBehindBefore_24 : decode prog_3_method_9_code 24 = .ok (.ireturn, 1) := by decide +kernel
theorem d_Op_isBehindBefore_25 : decode prog_3_method_9_code 25 = .ok (.iinc 1 1, 3) := by decide +kernel
theorem d_Op_isBehindBefore_28 : decode prog_3_method_9_code 28 = .ok (.goto (-26), 3) := by decide +kernel
theorem d_Op_isBehindBefore_31 : decode prog_3_method_9_code 31 = .ok (.iconst 1, 1) := by decide +kernel
theorem d_Op_isBehindBefore_32 : decode prog_3_method_9_code 32 = .ok (.ireturn, 1) := by decide +kernel
theorem d_Op_hasSoundParts_0 : decode prog_3_method_10_code 0 = .ok (.aload_n 0, 1) := by decide +kernel
theorem d_Op_hasSoundParts_1 : decode prog_3_method_10_code 1 = .ok (.invokevirtual 48, 3) := by decide +kernel
theorem d_Op_hasSoundParts_4 : decode prog_3_method_10_code 4 = .ok (.ifCond .eq 43, 3) := by decide +kernel
theorem d_Op_hasSoundParts_7 : decode prog_3_method_10_code 7 = .ok (.aload_n 0, 1) := by decide +kernel
theorem d_Op_hasSoundParts_8 : decode prog_3_method_10_code 8 = .ok (.getfield 22, 3) := by decide +kernel
theorem d_Op_hasSoundParts_11 : decode prog_3_method_10_code 11 = .ok (.ifCond .eq 13, 3) := by decide +kernel
theorem d_Op_hasSoundParts_14 : decode prog_3_method_10_code 14 = .ok (.aload_n 0, 1) := by decide +kernel
theorem d_Op_hasSoundParts_15 : decode prog_3_method_10_code 15 = .ok (.getfield 22, 3) := by decide +kernel
theorem d_Op_hasSoundParts_18 : decode prog_3_method_10_code 18 = .ok (.invokestatic 52, 3) := by decide +kernel
theorem d_Op_hasSoundParts_21 : decode prog_3_method_10_code 21 = .ok (.ifCond .eq 24, 3) := by decide +kernel
theorem d_Op_hasSoundParts_24 : decode prog_3_method_10_code 24 = .ok (.aload_n 0, 1) := by decide +kernel
theorem d_Op_hasSoundParts_25 : decode prog_3_method_10_code 25 = .ok (.getfield 25, 3) := by decide +kernel
theorem d_Op_hasSoundParts_28 : decode prog_3_method_10_code 28 = .ok (.invokestatic 55, 3) := by decide +kernel
theorem d_Op_hasSoundParts_31 : decode prog_3_method_10_code 31 = .ok (.ifCond .eq 14, 3) := by decide +kernel
theorem d_Op_hasSoundParts_34 : decode prog_3_method_10_code 34 = .ok (.aload_n 0, 1) := by decide +kernel
theorem d_Op_hasSoundParts_35 : decode prog_3_method_10_code 35 = .ok (.invokevirtual 58, 3) := by decide +kernel
theorem d_Op_hasSoundParts_38 : decode prog_3_method_10_code 38 = .ok (.ifCond .eq 7, 3) := by decide +kernel
theorem d_Op_hasSoundParts_41 : decode prog_3_method_10_code 41 = .ok (.iconst 1, 1) := by decide +kernel
theorem d_Op_hasSoundParts_42 : decode prog_3_method_10_code 42 = .ok (.goto 4, 3) := by decide +kernel
theorem d_Op_hasSoundParts_45 : decode prog_3_method_10_code 45 = .ok (.iconst 0, 1) := by decide +kernel
theorem d_Op_hasSoundParts_46 : decode prog_3_method_10_code 46 = .ok (.ireturn, 1) := by decide +kernel
theorem d_Op_hasSoundParts_47 : decode prog_3_method_10_code 47 = .ok (.aload_n 0, 1) := by decide +kernel
theorem d_Op_hasSoundParts_48 : decode prog_3_method_10_code 48 = .ok (.getfield 19, 3) := by decide +kernel
theorem d_Op_hasSoundParts_51 : decode prog_3_method_10_code 51 = .ok (.iconst 3, 1) := by decide +kernel
theorem d_Op_hasSoundParts_52 : decode prog_3_method_10_code 52 = .ok (.if_icmp .ne 43, 3) := by decide +kernel
theorem d_Op_hasSoundParts_55 : decode prog_3_method_10_code 55 = .ok (.aload_n 0, 1) := by decide +kernel
theorem d_Op_hasSoundParts_56 : decode prog_3_method_10_code 56 = .ok (.getfield 22, 3) := by decide +kernel
theorem d_Op_hasSoundParts_59 : decode prog_3_method_10_code 59 = .ok (.invokestatic 52, 3) := by decide +kernel
theorem d_Op_hasSoundParts_62 : decode prog_3_method_10_code 62 = .ok (.ifCond .eq 31, 3) := by decide +kernel
theorem d_Op_hasSoundParts_65 : decode prog_3_method_10_code 65 = .ok (.aload_n 0, 1) := by decide +kernel
theorem d_Op_hasSoundParts_66 : decode prog_3_method_10_code 66 = .ok (.getfield 25, 3) := by decide +kernel
theorem d_Op_hasSoundParts_69 : decode prog_3_method_10_code 69 = .ok (.ifCond .eq 13, 3) := by decide +kernel
theorem d_Op_hasSoundParts_72 : decode prog_3_method_10_code 72 = .ok (.aload_n 0, 1) := by decide +kernel
theorem d_Op_hasSoundParts_73 : decode prog_3_method_10_code 73 = .ok (.getfield 25, 3) := by decide +kernel
theorem d_Op_hasSoundParts_76 : decode prog_3_method_10_code 76 = .ok (.invokestatic 52, 3) := by decide +kernel
theorem d_Op_hasSoundParts_79 : decode prog_3_method_10_code 79 = .ok (.ifCond .eq 14, 3) := by decide +kernel
theorem d_Op_hasSoundParts_82 : decode prog_3_method_10_code 82 = .ok (.aload_n 0, 1) := by decide +kernel
theorem d_Op_hasSoundParts_83 : decode prog_3_method_10_code 83 = .ok (.invokevirtual 58, 3) := by decide +kernel
theorem d_Op_hasSoundParts_86 : decode prog_3_method_10_code 86 = .ok (.ifCond .eq 7, 3) := by decide +kernel
theorem d_Op_hasSoundParts_89 : decode prog_3_method_10_code 89 = .ok (.iconst 1, 1) := by decide +kernel
theorem d_Op_hasSoundParts_90 : decode prog_3_method_10_code 90 = .ok (.goto 4, 3) := by decide +kernel
theorem d_Op_hasSoundParts_93 : decode prog_3_method_10_code 93 = .ok (.iconst 0, 1) := by decide +kernel
theorem d_Op_hasSoundParts_94 : decode prog_3_method_10_code 94 = .ok (.ireturn, 1) := by decide +kernel
theorem d_Op_hasSoundParts_95 : decode prog_3_method_10_code 95 = .ok (.aload_n 0, 1) := by decide +kernel
theorem d_Op_hasSoundParts_96 : decode prog_3_method_10_code 96 = .ok (.getfield 19, 3) := by decide +kernel
theorem d_Op_hasSoundParts_99 : decode prog_3_method_10_code 99 = .ok (.iconst 4, 1) := by decide +kernel
theorem d_Op_hasSoundParts_100 : decode prog_3_method_10_code 100 = .ok (.if_icmp .ne 31, 3) := by decide +kernel
theorem d_Op_hasSoundParts_103 : decode prog_3_method_10_code 103 = .ok (.aload_n 0, 1) := by decide +kernel
theorem d_Op_hasSoundParts_104 : decode prog_3_method_10_code 104 = .ok (.getfield 22, 3) := by decide +kernel
theorem d_Op_hasSoundParts_107 : decode prog_3_method_10_code 107 = .ok (.invokestatic 52, 3) := by decide +kernel
theorem d_Op_hasSoundParts_110 : decode prog_3_method_10_code 110 = .ok (.ifCond .eq 21, 3) := by decide +kernel
theorem d_Op_hasSoundParts_113 : decode prog_3_method_10_code 113 = .ok (.aload_n 0, 1) := by decide +kernel
theorem d_Op_hasSoundParts_114 : decode prog_3_method_10_code 114 = .ok (.getfield 25, 3) := by decide +kernel
theorem d_Op_hasSoundParts_117 : decode prog_3_method_10_code 117 = .ok (.ifCond .ne 14, 3) := by decide +kernel
theorem d_Op_hasSoundParts_120 : decode prog_3_method_10_code 120 = .ok (.aload_n 0, 1) := by decide +kernel
theorem d_Op_hasSoundParts_121 : decode prog_3_method_10_code 121 = .ok (.invokevirtual 58, 3) := by decide +kernel
theorem d_Op_hasSoundParts_124 : decode prog_3_method_10_code 124 = .ok (.ifCond .eq 7, 3) := by decide +kernel
theorem d_Op_hasSoundParts_127 : decode prog_3_method_10_code 127 = .ok (.iconst 1, 1) := by decide +kernel
theorem d_Op_hasSoundParts_128 : decode prog_3_method_10_code 128 = .ok (.goto 4, 3) := by decide +kernel
theorem d_Op_hasSoundParts_131 : decode prog_3_method_10_code 131 = .ok (.iconst 0, 1) := by decide +kernel
theorem d_Op_hasSoundParts_132 : decode prog_3_method_10_code 132 = .ok (.ireturn, 1) := by decide +kernel
theorem d_Op_hasSoundValue_0 : decode prog_3_method_11_code 0 = .ok (.aload_n 0, 1) := by decide +kernel
theorem d_Op_hasSoundValue_1 : decode prog_3_method_11_code 1 = .ok (.getfield 19, 3) := by decide +kernel
theorem d_Op_hasSoundValue_4 : decode prog_3_method_11_code 4 = .ok (.ifCond .eq 11, 3) := by decide +kernel
theorem d_Op_hasSoundValue_7 : decode prog_3_method_11_code 7 = .ok (.aload_n 0, 1) := by decide +kernel
theorem d_Op_hasSoundValue_8 : decode prog_3_method_11_code 8 = .ok (.getfield 19, 3) := by decide +kernel
theorem d_Op_hasSoundValue_11 : decode prog_3_method_11_code 11 = .ok (.iconst 3, 1) := by decide +kernel
theorem d_Op_hasSoundValue_12 : decode prog_3_method_11_code 12 = .ok (.if_icmp .ne 8, 3) := by decide +kernel
theorem d_Op_hasSoundValue_15 : decode prog_3_method_11_code 15 = .ok (.bipush 99, 2) := by decide +kernel
theorem d_Op_hasSoundValue_17 : decode prog_3_method_11_code 17 = .ok (.goto 4, 3) := by decide +kernel
theorem d_Op_hasSoundValue_20 : decode prog_3_method_11_code 20 = .ok (.iconst 0, 1) := by decide +kernel
theorem d_Op_hasSoundValue_21 : decode prog_3_method_11_code 21 = .ok (.istore_n 1, 1) := by decide +kernel
theorem d_Op_hasSoundValue_22 : decode prog_3_method_11_code 22 = .ok (.aload_n 0, 1) := by decide +kernel
theorem d_Op_hasSoundValue_23 : decode prog_3_method_11_code 23 = .ok (.getfield 28, 3) := by decide +kernel
theorem d_Op_hasSoundValue_26 : decode prog_3_method_11_code 26 = .ok (.ifCond .lt 15, 3) := by decide +kernel
theorem d_Op_hasSoundValue_29 : decode prog_3_method_11_code 29 = .ok (.aload_n 0, 1) := by decide +kernel
theorem d_Op_hasSoundValue_30 : decode prog_3_method_11_code 30 = .ok (.getfield 28, 3) := by decide +kernel
theorem d_Op_hasSoundValue_33 : decode prog_3_method_11_code 33 = .ok (.iload_n 1, 1) := by decide +kernel
theorem d_Op_hasSoundValue_34 : decode prog_3_method_11_code 34 = .ok (.if_icmp .gt 7, 3) := by decide +kernel
theorem d_Op_hasSoundValue_37 : decode prog_3_method_11_code 37 = .ok (.iconst 1, 1) := by decide +kernel
theorem d_Op_hasSoundValue_38 : decode prog_3_method_11_code 38 = .ok (.goto 4, 3) := by decide +kernel
theorem d_Op_hasSoundValue_41 : decode prog_3_method_11_code 41 = .ok (.iconst 0, 1) := by decide +kernel
theorem d_Op_hasSoundValue_42 : decode prog_3_method_11_code 42 = .ok (.ireturn, 1) := by decide +kernel
theorem d_Op_hasSameBytesAs_0 : decode prog_3_method_12_code 0 = .ok (.aload_n 0, 1) := by decide +kernel
theorem d_Op_hasSameBytesAs_1 : decode prog_3_method_12_code 1 = .ok (.getfield 15, 3) := by decide +kernel
theorem d_Op_hasSameBytesAs_4 : decode prog_3_method_12_code 4 = .ok (.aload_n 1, 1) := by decide +kernel
theorem d_Op_hasSameBytesAs_5 : decode prog_3_method_12_code 5 = .ok (.getfield 15, 3) := by decide +kernel
theorem d_Op_hasSameBytesAs_8 : decode prog_3_method_12_code 8 = .ok (.if_icmp .ne 58, 3) := by decide +kernel
theorem d_Op_hasSameBytesAs_11 : decode prog_3_method_12_code 11 = .ok (.aload_n 0, 1) := by decide +kernel
theorem d_Op_hasSameBytesAs_12 : decode prog_3_method_12_code 12 = .ok (.getfield 19, 3) := by decide +kernel
theorem d_Op_hasSameBytesAs_15 : decode prog_3_method_12_code 15 = .ok (.aload_n 1, 1) := by decide +kernel
theorem d_Op_hasSameBytesAs_16 : decode prog_3_method_12_code 16 = .ok (.getfield 19, 3) := by decide +kernel
theorem d_Op_hasSameBytesAs_19 : decode prog_3_method_12_code 19 = .ok (.if_icmp .ne 47, 3) := by decide +kernel
theorem d_Op_hasSameBytesAs_22 : decode prog_3_method_12_code 22 = .ok (.aload_n 0, 1) := by decide +kernel
theorem d_Op_hasSameBytesAs_23 : decode prog_3_method_12_code 23 = .ok (.getfield 22, 3) := by decide +kernel
theorem d_Op_hasSameBytesAs_26 : decode prog_3_method_12_code 26 = .ok (.aload_n 1, 1) := by decide +kernel
theorem d_Op_hasSameBytesAs_27 : decode prog_3_method_12_code 27 = .ok (.getfield 22, 3) := by decide +kernel
theorem d_Op_hasSameBytesAs_30 : decode prog_3_method_12_code 30 = .ok (.if_icmp .ne 36, 3) := by decide +kernel
theorem d_Op_hasSameBytesAs_33 : decode prog_3_method_12_code 33 = .ok (.aload_n 0, 1) := by decide +kernel
theorem d_Op_hasSameBytesAs_34 : decode prog_3_method_12_code 34 = .ok (.getfield 25, 3) := by decide +kernel
theorem d_Op_hasSameBytesAs_37 : decode prog_3_method_12_code 37 = .ok (.aload_n 1, 1) := by decide +kernel
theorem d_Op_hasSameBytesAs_38 : decode prog_3_method_12_code 38 = .ok (.getfield 25, 3) := by decide +kernel
theorem d_Op_hasSameBytesAs_41 : decode prog_3_method_12_code 41 = .ok (.if_icmp .ne 25, 3) := by decide +kernel
theorem d_Op_hasSameBytesAs_44 : decode prog_3_method_12_code 44 = .ok (.aload_n 0, 1) := by decide +kernel
theorem d_Op_hasSameBytesAs_45 : decode prog_3_method_12_code 45 = .ok (.getfield 28, 3) := by decide +kernel
theorem d_Op_hasSameBytesAs_48 : decode prog_3_method_12_code 48 = .ok (.aload_n 1, 1) := by decide +kernel
theorem d_Op_hasSameBytesAs_49 : decode prog_3_method_12_code 49 = .ok (.getfield 28, 3) := by decide +kernel
theorem d_Op_hasSameBytesAs_52 : decode prog_3_method_12_code 52 = .ok (.if_icmp .ne 14, 3) := by decide +kernel
theorem d_Op_hasSameBytesAs_55 : decode prog_3_method_12_code 55 = .ok (.aload_n 0, 1) := by decide +kernel
theorem d_Op_hasSameBytesAs_56 : decode prog_3_method_12_code 56 = .ok (.getfield 31, 3) := by decide +kernel
theorem d_Op_hasSameBytesAs_59 : decode prog_3_method_12_code 59 = .ok (.aload_n 1, 1) := by decide +kernel
theorem d_Op_hasSameBytesAs_60 : decode prog_3_method_12_code 60 = .ok (.getfield 31, 3) := by decide +kernel
theorem d_Op_hasSameBytesAs_63 : decode prog_3_method_12_code 63 = .ok (.if_icmp .eq 5, 3) := by decide +kernel
theorem d_Op_hasSameBytesAs_66 : decode prog_3_method_12_code 66 = .ok (.iconst 0, 1) := by decide +kernel
theorem d_Op_hasSameBytesAs_67 : decode prog_3_method_12_code 67 = .ok (.ireturn, 1) := by decide +kernel
theorem d_Op_hasSameBytesAs_68 : decode prog_3_method_12_code 68 = .ok (.iconst 0, 1) := by decide +kernel
theorem d_Op_hasSameBytesAs_69 : decode prog_3_method_12_code 69 = .ok (.istore_n 2, 1) := by decide +kernel
theorem d_Op_hasSameBytesAs_70 : decode prog_3_method_12_code 70 = .ok (.iload_n 2, 1) := by decide +kernel
theorem d_Op_hasSameBytesAs_71 : decode prog_3_method_12_code 71 = .ok (.aload_n 0, 1) := by decide +kernel
theorem d_Op_hasSameBytesAs_72 : decode prog_3_method_12_code 72 = .ok (.getfield 31, 3) := by decide +kernel
theorem d_Op_hasSameBytesAs_75 : decode prog_3_method_12_code 75 = .ok (.if_icmp .ge 26, 3) := by decide +kernel
theorem d_Op_hasSameBytesAs_78 : decode prog_3_method_12_code 78 = .ok (.aload_n 0, 1) := by decide +kernel
theorem d_Op_hasSameBytesAs_79 : decode prog_3_method_12_code 79 = .ok (.getfield 9, 3) := by decide +kernel
theorem d_Op_hasSameBytesAs_82 : decode prog_3_method_12_code 82 = .ok (.iload_n 2, 1) := by decide +kernel
theorem d_Op_hasSameBytesAs_83 : decode prog_3_method_12_code 83 = .ok (.iaload, 1) := by decide +kernel
theorem d_Op_hasSameBytesAs_84 : decode prog_3_method_12_code 84 = .ok (.aload_n 1, 1) := by decide +kernel
theorem d_Op_hasSameBytesAs_85 : decode prog_3_method_12_code 85 = .ok (.getfield 9, 3) := by decide +kernel
theorem d_Op_hasSameBytesAs_88 : decode prog_3_method_12_code 88 = .ok (.iload_n 2, 1) := by decide +kernel
theorem d_Op_hasSameBytesAs_89 : decode prog_3_method_12_code 89 = .ok (.iaload, 1) := by decide +kernel
theorem d_Op_hasSameBytesAs_90 : decode prog_3_method_12_code 90 = .ok (.if_icmp .eq 5, 3) := by decide +kernel
theorem d_Op_hasSameBytesAs_93 : decode prog_3_method_12_code 93 = .ok (.iconst 0, 1) := by decide +kernel
theorem d_Op_hasSameBytesAs_94 : decode prog_3_method_12_code 94 = .ok (.ireturn, 1) := by decide +kernel
theorem d_Op_hasSameBytesAs_95 : decode prog_3_method_12_code 95 = .ok (.iinc 2 1, 3) := by decide +kernel
theorem d_Op_hasSameBytesAs_98 : decode prog_3_method_12_code 98 = .ok (.goto (-28), 3) := by decide +kernel
theorem d_Op_hasSameBytesAs_101 : decode prog_3_method_12_code 101 = .ok (.iconst 1, 1) := by decide +kernel
theorem d_Op_hasSameBytesAs_102 : decode prog_3_method_12_code 102 = .ok (.ireturn, 1) := by decide +kernel
