/-! decode rows -/
theorem d_Mo_init_0 : decode prog_7_method_1_code 0 = .ok (.aload_n 0, 1) := by decide +kernel
theorem d_Mo_init_1 : decode prog_7_method_1_code 1 = .ok (.invokespecial 1, 3) := by decide +kernel
theorem d_Mo_init_4 : decode prog_7_method_1_code 4 = .ok (.aload_n 0, 1) := by decide +kernel
theorem d_Mo_init_5 : decode prog_7_method_1_code 5 = .ok (.sipush 576, 3) := by decide +kernel
theorem d_Mo_init_8 : decode prog_7_method_1_code 8 = .ok (.newarray .int, 2) := by decide +kernel
theorem d_Mo_init_10 : decode prog_7_method_1_code 10 = .ok (.putfield 7, 3) := by decide +kernel
theorem d_Mo_init_13 : decode prog_7_method_1_code 13 = .ok (.aload_n 0, 1) := by decide +kernel
theorem d_Mo_init_14 : decode prog_7_method_1_code 14 = .ok (.iconst 3, 1) := by decide +kernel
theorem d_Mo_init_15 : decode prog_7_method_1_code 15 = .ok (.newarray .int, 2) := by decide +kernel
theorem d_Mo_init_17 : decode prog_7_method_1_code 17 = .ok (.putfield 13, 3) := by decide +kernel
theorem d_Mo_init_20 : decode prog_7_method_1_code 20 = .ok (.aload_n 0, 1) := by decide +kernel
theorem d_Mo_init_21 : decode prog_7_method_1_code 21 = .ok (.bipush 48, 2) := by decide +kernel
theorem d_Mo_init_23 : decode prog_7_method_1_code 23 = .ok (.newarray .boolean, 2) := by decide +kernel
theorem d_Mo_init_25 : decode prog_7_method_1_code 25 = .ok (.putfield 16, 3) := by decide +kernel
theorem d_Mo_init_28 : decode prog_7_method_1_code 28 = .ok (.aload_n 0, 1) := by decide +kernel
theorem d_Mo_init_29 : decode prog_7_method_1_code 29 = .ok (.bipush 48, 2) := by decide +kernel
theorem d_Mo_init_31 : decode prog_7_method_1_code 31 = .ok (.newarray .int, 2) := by decide +kernel
theorem d_Mo_init_33 : decode prog_7_method_1_code 33 = .ok (.putfield 20, 3) := by decide +kernel
theorem d_Mo_init_36 : decode prog_7_method_1_code 36 = .ok (.aload_n 0, 1) := by decide +kernel
theorem d_Mo_init_37 : decode prog_7_method_1_code 37 = .ok (.iconst 3, 1) := by decide +kernel
theorem d_Mo_init_38 : decode prog_7_method_1_code 38 = .ok (.newarray .int, 2) := by decide +kernel
theorem d_Mo_init_40 : decode prog_7_method_1_code 40 = .ok (.putfield 23, 3) := by decide +kernel
theorem d_Mo_init_43 : decode prog_7_method_1_code 43 = .ok (.aload_n 0, 1) := by decide +kernel
theorem d_Mo_init_44 : decode prog_7_method_1_code 44 = .ok (.bipush 16, 2) := by decide +kernel
theorem d_Mo_init_46 : decode prog_7_method_1_code 46 = .ok (.newarray .int, 2) := by decide +kernel
theorem d_Mo_init_48 : decode prog_7_method_1_code 48 = .ok (.putfield 26, 3) := by decide +kernel
theorem d_Mo_init_51 : decode prog_7_method_1_code 51 = .ok (.aload_n 0, 1) := by decide +kernel
theorem d_Mo_init_52 : decode prog_7_method_1_code 52 = .ok (.bipush 16, 2) := by decide +kernel
theorem d_Mo_init_54 : decode prog_7_method_1_code 54 = .ok (.newarray .boolean, 2) := by decide +kernel
theorem d_Mo_init_56 : decode prog_7_method_1_code 56 = .ok (.putfield 29, 3) := by decide +kernel
theorem d_Mo_init_59 : decode prog_7_method_1_code 59 = .ok (.aload_n 0, 1) := by decide +kernel
theorem d_Mo_init_60 : decode prog_7_method_1_code 60 = .ok (.bipush 16, 2) := by decide +kernel
theorem d_Mo_init_62 : decode prog_7_method_1_code 62 = .ok (.newarray .int, 2) := by decide +kernel
theorem d_Mo_init_64 : decode prog_7_method_1_code 64 = .ok (.putfield 32, 3) := by decide +kernel
theorem d_Mo_init_67 : decode prog_7_method_1_code 67 = .ok (.aload_n 0, 1) := by decide +kernel
theorem d_Mo_init_68 : decode prog_7_method_1_code 68 = .ok (.bipush 16, 2) := by decide +kernel
theorem d_Mo_init_70 : decode prog_7_method_1_code 70 = .ok (.newarray .int, 2) := by decide +kernel
theorem d_Mo_init_72 : decode prog_7_method_1_code 72 = .ok (.putfield 35, 3) := by decide +kernel
theorem d_Mo_init_75 : decode prog_7_method_1_code 75 = .ok (.aload_n 0, 1) := by decide +kernel
theorem d_Mo_init_76 : decode prog_7_method_1_code 76 = .ok (.bipush 24, 2) := by decide +kernel
theorem d_Mo_init_78 : decode prog_7_method_1_code 78 = .ok (.newarray .int, 2) := by decide +kernel
theorem d_Mo_init_80 : decode prog_7_method_1_code 80 = .ok (.putfield 38, 3) := by decide +kernel
theorem d_Mo_init_83 : decode prog_7_method_1_code 83 = .ok (.return_, 1) := by decide +kernel
theorem d_Mo_isReplica_0 : decode prog_7_method_2_code 0 = .ok (.iload_n 0, 1) := by decide +kernel
theorem d_Mo_isReplica_1 : decode prog_7_method_2_code 1 = .ok (.ifCond .lt 12, 3) := by decide +kernel
theorem d_Mo_isReplica_4 : decode prog_7_method_2_code 4 = .ok (.iload_n 0, 1) := by decide +kernel
theorem d_Mo_isReplica_5 : decode prog_7_method_2_code 5 = .ok (.iconst 2, 1) := by decide +kernel
theorem d_Mo_isReplica_6 : decode prog_7_method_2_code 6 = .ok (.if_icmp .gt 7, 3) := by decide +kernel
theorem d_Mo_isReplica_9 : decode prog_7_method_2_code 9 = .ok (.iconst 1, 1) := by decide +kernel
theorem d_Mo_isReplica_10 : decode prog_7_method_2_code 10 = .ok (.goto 4, 3) := by decide +kernel
theorem d_Mo_isReplica_13 : decode prog_7_method_2_code 13 = .ok (.iconst 0, 1) := by decide +kernel
theorem d_Mo_isReplica_14 : decode prog_7_method_2_code 14 = .ok (.ireturn, 1) := by decide +kernel
theorem d_Mo_isId_0 : decode prog_7_method_3_code 0 = .ok (.iload_n 0, 1) := by decide +kernel
theorem d_Mo_isId_1 : decode prog_7_method_3_code 1 = .ok (.iconst 4, 1) := by decide +kernel
theorem d_Mo_isId_2 : decode prog_7_method_3_code 2 = .ok (.if_icmp .lt 21, 3) := by decide +kernel
theorem d_Mo_isId_5 : decode prog_7_method_3_code 5 = .ok (.iload_n 0, 1) := by decide +kernel
theorem d_Mo_isId_6 : decode prog_7_method_3_code 6 = .ok (.sipush 162, 3) := by decide +kernel
theorem d_Mo_isId_9 : decode prog_7_method_3_code 9 = .ok (.if_icmp .gt 14, 3) := by decide +kernel
theorem d_Mo_isId_12 : decode prog_7_method_3_code 12 = .ok (.iload_n 0, 1) := by decide +kernel
theorem d_Mo_isId_13 : decode prog_7_method_3_code 13 = .ok (.iconst 4, 1) := by decide +kernel
theorem d_Mo_isId_14 : decode prog_7_method_3_code 14 = .ok (.irem, 1) := by decide +kernel
theorem d_Mo_isId_15 : decode prog_7_method_3_code 15 = .ok (.iconst 3, 1) := by decide +kernel
theorem d_Mo_isId_16 : decode prog_7_method_3_code 16 = .ok (.if_icmp .eq 7, 3) := by decide +kernel
theorem d_Mo_isId_19 : decode prog_7_method_3_code 19 = .ok (.iconst 1, 1) := by decide +kernel
theorem d_Mo_isId_20 : decode prog_7_method_3_code 20 = .ok (.goto 4, 3) := by decide +kernel
theorem d_Mo_isId_23 : decode prog_7_method_3_code 23 = .ok (.iconst 0, 1) := by decide +kernel
theorem d_Mo_isId_24 : decode prog_7_method_3_code 24 = .ok (.ireturn, 1) := by decide +kernel
theorem d_Mo_part_0 : decode prog_7_method_4_code 0 = .ok (.aload_n 0, 1) := by decide +kernel
theorem d_Mo_part_1 : decode prog_7_method_4_code 1 = .ok (.getfield 7, 3) := by decide +kernel
theorem d_Mo_part_4 : decode prog_7_method_4_code 4 = .ok (.bipush 12, 2) := by decide +kernel
theorem d_Mo_part_6 : decode prog_7_method_4_code 6 = .ok (.bipush 16, 2) := by decide +kernel
theorem d_Mo_part_8 : decode prog_7_method_4_code 8 = .ok (.aload_n 0, 1) := by decide +kernel
theorem d_Mo_part_9 : decode prog_7_method_4_code 9 = .ok (.getfield 41, 3) := by decide +kernel
theorem d_Mo_part_12 : decode prog_7_method_4_code 12 = .ok (.imul, 1) := by decide +kernel
theorem d_Mo_part_13 : decode prog_7_method_4_code 13 = .ok (.iload_n 1, 1) := by decide +kernel
theorem d_Mo_part_14 : decode prog_7_method_4_code 14 = .ok (.iadd, 1) := by decide +kernel
theorem d_Mo_part_15 : decode prog_7_method_4_code 15 = .ok (.imul, 1) := by decide +kernel
theorem d_Mo_part_16 : decode prog_7_method_4_code 16 = .ok (.iload_n 2, 1) := by decide +kernel
theorem d_Mo_part_17 : decode prog_7_method_4_code 17 = .ok (.iadd, 1) := by decide +kernel
theorem d_Mo_part_18 : decode prog_7_method_4_code 18 = .ok (.iaload, 1) := by decide +kernel
theorem d_Mo_part_19 : decode prog_7_method_4_code 19 = .ok (.ireturn, 1) := by decide +kernel
theorem d_Mo_done_0 : decode prog_7_method_5_code 0 = .ok (.aload_n 0, 1) := by decide +kernel
theorem d_Mo_done_1 : decode prog_7_method_5_code 1 = .ok (.getfield 16, 3) := by decide +kernel
theorem d_Mo_done_4 : decode prog_7_method_5_code 4 = .ok (.bipush 16, 2) := by decide +kernel
theorem d_Mo_done_6 : decode prog_7_method_5_code 6 = .ok (.aload_n 0, 1) := by decide +kernel
theorem d_Mo_done_7 : decode prog_7_method_5_code 7 = .ok (.getfield 41, 3) := by decide +kernel
theorem d_Mo_done_10 : decode prog_7_method_5_code 10 = .ok (.imul, 1) := by decide +kernel
theorem d_Mo_done_11 : decode prog_7_method_5_code 11 = .ok (.iload_n 1, 1) := by decide +kernel
theorem d_Mo_done_12 : decode prog_7_method_5_code 12 = .ok (.iadd, 1) := by decide +kernel
theorem d_Mo_done_13 : decode prog_7_method_5_code 13 = .ok (.baload, 1) := by decide +kernel
theorem d_Mo_done_14 : decode prog_7_method_5_code 14 = .ok (.ireturn, 1) := by decide +kernel
theorem d_Mo_find_0 : decode prog_7_method_6_code 0 = .ok (.iconst (-1), 1) := by decide +kernel
theorem d_Mo_find_1 : decode prog_7_method_6_code 1 = .ok (.istore_n 3, 1) := by decide +kernel
theorem d_Mo_find_2 : decode prog_7_method_6_code 2 = .ok (.iconst 0, 1) := by decide +kernel
theorem d_Mo_find_3 : decode prog_7_method_6_code 3 = .ok (.istore 4, 2) := by decide +kernel
theorem d_Mo_find_5 : decode prog_7_method_6_code 5 = .ok (.iload 4, 2) := by decide +kernel
theorem d_Mo_find_7 : decode prog_7_method_6_code 7 = .ok (.aload_n 0, 1) := by decide +kernel
theorem d_Mo_find_8 : decode prog_7_method_6_code 8 = .ok (.getfield 13, 3) := by decide +kernel
theorem d_Mo_find_11 : decode prog_7_method_6_code 11 = .ok (.aload_n 0, 1) := by decide +kernel
theorem d_Mo_find_12 : decode prog_7_method_6_code 12 = .ok (.getfield 41, 3) := by decide +kernel
theorem d_Mo_find_15 : decode prog_7_method_6_code 15 = .ok (.iaload, 1) := by decide +kernel
theorem d_Mo_find_16 : decode prog_7_method_6_code 16 = .ok (.if_icmp .ge 36, 3) := by decide +kernel
theorem d_Mo_find_19 : decode prog_7_method_6_code 19 = .ok (.aload_n 0, 1) := by decide +kernel
theorem d_Mo_find_20 : decode prog_7_method_6_code 20 = .ok (.iload 4, 2) := by decide +kernel
theorem d_Mo_find_22 : decode prog_7_method_6_code 22 = .ok (.iconst 0, 1) := by decide +kernel
theorem d_Mo_find_23 : decode prog_7_method_6_code 23 = .ok (.invokevirtual 45, 3) := by decide +kernel
theorem d_Mo_find_26 : decode prog_7_method_6_code 26 = .ok (.iload_n 1, 1) := by decide +kernel
theorem d_Mo_find_27 : decode prog_7_method_6_code 27 = .ok (.if_icmp .ne 19, 3) := by decide +kernel
theorem d_Mo_find_30 : decode prog_7_method_6_code 30 = .ok (.iload_n 2, 1) := by decide +kernel
theorem d_Mo_find_31 : decode prog_7_method_6_code 31 = .ok (.ifCond .eq 12, 3) := by decide +kernel
theorem d_Mo_find_34 : decode prog_7_method_6_code 34 = .ok (.aload_n 0, 1) := by decide +kernel
theorem d_Mo_find_35 : decode prog_7_method_6_code 35 = .ok (.iload 4, 2) := by decide +kernel
theorem d_Mo_find_37 : decode prog_7_method_6_code 37 = .ok (.invokevirtual 49, 3) := by decide +kernel
theorem d_Mo_find_40 : decode prog_7_method_6_code 40 = .ok (.ifCond .eq 6, 3) := by decide +kernel
theorem d_Mo_find_43 : decode prog_7_method_6_code 43 = .ok (.iload 4, 2) := by decide +kernel
theorem d_Mo_find_45 : decode prog_7_method_6_code 45 = .ok (.istore_n 3, 1) := by decide +kernel
theorem d_Mo_find_46 : decode prog_7_method_6_code 46 = .ok (.iinc 4 1, 3) := by decide +kernel
theorem d_Mo_find_49 : decode prog_7_method_6_code 49 = .ok (.goto (-44), 3) := by decide +kernel
theorem d_Mo_find_52 : decode prog_7_method_6_code 52 = .ok (.iload_n 3, 1) := by decide +kernel
theorem d_Mo_find_53 : decode prog_7_method_6_code 53 = .ok (.ireturn, 1) := by decide +kernel
theorem d_Mo_has_0 : decode prog_7_method_7_code 0 = .ok (.iconst 0, 1) := by decide +kernel
theorem d_Mo_has_1 : decode prog_7_method_7_code 1 = .ok (.istore_n 3, 1) := by decide +kernel
theorem d_Mo_has_2 : decode prog_7_method_7_code 2 = .ok (.iconst 0, 1) := by decide +kernel
theorem d_Mo_has_3 : decode prog_7_method_7_code 3 = .ok (.istore 4, 2) := by decide +kernel
theorem d_Mo_has_5 : decode prog_7_method_7_code 5 = .ok (.iload 4, 2) := by decide +kernel
theorem d_Mo_has_7 : decode prog_7_method_7_code 7 = .ok (.aload_n 0, 1) := by decide +kernel
theorem d_Mo_has_8 : decode prog_7_method_7_code 8 = .ok (.iload_n 1, 1) := by decide +kernel
theorem d_Mo_has_9 : decode prog_7_method_7_code 9 = .ok (.iconst 5, 1) := by decide +kernel
theorem d_Mo_has_10 : decode prog_7_method_7_code 10 = .ok (.invokevirtual 45, 3) := by decide +kernel
theorem d_Mo_has_13 : decode prog_7_method_7_code 13 = .ok (.if_icmp .ge 33, 3) := by decide +kernel
theorem d_Mo_has_16 : decode prog_7_method_7_code 16 = .ok (.iload_n 3, 1) := by decide +kernel
theorem d_Mo_has_17 : decode prog_7_method_7_code 17 = .ok (.ifCond .ne 17, 3) := by decide +kernel
theorem d_Mo_has_20 : decode prog_7_method_7_code 20 = .ok (.aload_n 0, 1) := by decide +kernel
theorem d_Mo_has_21 : decode prog_7_method_7_code 21 = .ok (.iload_n 1, 1) := by decide +kernel
theorem d_Mo_has_22 : decode prog_7_method_7_code 22 = .ok (.bipush 6, 2) := by decide +kernel
theorem d_Mo_has_24 : decode prog_7_method_7_code 24 = .ok (.iload 4, 2) := by decide +kernel
theorem d_Mo_has_26 : decode prog_7_method_7_code 26 = .ok (.iadd, 1) := by decide +kernel
theorem d_Mo_has_27 : decode prog_7_method_7_code 27 = .ok (.invokevirtual 45, 3) := by decide +kernel
theorem d_Mo_has_30 : decode prog_7_method_7_code 30 = .ok (.iload_n 2, 1) := by decide +kernel
theorem d_Mo_has_31 : decode prog_7_method_7_code 31 = .ok (.if_icmp .ne 7, 3) := by decide +kernel
theorem d_Mo_has_34 : decode prog_7_method_7_code 34 = .ok (.iconst 1, 1) := by decide +kernel
theorem d_Mo_has_35 : decode prog_7_method_7_code 35 = .ok (.goto 4, 3) := by decide +kernel
theorem d_Mo_has_38 : decode prog_7_method_7_code 38 = .ok (.iconst 0, 1) := by decide +kernel
theorem d_Mo_has_39 : decode prog_7_method_7_code 39 = .ok (.istore_n 3, 1) := by decide +kernel
theorem d_Mo_has_40 : decode prog_7_method_7_code 40 = .ok (.iinc 4 1, 3) := by decide +kernel
theorem d_Mo_has_43 : decode prog_7_method_7_code 43 = .ok (.goto (-38), 3) := by decide +kernel
theorem d_Mo_has_46 : decode prog_7_method_7_code 46 = .ok (.iload_n 3, 1) := by decide +kernel
theorem d_Mo_has_47 : decode prog_7_method_7_code 47 = .ok (.ireturn, 1) := by decide +kernel
theorem d_Mo_fits_0 : decode prog_7_method_8_code 0 = .ok (.aload_n 0, 1) := by decide +kernel
theorem d_Mo_fits_1 : decode prog_7_method_8_code 1 = .ok (.iload_n 2, 1) := by decide +kernel
theorem d_Mo_fits_2 : decode prog_7_method_8_code 2 = .ok (.iconst 1, 1) := by decide +kernel
theorem d_Mo_fits_3 : decode prog_7_method_8_code 3 = .ok (.invokevirtual 53, 3) := by decide +kernel
theorem d_Mo_fits_6 : decode prog_7_method_8_code 6 = .ok (.istore 4, 2) := by decide +kernel
theorem d_Mo_fits_8 : decode prog_7_method_8_code 8 = .ok (.iload_n 1, 1) := by decide +kernel
theorem d_Mo_fits_9 : decode prog_7_method_8_code 9 = .ok (.iconst 3, 1) := by decide +kernel
theorem d_Mo_fits_10 : decode prog_7_method_8_code 10 = .ok (.if_icmp .ne 76, 3) := by decide +kernel
theorem d_Mo_fits_13 : decode prog_7_method_8_code 13 = .ok (.iload 4, 2) := by decide +kernel
theorem d_Mo_fits_15 : decode prog_7_method_8_code 15 = .ok (.ifCond .lt 14, 3) := by decide +kernel
theorem d_Mo_fits_18 : decode prog_7_method_8_code 18 = .ok (.aload_n 0, 1) := by decide +kernel
theorem d_Mo_fits_19 : decode prog_7_method_8_code 19 = .ok (.iload 4, 2) := by decide +kernel
theorem d_Mo_fits_21 : decode prog_7_method_8_code 21 = .ok (.iconst 1, 1) := by decide +kernel
theorem d_Mo_fits_22 : decode prog_7_method_8_code 22 = .ok (.invokevirtual 45, 3) := by decide +kernel
theorem d_Mo_fits_25 : decode prog_7_method_8_code 25 = .ok (.iconst 2, 1) := by decide +kernel
theorem d_Mo_fits_26 : decode prog_7_method_8_code 26 = .ok (.if_icmp .eq 5, 3) := by decide +kernel
theorem d_Mo_fits_29 : decode prog_7_method_8_code 29 = .ok (.iconst 0, 1) := by decide +kernel
theorem d_Mo_fits_30 : decode prog_7_method_8_code 30 = .ok (.ireturn, 1) := by decide +kernel
theorem d_Mo_fits_31 : decode prog_7_method_8_code 31 = .ok (.aload_n 0, 1) := by decide +kernel
theorem d_Mo_fits_32 : decode prog_7_method_8_code 32 = .ok (.iload_n 3, 1) := by decide +kernel
theorem d_Mo_fits_33 : decode prog_7_method_8_code 33 = .ok (.iconst 1, 1) := by decide +kernel
theorem d_Mo_fits_34 : decode prog_7_method_8_code 34 = .ok (.invokevirtual 53, 3) := by decide +kernel
theorem d_Mo_fits_37 : decode prog_7_method_8_code 37 = .ok (.istore 5, 2) := by decide +kernel
theorem d_Mo_fits_39 : decode prog_7_method_8_code 39 = .ok (.iload_n 3, 1) := by decide +kernel
theorem d_Mo_fits_40 : decode prog_7_method_8_code 40 = .ok (.ifCond .eq 40, 3) := by decide +kernel
theorem d_Mo_fits_43 : decode prog_7_method_8_code 43 = .ok (.iload 5, 2) := by decide +kernel
theorem d_Mo_fits_45 : decode prog_7_method_8_code 45 = .ok (.ifCond .lt 39, 3) := by decide +kernel
theorem d_Mo_fits_48 : decode prog_7_method_8_code 48 = .ok (.aload_n 0, 1) := by decide +kernel
theorem d_Mo_fits_49 : decode prog_7_method_8_code 49 = .ok (.iload 5, 2) := by decide +kernel
theorem d_Mo_fits_51 : decode prog_7_method_8_code 51 = .ok (.iconst 1, 1) := by decide +kernel
theorem d_Mo_fits_52 : decode prog_7_method_8_code 52 = .ok (.invokevirtual 45, 3) := by decide +kernel
theorem d_Mo_fits_55 : decode prog_7_method_8_code 55 = .ok (.iconst 3, 1) := by decide +kernel
theorem d_Mo_fits_56 : decode prog_7_method_8_code 56 = .ok (.if_icmp .ne 28, 3) := by decide +kernel
theorem d_Mo_fits_59 : decode prog_7_method_8_code 59 = .ok (.aload_n 0, 1) := by decide +kernel
theorem d_Mo_fits_60 : decode prog_7_method_8_code 60 = .ok (.getfield 29, 3) := by decide +kernel
theorem d_Mo_fits_63 : decode prog_7_method_8_code 63 = .ok (.iload 5, 2) := by decide +kernel
theorem d_Mo_fits_65 : decode prog_7_method_8_code 65 = .ok (.baload, 1) := by decide +kernel
theorem d_Mo_fits_66 : decode prog_7_method_8_code 66 = .ok (.ifCond .eq 18, 3) := by decide +kernel
theorem d_Mo_fits_69 : decode prog_7_method_8_code 69 = .ok (.aload_n 0, 1) := by decide +kernel
theorem d_Mo_fits_70 : decode prog_7_method_8_code 70 = .ok (.iload 5, 2) := by decide +kernel
theorem d_Mo_fits_72 : decode prog_7_method_8_code 72 = .ok (.iconst 2, 1) := by decide +kernel
theorem d_Mo_fits_73 : decode prog_7_method_8_code 73 = .ok (.invokevirtual 45, 3) := by decide +kernel
theorem d_Mo_fits_76 : decode prog_7_method_8_code 76 = .ok (.iload_n 2, 1) := by decide +kernel
theorem d_Mo_fits_77 : decode prog_7_method_8_code 77 = .ok (.if_icmp .ne 7, 3) := by decide +kernel
theorem d_Mo_fits_80 : decode prog_7_method_8_code 80 = .ok (.iconst 1, 1) := by decide +kernel
theorem d_Mo_fits_81 : decode prog_7_method_8_code 81 = .ok (.goto 4, 3) := by decide +kernel
theorem d_Mo_fits_84 : decode prog_7_method_8_code 84 = .ok (.iconst 0, 1) := by decide +kernel
theorem d_Mo_fits_85 : decode prog_7_method_8_code 85 = .ok (.ireturn, 1) := by decide +kernel
theorem d_Mo_fits_86 : decode prog_7_method_8_code 86 = .ok (.iload_n 1, 1) := by decide +kernel
theorem d_Mo_fits_87 : decode prog_7_method_8_code 87 = .ok (.iconst 4, 1) := by decide +kernel
theorem d_Mo_fits_88 : decode prog_7_method_8_code 88 = .ok (.if_icmp .ne 35, 3) := by decide +kernel
theorem d_Mo_fits_91 : decode prog_7_method_8_code 91 = .ok (.iload 4, 2) := by decide +kernel
theorem d_Mo_fits_93 : decode prog_7_method_8_code 93 = .ok (.ifCond .lt 28, 3) := by decide +kernel
theorem d_Mo_fits_96 : decode prog_7_method_8_code 96 = .ok (.aload_n 0, 1) := by decide +kernel
theorem d_Mo_fits_97 : decode prog_7_method_8_code 97 = .ok (.iload 4, 2) := by decide +kernel
theorem d_Mo_fits_99 : decode prog_7_method_8_code 99 = .ok (.iconst 1, 1) := by decide +kernel
theorem d_Mo_fits_100 : decode prog_7_method_8_code 100 = .ok (.invokevirtual 45, 3) := by decide +kernel
theorem d_Mo_fits_103 : decode prog_7_method_8_code 103 = .ok (.iconst 3, 1) := by decide +kernel
theorem d_Mo_fits_104 : decode prog_7_method_8_code 104 = .ok (.if_icmp .ne 17, 3) := by decide +kernel
theorem d_Mo_fits_107 : decode prog_7_method_8_code 107 = .ok (.aload_n 0, 1) := by decide +kernel
theorem d_Mo_fits_108 : decode prog_7_method_8_code 108 = .ok (.getfield 29, 3) := by decide +kernel
theorem d_Mo_fits_111 : decode prog_7_method_8_code 111 = .ok (.iload 4, 2) := by decide +kernel
theorem d_Mo_fits_113 : decode prog_7_method_8_code 113 = .ok (.baload, 1) := by decide +kernel
theorem d_Mo_fits_114 : decode prog_7_method_8_code 114 = .ok (.ifCond .eq 7, 3) := by decide +kernel
theorem d_Mo_fits_117 : decode prog_7_method_8_code 117 = .ok (.iconst 1, 1) := by decide +kernel
theorem d_Mo_fits_118 : decode prog_7_method_8_code 118 = .ok (.goto 4, 3) := by decide +kernel
theorem d_Mo_fits_121 : decode prog_7_method_8_code 121 = .ok (.iconst 0, 1) := by decide +kernel
theorem d_Mo_fits_122 : decode prog_7_method_8_code 122 = .ok (.ireturn, 1) := by decide +kernel
theorem d_Mo_fits_123 : decode prog_7_method_8_code 123 = .ok (.iload_n 2, 1) := by decide +kernel
theorem d_Mo_fits_124 : decode prog_7_method_8_code 124 = .ok (.ifCond .eq 19, 3) := by decide +kernel
theorem d_Mo_fits_127 : decode prog_7_method_8_code 127 = .ok (.iload 4, 2) := by decide +kernel
theorem d_Mo_fits_129 : decode prog_7_method_8_code 129 = .ok (.ifCond .lt 18, 3) := by decide +kernel
theorem d_Mo_fits_132 : decode prog_7_method_8_code 132 = .ok (.aload_n 0, 1) := by decide +kernel
theorem d_Mo_fits_133 : decode prog_7_method_8_code 133 = .ok (.iload 4, 2) := by decide +kernel
theorem d_Mo_fits_135 : decode prog_7_method_8_code 135 = .ok (.iconst 1, 1) := by decide +kernel
theorem d_Mo_fits_136 : decode prog_7_method_8_code 136 = .ok (.invokevirtual 45, 3) := by decide +kernel
theorem d_Mo_fits_139 : decode prog_7_method_8_code 139 = .ok (.iconst 1, 1) := by decide +kernel
theorem d_Mo_fits_140 : decode prog_7_method_8_code 140 = .ok (.if_icmp .ne 7, 3) := by decide +kernel
theorem d_Mo_fits_143 : decode prog_7_method_8_code 143 = .ok (.iconst 1, 1) := by decide +kernel
theorem d_Mo_fits_144 : decode prog_7_method_8_code 144 = .ok (.goto 4, 3) := by decide +kernel
theorem d_Mo_fits_147 : decode prog_7_method_8_code 147 = .ok (.iconst 0, 1) := by decide +kernel
theorem d_Mo_fits_148 : decode prog_7_method_8_code 148 = .ok (.ireturn, 1) := by decide +kernel
theorem d_Mo_study_0 : decode prog_7_method_9_code 0 = .ok (.aload_n 0, 1) := by decide +kernel
theorem d_Mo_study_1 : decode prog_7_method_9_code 1 = .ok (.iload_n 1, 1) := by decide +kernel
theorem d_Mo_study_2 : decode prog_7_method_9_code 2 = .ok (.putfield 41, 3) := by decide +kernel
theorem d_Mo_study_5 : decode prog_7_method_9_code 5 = .ok (.iconst 0, 1) := by decide +kernel
theorem d_Mo_study_6 : decode prog_7_method_9_code 6 = .ok (.istore_n 2, 1) := by decide +kernel
theorem d_Mo_study_7 : decode prog_7_method_9_code 7 = .ok (.iload_n 2, 1) := by decide +kernel
theorem d_Mo_study_8 : decode prog_7_method_9_code 8 = .ok (.bipush 16, 2) := by decide +kernel
theorem d_Mo_study_10 : decode prog_7_method_9_code 10 = .ok (.if_icmp .ge 23, 3) := by decide +kernel
theorem d_Mo_study_13 : decode prog_7_method_9_code 13 = .ok (.aload_n 0, 1) := by decide +kernel
theorem d_Mo_study_14 : decode prog_7_method_9_code 14 = .ok (.getfield 29, 3) := by decide +kernel
theorem d_Mo_study_17 : decode prog_7_method_9_code 17 = .ok (.iload_n 2, 1) := by decide +kernel
theorem d_Mo_study_18 : decode prog_7_method_9_code 18 = .ok (.iconst 0, 1) := by decide +kernel
theorem d_Mo_study_19 : decode prog_7_method_9_code 19 = .ok (.bastore, 1) := by decide +kernel
theorem d_Mo_study_20 : decode prog_7_method_9_code 20 = .ok (.aload_n 0, 1) := by decide +kernel
theorem d_Mo_study_21 : decode prog_7_method_9_code 21 = .ok (.getfield 32, 3) := by decide +kernel
theorem d_Mo_study_24 : decode prog_7_method_9_code 24 = .ok (.iload_n 2, 1) := by decide +kernel
theorem d_Mo_study_25 : decode prog_7_method_9_code 25 = .ok (.iconst 0, 1) := by decide +kernel
theorem d_Mo_study_26 : decode prog_7_method_9_code 26 = .ok (.iastore, 1) := by decide +kernel
theorem d_Mo_study_27 : decode prog_7_method_9_code 27 = .ok (.iinc 2 1, 3) := by decide +kernel
theorem d_Mo_study_30 : decode prog_7_method_9_code 30 = .ok (.goto (-23), 3) := by decide +kernel
theorem d_Mo_study_33 : decode prog_7_method_9_code 33 = .ok (.iconst 0, 1) := by decide +kernel
theorem d_Mo_study_34 : decode prog_7_method_9_code 34 = .ok (.istore_n 2, 1) := by decide +kernel
theorem d_Mo_study_35 : decode prog_7_method_9_code 35 = .ok (.iload_n 2, 1) := by decide +kernel
theorem d_Mo_study_36 : decode prog_7_method_9_code 36 = .ok (.bipush 17, 2) := by decide +kernel
theorem d_Mo_study_38 : decode prog_7_method_9_code 38 = .ok (.if_icmp .ge 71, 3) := by decide +kernel
theorem d_Mo_study_41 : decode prog_7_method_9_code 41 = .ok (.iconst 0, 1) := by decide +kernel
theorem d_Mo_study_42 : decode prog_7_method_9_code 42 = .ok (.istore_n 3, 1) := by decide +kernel
theorem d_Mo_study_43 : decode prog_7_method_9_code 43 = .ok (.iload_n 3, 1) := by decide +kernel
theorem d_Mo_study_44 : decode prog_7_method_9_code 44 = .ok (.aload_n 0, 1) := by decide +kernel
theorem d_Mo_study_45 : decode prog_7_method_9_code 45 = .ok (.getfield 13, 3) := by decide +kernel
theorem d_Mo_study_48 : decode prog_7_method_9_code 48 = .ok (.aload_n 0, 1) := by decide +kernel
theorem d_Mo_study_49 : decode prog_7_method_9_code 49 = .ok (.getfield 41, 3) := by decide +kernel
theorem d_Mo_study_52 : decode prog_7_method_9_code 52 = .ok (.iaload, 1) := by decide +kernel
theorem d_Mo_study_53 : decode prog_7_method_9_code 53 = .ok (.if_icmp .ge 50, 3) := by decide +kernel
theorem d_Mo_study_56 : decode prog_7_method_9_code 56 = .ok (.aload_n 0, 1) := by decide +kernel
theorem d_Mo_study_57 : decode prog_7_method_9_code 57 = .ok (.iload_n 3, 1) := by decide +kernel
theorem d_Mo_study_58 : decode prog_7_method_9_code 58 = .ok (.invokevirtual 49, 3) := by decide +kernel
theorem d_Mo_study_61 : decode prog_7_method_9_code 61 = .ok (.ifCond .eq 36, 3) := by decide +kernel
theorem d_Mo_study_64 : decode prog_7_method_9_code 64 = .ok (.aload_n 0, 1) := by decide +kernel
theorem d_Mo_study_65 : decode prog_7_method_9_code 65 = .ok (.getfield 29, 3) := by decide +kernel
theorem d_Mo_study_68 : decode prog_7_method_9_code 68 = .ok (.iload_n 3, 1) := by decide +kernel
theorem d_Mo_study_69 : decode prog_7_method_9_code 69 = .ok (.aload_n 0, 1) := by decide +kernel
theorem d_Mo_study_70 : decode prog_7_method_9_code 70 = .ok (.aload_n 0, 1) := by decide +kernel
theorem d_Mo_study_71 : decode prog_7_method_9_code 71 = .ok (.iload_n 3, 1) := by decide +kernel
theorem d_Mo_study_72 : decode prog_7_method_9_code 72 = .ok (.iconst 1, 1) := by decide +kernel
theorem d_Mo_study_73 : decode prog_7_method_9_code 73 = .ok (.invokevirtual 45, 3) := by decide +kernel
theorem d_Mo_study_76 : decode prog_7_method_9_code 76 = .ok (.aload_n 0, 1) := by decide +kernel
theorem d_Mo_study_77 : decode prog_7_method_9_code 77 = .ok (.iload_n 3, 1) := by decide +kernel
theorem d_Mo_study_78 : decode prog_7_method_9_code 78 = .ok (.iconst 2, 1) := by decide +kernel
theorem d_Mo_study_79 : decode prog_7_method_9_code 79 = .ok (.invokevirtual 45, 3) := by decide +kernel
theorem d_Mo_study_82 : decode prog_7_method_9_code 82 = .ok (.aload_n 0, 1) := by decide +kernel
theorem d_Mo_study_83 : decode prog_7_method_9_code 83 = .ok (.iload_n 3, 1) := by decide +kernel
theorem d_Mo_study_84 : decode prog_7_method_9_code 84 = .ok (.iconst 3, 1) := by decide +kernel
theorem d_Mo_study_85 : decode prog_7_method_9_code 85 = .ok (.invokevirtual 45, 3) := by decide +kernel
theorem d_Mo_study_88 : decode prog_7_method_9_code 88 = .ok (.invokevirtual 57, 3) := by decide +kernel
theorem d_Mo_study_91 : decode prog_7_method_9_code 91 = .ok (.bastore, 1) := by decide +kernel
theorem d_Mo_study_92 : decode prog_7_method_9_code 92 = .ok (.aload_n 0, 1) := by decide +kernel
theorem d_Mo_study_93 : decode prog_7_method_9_code 93 = .ok (.iload_n 3, 1) := by decide +kernel
theorem d_Mo_study_94 : decode prog_7_method_9_code 94 = .ok (.invokevirtual 61, 3) := by decide +kernel
theorem d_Mo_study_97 : decode prog_7_method_9_code 97 = .ok (.iinc 3 1, 3) := by decide +kernel
theorem d_Mo_study_100 : decode prog_7_method_9_code 100 = .ok (.goto (-57), 3) := by decide +kernel
theorem d_Mo_study_103 : decode prog_7_method_9_code 103 = .ok (.iinc 2 1, 3) := by decide +kernel
theorem d_Mo_study_106 : decode prog_7_method_9_code 106 = .ok (.goto (-71), 3) := by decide +kernel
theorem d_Mo_study_109 : decode prog_7_method_9_code 109 = .ok (.return_, 1) := by decide +kernel
theorem d_Mo_widen_0 : decode prog_7_method_10_code 0 = .ok (.iconst 0, 1) := by decide +kernel
theorem d_Mo_widen_1 : decode prog_7_method_10_code 1 = .ok (.istore_n 2, 1) := by decide +kernel
theorem d_Mo_widen_2 : decode prog_7_method_10_code 2 = .ok (.iload_n 2, 1) := by decide +kernel
theorem d_Mo_widen_3 : decode prog_7_method_10_code 3 = .ok (.aload_n 0, 1) := by decide +kernel
theorem d_Mo_widen_4 : decode prog_7_method_10_code 4 = .ok (.getfield 13, 3) := by decide +kernel
theorem d_Mo_widen_7 : decode prog_7_method_10_code 7 = .ok (.aload_n 0, 1) := by decide +kernel
theorem d_Mo_widen_8 : decode prog_7_method_10_code 8 = .ok (.getfield 41, 3) := by decide +kernel
theorem d_Mo_widen_11 : decode prog_7_method_10_code 11 = .ok (.iaload, 1) := by decide +kernel
theorem d_Mo_widen_12 : decode prog_7_method_10_code 12 = .ok (.if_icmp .ge 44, 3) := by decide +kernel
theorem d_Mo_widen_15 : decode prog_7_method_10_code 15 = .ok (.aload_n 0, 1) := by decide +kernel
theorem d_Mo_widen_16 : decode prog_7_method_10_code 16 = .ok (.iload_n 2, 1) := by decide +kernel
theorem d_Mo_widen_17 : decode prog_7_method_10_code 17 = .ok (.iconst 0, 1) := by decide +kernel
theorem d_Mo_widen_18 : decode prog_7_method_10_code 18 = .ok (.invokevirtual 45, 3) := by decide +kernel
theorem d_Mo_widen_21 : decode prog_7_method_10_code 21 = .ok (.istore_n 3, 1) := by decide +kernel
theorem d_Mo_widen_22 : decode prog_7_method_10_code 22 = .ok (.aload_n 0, 1) := by decide +kernel
theorem d_Mo_widen_23 : decode prog_7_method_10_code 23 = .ok (.iload_n 1, 1) := by decide +kernel
theorem d_Mo_widen_24 : decode prog_7_method_10_code 24 = .ok (.iload_n 3, 1) := by decide +kernel
theorem d_Mo_widen_25 : decode prog_7_method_10_code 25 = .ok (.invokevirtual 65, 3) := by decide +kernel
theorem d_Mo_widen_28 : decode prog_7_method_10_code 28 = .ok (.ifCond .eq 22, 3) := by decide +kernel
theorem d_Mo_widen_31 : decode prog_7_method_10_code 31 = .ok (.aload_n 0, 1) := by decide +kernel
theorem d_Mo_widen_32 : decode prog_7_method_10_code 32 = .ok (.getfield 32, 3) := by decide +kernel
theorem d_Mo_widen_35 : decode prog_7_method_10_code 35 = .ok (.iload_n 1, 1) := by decide +kernel
theorem d_Mo_widen_36 : decode prog_7_method_10_code 36 = .ok (.dup2, 1) := by decide +kernel
theorem d_Mo_widen_37 : decode prog_7_method_10_code 37 = .ok (.iaload, 1) := by decide +kernel
theorem d_Mo_widen_38 : decode prog_7_method_10_code 38 = .ok (.iconst 1, 1) := by decide +kernel
theorem d_Mo_widen_39 : decode prog_7_method_10_code 39 = .ok (.iload_n 2, 1) := by decide +kernel
theorem d_Mo_widen_40 : decode prog_7_method_10_code 40 = .ok (.ishl, 1) := by decide +kernel
theorem d_Mo_widen_41 : decode prog_7_method_10_code 41 = .ok (.aload_n 0, 1) := by decide +kernel
theorem d_Mo_widen_42 : decode prog_7_method_10_code 42 = .ok (.getfield 32, 3) := by decide +kernel
theorem d_Mo_widen_45 : decode prog_7_method_10_code 45 = .ok (.iload_n 2, 1) := by decide +kernel
theorem d_Mo_widen_46 : decode prog_7_method_10_code 46 = .ok (.iaload, 1) := by decide +kernel
theorem d_Mo_widen_47 : decode prog_7_method_10_code 47 = .ok (.ior, 1) := by decide +kernel
theorem d_Mo_widen_48 : decode prog_7_method_10_code 48 = .ok (.ior, 1) := by decide +kernel
theorem d_Mo_widen_49 : decode prog_7_method_10_code 49 = .ok (.iastore, 1) := by decide +kernel
theorem d_Mo_widen_50 : decode prog_7_method_10_code 50 = .ok (.iinc 2 1, 3) := by decide +kernel
theorem d_Mo_widen_53 : decode prog_7_method_10_code 53 = .ok (.goto (-51), 3) := by decide +kernel
theorem d_Mo_widen_56 : decode prog_7_method_10_code 56 = .ok (.return_, 1) := by decide +kernel
theorem d_Mo_isHead_0 : decode prog_7_method_11_code 0 = .ok (.aload_n 0, 1) := by decide +kernel
theorem d_Mo_isHead_1 : decode prog_7_method_11_code 1 = .ok (.iload_n 1, 1) := by decide +kernel
theorem d_Mo_isHead_2 : decode prog_7_method_11_code 2 = .ok (.invokevirtual 49, 3) := by decide +kernel
theorem d_Mo_isHead_5 : decode prog_7_method_11_code 5 = .ok (.istore_n 2, 1) := by decide +kernel
theorem d_Mo_isHead_6 : decode prog_7_method_11_code 6 = .ok (.aload_n 0, 1) := by decide +kernel
theorem d_Mo_isHead_7 : decode prog_7_method_11_code 7 = .ok (.iload_n 1, 1) := by decide +kernel
theorem d_Mo_isHead_8 : decode prog_7_method_11_code 8 = .ok (.iconst 0, 1) := by decide +kernel
theorem d_Mo_isHead_9 : decode prog_7_method_11_code 9 = .ok (.invokevirtual 45, 3) := by decide +kernel
theorem d_Mo_isHead_12 : decode prog_7_method_11_code 12 = .ok (.istore_n 3, 1) := by decide +kernel
theorem d_Mo_isHead_13 : decode prog_7_method_11_code 13 = .ok (.iconst 0, 1) := by decide +kernel
theorem d_Mo_isHead_14 : decode prog_7_method_11_code 14 = .ok (.istore 4, 2) := by decide +kernel
theorem d_Mo_isHead_16 : decode prog_7_method_11_code 16 = .ok (.iload 4, 2) := by decide +kernel
theorem d_Mo_isHead_18 : decode prog_7_method_11_code 18 = .ok (.aload_n 0, 1) := by decide +kernel
theorem d_Mo_isHead_19 : decode prog_7_method_11_code 19 = .ok (.getfield 13, 3) := by decide +kernel
theorem d_Mo_isHead_22 : decode prog_7_method_11_code 22 = .ok (.aload_n 0, 1) := by decide +kernel
theorem d_Mo_isHead_23 : decode prog_7_method_11_code 23 = .ok (.getfield 41, 3) := by decide +kernel
theorem d_Mo_isHead_26 : decode prog_7_method_11_code 26 = .ok (.iaload, 1) := by decide +kernel
theorem d_Mo_isHead_27 : decode prog_7_method_11_code 27 = .ok (.if_icmp .ge 38, 3) := by decide +kernel
theorem d_Mo_isHead_30 : decode prog_7_method_11_code 30 = .ok (.iload_n 2, 1) := by decide +kernel
theorem d_Mo_isHead_31 : decode prog_7_method_11_code 31 = .ok (.ifCond .eq 26, 3) := by decide +kernel
theorem d_Mo_isHead_34 : decode prog_7_method_11_code 34 = .ok (.aload_n 0, 1) := by decide +kernel
theorem d_Mo_isHead_35 : decode prog_7_method_11_code 35 = .ok (.iload 4, 2) := by decide +kernel
theorem d_Mo_isHead_37 : decode prog_7_method_11_code 37 = .ok (.invokevirtual 49, 3) := by decide +kernel
theorem d_Mo_isHead_40 : decode prog_7_method_11_code 40 = .ok (.ifCond .eq 13, 3) := by decide +kernel
theorem d_Mo_isHead_43 : decode prog_7_method_11_code 43 = .ok (.aload_n 0, 1) := by decide +kernel
theorem d_Mo_isHead_44 : decode prog_7_method_11_code 44 = .ok (.iload 4, 2) := by decide +kernel
theorem d_Mo_isHead_46 : decode prog_7_method_11_code 46 = .ok (.iload_n 3, 1) := by decide +kernel
theorem d_Mo_isHead_47 : decode prog_7_method_11_code 47 = .ok (.invokevirtual 65, 3) := by decide +kernel
theorem d_Mo_isHead_50 : decode prog_7_method_11_code 50 = .ok (.ifCond .ne 7, 3) := by decide +kernel
theorem d_Mo_isHead_53 : decode prog_7_method_11_code 53 = .ok (.iconst 1, 1) := by decide +kernel
theorem d_Mo_isHead_54 : decode prog_7_method_11_code 54 = .ok (.goto 4, 3) := by decide +kernel
theorem d_Mo_isHead_57 : decode prog_7_method_11_code 57 = .ok (.iconst 0, 1) := by decide +kernel
theorem d_Mo_isHead_58 : decode prog_7_method_11_code 58 = .ok (.istore_n 2, 1) := by decide +kernel
theorem d_Mo_isHead_59 : decode prog_7_method_11_code 59 = .ok (.iinc 4 1, 3) := by decide +kernel
theorem d_Mo_isHead_62 : decode prog_7_method_11_code 62 = .ok (.goto (-46), 3) := by decide +kernel
theorem d_Mo_isHead_65 : decode prog_7_method_11_code 65 = .ok (.iload_n 2, 1) := by decide +kernel
theorem d_Mo_isHead_66 : decode prog_7_method_11_code 66 = .ok (.ireturn, 1) := by decide +kernel
theorem d_Mo_apply_0 : decode prog_7_method_12_code 0 = .ok (.aload_n 0, 1) := by decide +kernel
theorem d_Mo_apply_1 : decode prog_7_method_12_code 1 = .ok (.getfield 16, 3) := by decide +kernel
theorem d_Mo_apply_4 : decode prog_7_method_12_code 4 = .ok (.bipush 16, 2) := by decide +kernel
theorem d_Mo_apply_6 : decode prog_7_method_12_code 6 = .ok (.aload_n 0, 1) := by decide +kernel
theorem d_Mo_apply_7 : decode prog_7_method_12_code 7 = .ok (.getfield 41, 3) := by decide +kernel
theorem d_Mo_apply_10 : decode prog_7_method_12_code 10 = .ok (.imul, 1) := by decide +kernel
theorem d_Mo_apply_11 : decode prog_7_method_12_code 11 = .ok (.iload_n 1, 1) := by decide +kernel
theorem d_Mo_apply_12 : decode prog_7_method_12_code 12 = .ok (.iadd, 1) := by decide +kernel
theorem d_Mo_apply_13 : decode prog_7_method_12_code 13 = .ok (.iconst 1, 1) := by decide +kernel
theorem d_Mo_apply_14 : decode prog_7_method_12_code 14 = .ok (.bastore, 1) := by decide +kernel
theorem d_Mo_apply_15 : decode prog_7_method_12_code 15 = .ok (.aload_n 0, 1) := by decide +kernel
theorem d_Mo_apply_16 : decode prog_7_method_12_code 16 = .ok (.getfield 20, 3) := by decide +kernel
theorem d_Mo_apply_19 : decode prog_7_method_12_code 19 = .ok (.bipush 16, 2) := by decide +kernel
theorem d_Mo_apply_21 : decode prog_7_method_12_code 21 = .ok (.aload_n 0, 1) := by decide +kernel
theorem d_Mo_apply_22 : decode prog_7_method_12_code 22 = .ok (.getfield 41, 3) := by decide +kernel
theorem d_Mo_apply_25 : decode prog_7_method_12_code 25 = .ok (.imul, 1) := by decide +kernel
theorem d_Mo_apply_26 : decode prog_7_method_12_code 26 = .ok (.aload_n 0, 1) := by decide +kernel
theorem d_Mo_apply_27 : decode prog_7_method_12_code 27 = .ok (.getfield 23, 3) := by decide +kernel
theorem d_Mo_apply_30 : decode prog_7_method_12_code 30 = .ok (.aload_n 0, 1) := by decide +kernel
theorem d_Mo_apply_31 : decode prog_7_method_12_code 31 = .ok (.getfield 41, 3) := by decide +kernel
theorem d_Mo_apply_34 : decode prog_7_method_12_code 34 = .ok (.iaload, 1) := by decide +kernel
theorem d_Mo_apply_35 : decode prog_7_method_12_code 35 = .ok (.iadd, 1) := by decide +kernel
theorem d_Mo_apply_36 : decode prog_7_method_12_code 36 = .ok (.iload_n 1, 1) := by decide +kernel
theorem d_Mo_apply_37 : decode prog_7_method_12_code 37 = .ok (.iastore, 1) := by decide +kernel
theorem d_Mo_apply_38 : decode prog_7_method_12_code 38 = .ok (.aload_n 0, 1) := by decide +kernel
theorem d_Mo_apply_39 : decode prog_7_method_12_code 39 = .ok (.getfield 23, 3) := by decide +kernel
theorem d_Mo_apply_42 : decode prog_7_method_12_code 42 = .ok (.aload_n 0, 1) := by decide +kernel
theorem d_Mo_apply_43 : decode prog_7_method_12_code 43 = .ok (.getfield 41, 3) := by decide +kernel
theorem d_Mo_apply_46 : decode prog_7_method_12_code 46 = .ok (.dup2, 1) := by decide +kernel
theorem d_Mo_apply_47 : decode prog_7_method_12_code 47 = .ok (.iaload, 1) := by decide +kernel
theorem d_Mo_apply_48 : decode prog_7_method_12_code 48 = .ok (.iconst 1, 1) := by decide +kernel
theorem d_Mo_apply_49 : decode prog_7_method_12_code 49 = .ok (.iadd, 1) := by decide +kernel
theorem d_Mo_apply_50 : decode prog_7_method_12_code 50 = .ok (.iastore, 1) := by decide +kernel
theorem d_Mo_apply_51 : decode prog_7_method_12_code 51 = .ok (.return_, 1) := by decide +kernel
theorem d_Mo_ready_0 : decode prog_7_method_13_code 0 = .ok (.iconst 1, 1) := by decide +kernel
theorem d_Mo_ready_1 : decode prog_7_method_13_code 1 = .ok (.istore_n 2, 1) := by decide +kernel
theorem d_Mo_ready_2 : decode prog_7_method_13_code 2 = .ok (.iconst 0, 1) := by decide +kernel
theorem d_Mo_ready_3 : decode prog_7_method_13_code 3 = .ok (.istore_n 3, 1) := by decide +kernel
theorem d_Mo_ready_4 : decode prog_7_method_13_code 4 = .ok (.iload_n 3, 1) := by decide +kernel
theorem d_Mo_ready_5 : decode prog_7_method_13_code 5 = .ok (.aload_n 0, 1) := by decide +kernel
theorem d_Mo_ready_6 : decode prog_7_method_13_code 6 = .ok (.iload_n 1, 1) := by decide +kernel
theorem d_Mo_ready_7 : decode prog_7_method_13_code 7 = .ok (.iconst 5, 1) := by decide +kernel
theorem d_Mo_ready_8 : decode prog_7_method_13_code 8 = .ok (.invokevirtual 45, 3) := by decide +kernel
theorem d_Mo_ready_11 : decode prog_7_method_13_code 11 = .ok (.if_icmp .ge 40, 3) := by decide +kernel
theorem d_Mo_ready_14 : decode prog_7_method_13_code 14 = .ok (.aload_n 0, 1) := by decide +kernel
theorem d_Mo_ready_15 : decode prog_7_method_13_code 15 = .ok (.aload_n 0, 1) := by decide +kernel
theorem d_Mo_ready_16 : decode prog_7_method_13_code 16 = .ok (.iload_n 1, 1) := by decide +kernel
theorem d_Mo_ready_17 : decode prog_7_method_13_code 17 = .ok (.bipush 6, 2) := by decide +kernel
theorem d_Mo_ready_19 : decode prog_7_method_13_code 19 = .ok (.iload_n 3, 1) := by decide +kernel
theorem d_Mo_ready_20 : decode prog_7_method_13_code 20 = .ok (.iadd, 1) := by decide +kernel
theorem d_Mo_ready_21 : decode prog_7_method_13_code 21 = .ok (.invokevirtual 45, 3) := by decide +kernel
theorem d_Mo_ready_24 : decode prog_7_method_13_code 24 = .ok (.iconst 1, 1) := by decide +kernel
theorem d_Mo_ready_25 : decode prog_7_method_13_code 25 = .ok (.invokevirtual 53, 3) := by decide +kernel
theorem d_Mo_ready_28 : decode prog_7_method_13_code 28 = .ok (.istore 4, 2) := by decide +kernel
theorem d_Mo_ready_30 : decode prog_7_method_13_code 30 = .ok (.iload_n 2, 1) := by decide +kernel
theorem d_Mo_ready_31 : decode prog_7_method_13_code 31 = .ok (.ifCond .eq 12, 3) := by decide +kernel
theorem d_Mo_ready_34 : decode prog_7_method_13_code 34 = .ok (.iload 4, 2) := by decide +kernel
theorem d_Mo_ready_36 : decode prog_7_method_13_code 36 = .ok (.ifCond .lt 7, 3) := by decide +kernel
theorem d_Mo_ready_39 : decode prog_7_method_13_code 39 = .ok (.iconst 1, 1) := by decide +kernel
theorem d_Mo_ready_40 : decode prog_7_method_13_code 40 = .ok (.goto 4, 3) := by decide +kernel
theorem d_Mo_ready_43 : decode prog_7_method_13_code 43 = .ok (.iconst 0, 1) := by decide +kernel
theorem d_Mo_ready_44 : decode prog_7_method_13_code 44 = .ok (.istore_n 2, 1) := by decide +kernel
theorem d_Mo_ready_45 : decode prog_7_method_13_code 45 = .ok (.iinc 3 1, 3) := by decide +kernel
theorem d_Mo_ready_48 : decode prog_7_method_13_code 48 = .ok (.goto (-44), 3) := by decide +kernel
theorem d_Mo_ready_51 : decode prog_7_method_13_code 51 = .ok (.iload_n 2, 1) := by decide +kernel
theorem d_Mo_ready_52 : decode prog_7_method_13_code 52 = .ok (.ireturn, 1) := by decide +kernel
theorem d_Mo_settle_0 : decode prog_7_method_14_code 0 = .ok (.iconst 0, 1) := by decide +kernel
theorem d_Mo_settle_1 : decode prog_7_method_14_code 1 = .ok (.istore_n 1, 1) := by decide +kernel
theorem d_Mo_settle_2 : decode prog_7_method_14_code 2 = .ok (.iconst 0, 1) := by decide +kernel
theorem d_Mo_settle_3 : decode prog_7_method_14_code 3 = .ok (.istore_n 2, 1) := by decide +kernel
theorem d_Mo_settle_4 : decode prog_7_method_14_code 4 = .ok (.iload_n 2, 1) := by decide +kernel
theorem d_Mo_settle_5 : decode prog_7_method_14_code 5 = .ok (.bipush 16, 2) := by decide +kernel
theorem d_Mo_settle_7 : decode prog_7_method_14_code 7 = .ok (.if_icmp .ge 87, 3) := by decide +kernel
theorem d_Mo_settle_10 : decode prog_7_method_14_code 10 = .ok (.iconst (-1), 1) := by decide +kernel
theorem d_Mo_settle_11 : decode prog_7_method_14_code 11 = .ok (.istore_n 3, 1) := by decide +kernel
theorem d_Mo_settle_12 : decode prog_7_method_14_code 12 = .ok (.iconst 0, 1) := by decide +kernel
theorem d_Mo_settle_13 : decode prog_7_method_14_code 13 = .ok (.istore 4, 2) := by decide +kernel
theorem d_Mo_settle_15 : decode prog_7_method_14_code 15 = .ok (.iload 4, 2) := by decide +kernel
theorem d_Mo_settle_17 : decode prog_7_method_14_code 17 = .ok (.aload_n 0, 1) := by decide +kernel
theorem d_Mo_settle_18 : decode prog_7_method_14_code 18 = .ok (.getfield 13, 3) := by decide +kernel
theorem d_Mo_settle_21 : decode prog_7_method_14_code 21 = .ok (.aload_n 0, 1) := by decide +kernel
theorem d_Mo_settle_22 : decode prog_7_method_14_code 22 = .ok (.getfield 41, 3) := by decide +kernel
