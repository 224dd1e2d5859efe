/-! decode rows -/
theorem d_Co_init_0 : decode prog_2_method_1_code 0 = .ok (.aload_n 0, 1) := by decide +kernel
theorem d_Co_init_1 : decode prog_2_method_1_code 1 = .ok (.invokespecial 3, 3) := by decide +kernel
theorem d_Co_init_4 : decode prog_2_method_1_code 4 = .ok (.aload_n 0, 1) := by decide +kernel
theorem d_Co_init_5 : decode prog_2_method_1_code 5 = .ok (.bipush 16, 2) := by decide +kernel
theorem d_Co_init_7 : decode prog_2_method_1_code 7 = .ok (.newarray .int, 2) := by decide +kernel
theorem d_Co_init_9 : decode prog_2_method_1_code 9 = .ok (.putfield 9, 3) := by decide +kernel
theorem d_Co_init_12 : decode prog_2_method_1_code 12 = .ok (.aload_n 0, 1) := by decide +kernel
theorem d_Co_init_13 : decode prog_2_method_1_code 13 = .ok (.bipush 16, 2) := by decide +kernel
theorem d_Co_init_15 : decode prog_2_method_1_code 15 = .ok (.newarray .int, 2) := by decide +kernel
theorem d_Co_init_17 : decode prog_2_method_1_code 17 = .ok (.putfield 15, 3) := by decide +kernel
theorem d_Co_init_20 : decode prog_2_method_1_code 20 = .ok (.return_, 1) := by decide +kernel
theorem d_Co_findEntry_0 : decode prog_2_method_2_code 0 = .ok (.iconst 0, 1) := by decide +kernel
theorem d_Co_findEntry_1 : decode prog_2_method_2_code 1 = .ok (.istore 5, 2) := by decide +kernel
theorem d_Co_findEntry_3 : decode prog_2_method_2_code 3 = .ok (.iconst 0, 1) := by decide +kernel
theorem d_Co_findEntry_4 : decode prog_2_method_2_code 4 = .ok (.istore 6, 2) := by decide +kernel
theorem d_Co_findEntry_6 : decode prog_2_method_2_code 6 = .ok (.iload 6, 2) := by decide +kernel
theorem d_Co_findEntry_8 : decode prog_2_method_2_code 8 = .ok (.aload_n 1, 1) := by decide +kernel
theorem d_Co_findEntry_9 : decode prog_2_method_2_code 9 = .ok (.getfield 18, 3) := by decide +kernel
theorem d_Co_findEntry_12 : decode prog_2_method_2_code 12 = .ok (.if_icmp .ge 51, 3) := by decide +kernel
theorem d_Co_findEntry_15 : decode prog_2_method_2_code 15 = .ok (.aload_n 1, 1) := by decide +kernel
theorem d_Co_findEntry_16 : decode prog_2_method_2_code 16 = .ok (.getfield 24, 3) := by decide +kernel
theorem d_Co_findEntry_19 : decode prog_2_method_2_code 19 = .ok (.iload 6, 2) := by decide +kernel
theorem d_Co_findEntry_21 : decode prog_2_method_2_code 21 = .ok (.iaload, 1) := by decide +kernel
theorem d_Co_findEntry_22 : decode prog_2_method_2_code 22 = .ok (.istore 7, 2) := by decide +kernel
theorem d_Co_findEntry_24 : decode prog_2_method_2_code 24 = .ok (.aload_n 0, 1) := by decide +kernel
theorem d_Co_findEntry_25 : decode prog_2_method_2_code 25 = .ok (.aload_n 1, 1) := by decide +kernel
theorem d_Co_findEntry_26 : decode prog_2_method_2_code 26 = .ok (.iload_n 2, 1) := by decide +kernel
theorem d_Co_findEntry_27 : decode prog_2_method_2_code 27 = .ok (.iload_n 3, 1) := by decide +kernel
theorem d_Co_findEntry_28 : decode prog_2_method_2_code 28 = .ok (.iload 7, 2) := by decide +kernel
theorem d_Co_findEntry_30 : decode prog_2_method_2_code 30 = .ok (.invokevirtual 27, 3) := by decide +kernel
theorem d_Co_findEntry_33 : decode prog_2_method_2_code 33 = .ok (.ifCond .eq 24, 3) := by decide +kernel
theorem d_Co_findEntry_36 : decode prog_2_method_2_code 36 = .ok (.iload 5, 2) := by decide +kernel
theorem d_Co_findEntry_38 : decode prog_2_method_2_code 38 = .ok (.iload 4, 2) := by decide +kernel
theorem d_Co_findEntry_40 : decode prog_2_method_2_code 40 = .ok (.if_icmp .ne 14, 3) := by decide +kernel
theorem d_Co_findEntry_43 : decode prog_2_method_2_code 43 = .ok (.aload_n 1, 1) := by decide +kernel
theorem d_Co_findEntry_44 : decode prog_2_method_2_code 44 = .ok (.getfield 31, 3) := by decide +kernel
theorem d_Co_findEntry_47 : decode prog_2_method_2_code 47 = .ok (.iload 7, 2) := by decide +kernel
theorem d_Co_findEntry_49 : decode prog_2_method_2_code 49 = .ok (.aaload, 1) := by decide +kernel
theorem d_Co_findEntry_50 : decode prog_2_method_2_code 50 = .ok (.getfield 35, 3) := by decide +kernel
theorem d_Co_findEntry_53 : decode prog_2_method_2_code 53 = .ok (.ireturn, 1) := by decide +kernel
theorem d_Co_findEntry_54 : decode prog_2_method_2_code 54 = .ok (.iinc 5 1, 3) := by decide +kernel
theorem d_Co_findEntry_57 : decode prog_2_method_2_code 57 = .ok (.iinc 6 1, 3) := by decide +kernel
theorem d_Co_findEntry_60 : decode prog_2_method_2_code 60 = .ok (.goto (-54), 3) := by decide +kernel
theorem d_Co_findEntry_63 : decode prog_2_method_2_code 63 = .ok (.iload 4, 2) := by decide +kernel
theorem d_Co_findEntry_65 : decode prog_2_method_2_code 65 = .ok (.iconst (-1), 1) := by decide +kernel
theorem d_Co_findEntry_66 : decode prog_2_method_2_code 66 = .ok (.if_icmp .ne 8, 3) := by decide +kernel
theorem d_Co_findEntry_69 : decode prog_2_method_2_code 69 = .ok (.iload 5, 2) := by decide +kernel
theorem d_Co_findEntry_71 : decode prog_2_method_2_code 71 = .ok (.goto 4, 3) := by decide +kernel
theorem d_Co_findEntry_74 : decode prog_2_method_2_code 74 = .ok (.iconst (-1), 1) := by decide +kernel
theorem d_Co_findEntry_75 : decode prog_2_method_2_code 75 = .ok (.ireturn, 1) := by decide +kernel
theorem d_Co_isEntryAt_0 : decode prog_2_method_3_code 0 = .ok (.aload_n 1, 1) := by decide +kernel
theorem d_Co_isEntryAt_1 : decode prog_2_method_3_code 1 = .ok (.getfield 31, 3) := by decide +kernel
theorem d_Co_isEntryAt_4 : decode prog_2_method_3_code 4 = .ok (.iload 4, 2) := by decide +kernel
theorem d_Co_isEntryAt_6 : decode prog_2_method_3_code 6 = .ok (.aaload, 1) := by decide +kernel
theorem d_Co_isEntryAt_7 : decode prog_2_method_3_code 7 = .ok (.astore 5, 2) := by decide +kernel
theorem d_Co_isEntryAt_9 : decode prog_2_method_3_code 9 = .ok (.aload 5, 2) := by decide +kernel
theorem d_Co_isEntryAt_11 : decode prog_2_method_3_code 11 = .ok (.getfield 40, 3) := by decide +kernel
theorem d_Co_isEntryAt_14 : decode prog_2_method_3_code 14 = .ok (.iload_n 2, 1) := by decide +kernel
theorem d_Co_isEntryAt_15 : decode prog_2_method_3_code 15 = .ok (.if_icmp .ne 26, 3) := by decide +kernel
theorem d_Co_isEntryAt_18 : decode prog_2_method_3_code 18 = .ok (.aload 5, 2) := by decide +kernel
theorem d_Co_isEntryAt_20 : decode prog_2_method_3_code 20 = .ok (.getfield 43, 3) := by decide +kernel
theorem d_Co_isEntryAt_23 : decode prog_2_method_3_code 23 = .ok (.iload_n 3, 1) := by decide +kernel
theorem d_Co_isEntryAt_24 : decode prog_2_method_3_code 24 = .ok (.if_icmp .ne 17, 3) := by decide +kernel
theorem d_Co_isEntryAt_27 : decode prog_2_method_3_code 27 = .ok (.aload_n 0, 1) := by decide +kernel
theorem d_Co_isEntryAt_28 : decode prog_2_method_3_code 28 = .ok (.aload_n 1, 1) := by decide +kernel
theorem d_Co_isEntryAt_29 : decode prog_2_method_3_code 29 = .ok (.iload 4, 2) := by decide +kernel
theorem d_Co_isEntryAt_31 : decode prog_2_method_3_code 31 = .ok (.invokevirtual 46, 3) := by decide +kernel
theorem d_Co_isEntryAt_34 : decode prog_2_method_3_code 34 = .ok (.ifCond .eq 7, 3) := by decide +kernel
theorem d_Co_isEntryAt_37 : decode prog_2_method_3_code 37 = .ok (.iconst 1, 1) := by decide +kernel
theorem d_Co_isEntryAt_38 : decode prog_2_method_3_code 38 = .ok (.goto 4, 3) := by decide +kernel
theorem d_Co_isEntryAt_41 : decode prog_2_method_3_code 41 = .ok (.iconst 0, 1) := by decide +kernel
theorem d_Co_isEntryAt_42 : decode prog_2_method_3_code 42 = .ok (.ireturn, 1) := by decide +kernel
theorem d_Co_isEntry_0 : decode prog_2_method_4_code 0 = .ok (.aload_n 1, 1) := by decide +kernel
theorem d_Co_isEntry_1 : decode prog_2_method_4_code 1 = .ok (.getfield 31, 3) := by decide +kernel
theorem d_Co_isEntry_4 : decode prog_2_method_4_code 4 = .ok (.iload_n 2, 1) := by decide +kernel
theorem d_Co_isEntry_5 : decode prog_2_method_4_code 5 = .ok (.aaload, 1) := by decide +kernel
theorem d_Co_isEntry_6 : decode prog_2_method_4_code 6 = .ok (.astore_n 3, 1) := by decide +kernel
theorem d_Co_isEntry_7 : decode prog_2_method_4_code 7 = .ok (.aload_n 1, 1) := by decide +kernel
theorem d_Co_isEntry_8 : decode prog_2_method_4_code 8 = .ok (.getfield 50, 3) := by decide +kernel
theorem d_Co_isEntry_11 : decode prog_2_method_4_code 11 = .ok (.iload_n 2, 1) := by decide +kernel
theorem d_Co_isEntry_12 : decode prog_2_method_4_code 12 = .ok (.baload, 1) := by decide +kernel
theorem d_Co_isEntry_13 : decode prog_2_method_4_code 13 = .ok (.ifCond .eq 18, 3) := by decide +kernel
theorem d_Co_isEntry_16 : decode prog_2_method_4_code 16 = .ok (.aload_n 3, 1) := by decide +kernel
theorem d_Co_isEntry_17 : decode prog_2_method_4_code 17 = .ok (.invokevirtual 54, 3) := by decide +kernel
theorem d_Co_isEntry_20 : decode prog_2_method_4_code 20 = .ok (.ifCond .eq 11, 3) := by decide +kernel
theorem d_Co_isEntry_23 : decode prog_2_method_4_code 23 = .ok (.aload_n 3, 1) := by decide +kernel
theorem d_Co_isEntry_24 : decode prog_2_method_4_code 24 = .ok (.getfield 58, 3) := by decide +kernel
theorem d_Co_isEntry_27 : decode prog_2_method_4_code 27 = .ok (.iconst 5, 1) := by decide +kernel
theorem d_Co_isEntry_28 : decode prog_2_method_4_code 28 = .ok (.if_icmp .ne 5, 3) := by decide +kernel
theorem d_Co_isEntry_31 : decode prog_2_method_4_code 31 = .ok (.iconst 0, 1) := by decide +kernel
theorem d_Co_isEntry_32 : decode prog_2_method_4_code 32 = .ok (.ireturn, 1) := by decide +kernel
theorem d_Co_isEntry_33 : decode prog_2_method_4_code 33 = .ok (.iconst 0, 1) := by decide +kernel
theorem d_Co_isEntry_34 : decode prog_2_method_4_code 34 = .ok (.istore 4, 2) := by decide +kernel
theorem d_Co_isEntry_36 : decode prog_2_method_4_code 36 = .ok (.iload 4, 2) := by decide +kernel
theorem d_Co_isEntry_38 : decode prog_2_method_4_code 38 = .ok (.aload_n 1, 1) := by decide +kernel
theorem d_Co_isEntry_39 : decode prog_2_method_4_code 39 = .ok (.getfield 18, 3) := by decide +kernel
theorem d_Co_isEntry_42 : decode prog_2_method_4_code 42 = .ok (.if_icmp .ge 32, 3) := by decide +kernel
theorem d_Co_isEntry_45 : decode prog_2_method_4_code 45 = .ok (.aload_n 1, 1) := by decide +kernel
theorem d_Co_isEntry_46 : decode prog_2_method_4_code 46 = .ok (.iload_n 2, 1) := by decide +kernel
theorem d_Co_isEntry_47 : decode prog_2_method_4_code 47 = .ok (.iload 4, 2) := by decide +kernel
theorem d_Co_isEntry_49 : decode prog_2_method_4_code 49 = .ok (.invokevirtual 61, 3) := by decide +kernel
theorem d_Co_isEntry_52 : decode prog_2_method_4_code 52 = .ok (.ifCond .eq 16, 3) := by decide +kernel
theorem d_Co_isEntry_55 : decode prog_2_method_4_code 55 = .ok (.aload_n 0, 1) := by decide +kernel
theorem d_Co_isEntry_56 : decode prog_2_method_4_code 56 = .ok (.aload_n 1, 1) := by decide +kernel
theorem d_Co_isEntry_57 : decode prog_2_method_4_code 57 = .ok (.iload 4, 2) := by decide +kernel
theorem d_Co_isEntry_59 : decode prog_2_method_4_code 59 = .ok (.aload_n 3, 1) := by decide +kernel
theorem d_Co_isEntry_60 : decode prog_2_method_4_code 60 = .ok (.invokevirtual 65, 3) := by decide +kernel
theorem d_Co_isEntry_63 : decode prog_2_method_4_code 63 = .ok (.ifCond .eq 5, 3) := by decide +kernel
theorem d_Co_isEntry_66 : decode prog_2_method_4_code 66 = .ok (.iconst 0, 1) := by decide +kernel
theorem d_Co_isEntry_67 : decode prog_2_method_4_code 67 = .ok (.ireturn, 1) := by decide +kernel
theorem d_Co_isEntry_68 : decode prog_2_method_4_code 68 = .ok (.iinc 4 1, 3) := by decide +kernel
theorem d_Co_isEntry_71 : decode prog_2_method_4_code 71 = .ok (.goto (-35), 3) := by decide +kernel
theorem d_Co_isEntry_74 : decode prog_2_method_4_code 74 = .ok (.iconst 1, 1) := by decide +kernel
theorem d_Co_isEntry_75 : decode prog_2_method_4_code 75 = .ok (.ireturn, 1) := by decide +kernel
theorem d_Co_writesSamePlace_0 : decode prog_2_method_5_code 0 = .ok (.aload_n 1, 1) := by decide +kernel
theorem d_Co_writesSamePlace_1 : decode prog_2_method_5_code 1 = .ok (.getfield 31, 3) := by decide +kernel
theorem d_Co_writesSamePlace_4 : decode prog_2_method_5_code 4 = .ok (.iload_n 2, 1) := by decide +kernel
theorem d_Co_writesSamePlace_5 : decode prog_2_method_5_code 5 = .ok (.aaload, 1) := by decide +kernel
theorem d_Co_writesSamePlace_6 : decode prog_2_method_5_code 6 = .ok (.astore 4, 2) := by decide +kernel
theorem d_Co_writesSamePlace_8 : decode prog_2_method_5_code 8 = .ok (.aload_n 1, 1) := by decide +kernel
theorem d_Co_writesSamePlace_9 : decode prog_2_method_5_code 9 = .ok (.getfield 50, 3) := by decide +kernel
theorem d_Co_writesSamePlace_12 : decode prog_2_method_5_code 12 = .ok (.iload_n 2, 1) := by decide +kernel
theorem d_Co_writesSamePlace_13 : decode prog_2_method_5_code 13 = .ok (.baload, 1) := by decide +kernel
theorem d_Co_writesSamePlace_14 : decode prog_2_method_5_code 14 = .ok (.ifCond .eq 39, 3) := by decide +kernel
theorem d_Co_writesSamePlace_17 : decode prog_2_method_5_code 17 = .ok (.aload 4, 2) := by decide +kernel
theorem d_Co_writesSamePlace_19 : decode prog_2_method_5_code 19 = .ok (.invokevirtual 54, 3) := by decide +kernel
theorem d_Co_writesSamePlace_22 : decode prog_2_method_5_code 22 = .ok (.ifCond .eq 31, 3) := by decide +kernel
theorem d_Co_writesSamePlace_25 : decode prog_2_method_5_code 25 = .ok (.aload 4, 2) := by decide +kernel
theorem d_Co_writesSamePlace_27 : decode prog_2_method_5_code 27 = .ok (.getfield 40, 3) := by decide +kernel
theorem d_Co_writesSamePlace_30 : decode prog_2_method_5_code 30 = .ok (.aload_n 3, 1) := by decide +kernel
theorem d_Co_writesSamePlace_31 : decode prog_2_method_5_code 31 = .ok (.getfield 40, 3) := by decide +kernel
theorem d_Co_writesSamePlace_34 : decode prog_2_method_5_code 34 = .ok (.if_icmp .ne 19, 3) := by decide +kernel
theorem d_Co_writesSamePlace_37 : decode prog_2_method_5_code 37 = .ok (.aload 4, 2) := by decide +kernel
theorem d_Co_writesSamePlace_39 : decode prog_2_method_5_code 39 = .ok (.getfield 43, 3) := by decide +kernel
theorem d_Co_writesSamePlace_42 : decode prog_2_method_5_code 42 = .ok (.aload_n 3, 1) := by decide +kernel
theorem d_Co_writesSamePlace_43 : decode prog_2_method_5_code 43 = .ok (.getfield 43, 3) := by decide +kernel
theorem d_Co_writesSamePlace_46 : decode prog_2_method_5_code 46 = .ok (.if_icmp .ne 7, 3) := by decide +kernel
theorem d_Co_writesSamePlace_49 : decode prog_2_method_5_code 49 = .ok (.iconst 1, 1) := by decide +kernel
theorem d_Co_writesSamePlace_50 : decode prog_2_method_5_code 50 = .ok (.goto 4, 3) := by decide +kernel
theorem d_Co_writesSamePlace_53 : decode prog_2_method_5_code 53 = .ok (.iconst 0, 1) := by decide +kernel
theorem d_Co_writesSamePlace_54 : decode prog_2_method_5_code 54 = .ok (.ireturn, 1) := by decide +kernel
theorem d_Co_findElement_0 : decode prog_2_method_6_code 0 = .ok (.aload_n 0, 1) := by decide +kernel
theorem d_Co_findElement_1 : decode prog_2_method_6_code 1 = .ok (.aload_n 1, 1) := by decide +kernel
theorem d_Co_findElement_2 : decode prog_2_method_6_code 2 = .ok (.iload_n 2, 1) := by decide +kernel
theorem d_Co_findElement_3 : decode prog_2_method_6_code 3 = .ok (.invokevirtual 69, 3) := by decide +kernel
theorem d_Co_findElement_6 : decode prog_2_method_6_code 6 = .ok (.istore 4, 2) := by decide +kernel
theorem d_Co_findElement_8 : decode prog_2_method_6_code 8 = .ok (.iconst 0, 1) := by decide +kernel
theorem d_Co_findElement_9 : decode prog_2_method_6_code 9 = .ok (.istore 5, 2) := by decide +kernel
theorem d_Co_findElement_11 : decode prog_2_method_6_code 11 = .ok (.iconst 0, 1) := by decide +kernel
theorem d_Co_findElement_12 : decode prog_2_method_6_code 12 = .ok (.istore 6, 2) := by decide +kernel
theorem d_Co_findElement_14 : decode prog_2_method_6_code 14 = .ok (.iload 6, 2) := by decide +kernel
theorem d_Co_findElement_16 : decode prog_2_method_6_code 16 = .ok (.iload 4, 2) := by decide +kernel
theorem d_Co_findElement_18 : decode prog_2_method_6_code 18 = .ok (.if_icmp .ge 48, 3) := by decide +kernel
theorem d_Co_findElement_21 : decode prog_2_method_6_code 21 = .ok (.aload_n 0, 1) := by decide +kernel
theorem d_Co_findElement_22 : decode prog_2_method_6_code 22 = .ok (.getfield 9, 3) := by decide +kernel
theorem d_Co_findElement_25 : decode prog_2_method_6_code 25 = .ok (.iload 6, 2) := by decide +kernel
theorem d_Co_findElement_27 : decode prog_2_method_6_code 27 = .ok (.iaload, 1) := by decide +kernel
theorem d_Co_findElement_28 : decode prog_2_method_6_code 28 = .ok (.istore 7, 2) := by decide +kernel
theorem d_Co_findElement_30 : decode prog_2_method_6_code 30 = .ok (.aload_n 0, 1) := by decide +kernel
theorem d_Co_findElement_31 : decode prog_2_method_6_code 31 = .ok (.aload_n 1, 1) := by decide +kernel
theorem d_Co_findElement_32 : decode prog_2_method_6_code 32 = .ok (.iload 7, 2) := by decide +kernel
theorem d_Co_findElement_34 : decode prog_2_method_6_code 34 = .ok (.invokevirtual 73, 3) := by decide +kernel
theorem d_Co_findElement_37 : decode prog_2_method_6_code 37 = .ok (.ifCond .ne 23, 3) := by decide +kernel
theorem d_Co_findElement_40 : decode prog_2_method_6_code 40 = .ok (.iload 5, 2) := by decide +kernel
theorem d_Co_findElement_42 : decode prog_2_method_6_code 42 = .ok (.iload_n 3, 1) := by decide +kernel
theorem d_Co_findElement_43 : decode prog_2_method_6_code 43 = .ok (.if_icmp .ne 14, 3) := by decide +kernel
theorem d_Co_findElement_46 : decode prog_2_method_6_code 46 = .ok (.aload_n 1, 1) := by decide +kernel
theorem d_Co_findElement_47 : decode prog_2_method_6_code 47 = .ok (.getfield 31, 3) := by decide +kernel
theorem d_Co_findElement_50 : decode prog_2_method_6_code 50 = .ok (.iload 7, 2) := by decide +kernel
theorem d_Co_findElement_52 : decode prog_2_method_6_code 52 = .ok (.aaload, 1) := by decide +kernel
theorem d_Co_findElement_53 : decode prog_2_method_6_code 53 = .ok (.getfield 35, 3) := by decide +kernel
theorem d_Co_findElement_56 : decode prog_2_method_6_code 56 = .ok (.ireturn, 1) := by decide +kernel
theorem d_Co_findElement_57 : decode prog_2_method_6_code 57 = .ok (.iinc 5 1, 3) := by decide +kernel
theorem d_Co_findElement_60 : decode prog_2_method_6_code 60 = .ok (.iinc 6 1, 3) := by decide +kernel
theorem d_Co_findElement_63 : decode prog_2_method_6_code 63 = .ok (.goto (-49), 3) := by decide +kernel
theorem d_Co_findElement_66 : decode prog_2_method_6_code 66 = .ok (.iload_n 3, 1) := by decide +kernel
theorem d_Co_findElement_67 : decode prog_2_method_6_code 67 = .ok (.iconst (-1), 1) := by decide +kernel
theorem d_Co_findElement_68 : decode prog_2_method_6_code 68 = .ok (.if_icmp .ne 8, 3) := by decide +kernel
theorem d_Co_findElement_71 : decode prog_2_method_6_code 71 = .ok (.iload 5, 2) := by decide +kernel
theorem d_Co_findElement_73 : decode prog_2_method_6_code 73 = .ok (.goto 4, 3) := by decide +kernel
theorem d_Co_findElement_76 : decode prog_2_method_6_code 76 = .ok (.iconst (-1), 1) := by decide +kernel
theorem d_Co_findElement_77 : decode prog_2_method_6_code 77 = .ok (.ireturn, 1) := by decide +kernel
theorem d_Co_arrange_0 : decode prog_2_method_7_code 0 = .ok (.iconst 0, 1) := by decide +kernel
theorem d_Co_arrange_1 : decode prog_2_method_7_code 1 = .ok (.istore_n 3, 1) := by decide +kernel
theorem d_Co_arrange_2 : decode prog_2_method_7_code 2 = .ok (.iconst 0, 1) := by decide +kernel
theorem d_Co_arrange_3 : decode prog_2_method_7_code 3 = .ok (.istore 4, 2) := by decide +kernel
theorem d_Co_arrange_5 : decode prog_2_method_7_code 5 = .ok (.iload 4, 2) := by decide +kernel
theorem d_Co_arrange_7 : decode prog_2_method_7_code 7 = .ok (.aload_n 1, 1) := by decide +kernel
theorem d_Co_arrange_8 : decode prog_2_method_7_code 8 = .ok (.getfield 18, 3) := by decide +kernel
theorem d_Co_arrange_11 : decode prog_2_method_7_code 11 = .ok (.if_icmp .ge 71, 3) := by decide +kernel
theorem d_Co_arrange_14 : decode prog_2_method_7_code 14 = .ok (.aload_n 1, 1) := by decide +kernel
theorem d_Co_arrange_15 : decode prog_2_method_7_code 15 = .ok (.getfield 24, 3) := by decide +kernel
theorem d_Co_arrange_18 : decode prog_2_method_7_code 18 = .ok (.iload 4, 2) := by decide +kernel
theorem d_Co_arrange_20 : decode prog_2_method_7_code 20 = .ok (.iaload, 1) := by decide +kernel
theorem d_Co_arrange_21 : decode prog_2_method_7_code 21 = .ok (.istore 5, 2) := by decide +kernel
theorem d_Co_arrange_23 : decode prog_2_method_7_code 23 = .ok (.aload_n 1, 1) := by decide +kernel
theorem d_Co_arrange_24 : decode prog_2_method_7_code 24 = .ok (.getfield 31, 3) := by decide +kernel
theorem d_Co_arrange_27 : decode prog_2_method_7_code 27 = .ok (.iload 5, 2) := by decide +kernel
theorem d_Co_arrange_29 : decode prog_2_method_7_code 29 = .ok (.aaload, 1) := by decide +kernel
theorem d_Co_arrange_30 : decode prog_2_method_7_code 30 = .ok (.astore 6, 2) := by decide +kernel
theorem d_Co_arrange_32 : decode prog_2_method_7_code 32 = .ok (.aload_n 1, 1) := by decide +kernel
theorem d_Co_arrange_33 : decode prog_2_method_7_code 33 = .ok (.getfield 50, 3) := by decide +kernel
theorem d_Co_arrange_36 : decode prog_2_method_7_code 36 = .ok (.iload 5, 2) := by decide +kernel
theorem d_Co_arrange_38 : decode prog_2_method_7_code 38 = .ok (.baload, 1) := by decide +kernel
theorem d_Co_arrange_39 : decode prog_2_method_7_code 39 = .ok (.ifCond .eq 37, 3) := by decide +kernel
theorem d_Co_arrange_42 : decode prog_2_method_7_code 42 = .ok (.aload 6, 2) := by decide +kernel
theorem d_Co_arrange_44 : decode prog_2_method_7_code 44 = .ok (.getfield 58, 3) := by decide +kernel
theorem d_Co_arrange_47 : decode prog_2_method_7_code 47 = .ok (.iconst 3, 1) := by decide +kernel
theorem d_Co_arrange_48 : decode prog_2_method_7_code 48 = .ok (.if_icmp .ne 28, 3) := by decide +kernel
theorem d_Co_arrange_51 : decode prog_2_method_7_code 51 = .ok (.aload 6, 2) := by decide +kernel
theorem d_Co_arrange_53 : decode prog_2_method_7_code 53 = .ok (.getfield 40, 3) := by decide +kernel
theorem d_Co_arrange_56 : decode prog_2_method_7_code 56 = .ok (.iload_n 2, 1) := by decide +kernel
theorem d_Co_arrange_57 : decode prog_2_method_7_code 57 = .ok (.if_icmp .ne 19, 3) := by decide +kernel
theorem d_Co_arrange_60 : decode prog_2_method_7_code 60 = .ok (.aload_n 0, 1) := by decide +kernel
theorem d_Co_arrange_61 : decode prog_2_method_7_code 61 = .ok (.aload_n 1, 1) := by decide +kernel
theorem d_Co_arrange_62 : decode prog_2_method_7_code 62 = .ok (.aload 6, 2) := by decide +kernel
theorem d_Co_arrange_64 : decode prog_2_method_7_code 64 = .ok (.getfield 43, 3) := by decide +kernel
theorem d_Co_arrange_67 : decode prog_2_method_7_code 67 = .ok (.iload 5, 2) := by decide +kernel
theorem d_Co_arrange_69 : decode prog_2_method_7_code 69 = .ok (.iload_n 3, 1) := by decide +kernel
theorem d_Co_arrange_70 : decode prog_2_method_7_code 70 = .ok (.invokevirtual 76, 3) := by decide +kernel
theorem d_Co_arrange_73 : decode prog_2_method_7_code 73 = .ok (.iinc 3 1, 3) := by decide +kernel
theorem d_Co_arrange_76 : decode prog_2_method_7_code 76 = .ok (.iinc 4 1, 3) := by decide +kernel
theorem d_Co_arrange_79 : decode prog_2_method_7_code 79 = .ok (.goto (-74), 3) := by decide +kernel
theorem d_Co_arrange_82 : decode prog_2_method_7_code 82 = .ok (.iload_n 3, 1) := by decide +kernel
theorem d_Co_arrange_83 : decode prog_2_method_7_code 83 = .ok (.ireturn, 1) := by decide +kernel
theorem d_Co_placeBehind_0 : decode prog_2_method_8_code 0 = .ok (.iload 4, 2) := by decide +kernel
theorem d_Co_placeBehind_2 : decode prog_2_method_8_code 2 = .ok (.istore 5, 2) := by decide +kernel
theorem d_Co_placeBehind_4 : decode prog_2_method_8_code 4 = .ok (.iload 5, 2) := by decide +kernel
theorem d_Co_placeBehind_6 : decode prog_2_method_8_code 6 = .ok (.ifCond .le 50, 3) := by decide +kernel
theorem d_Co_placeBehind_9 : decode prog_2_method_8_code 9 = .ok (.iload_n 2, 1) := by decide +kernel
theorem d_Co_placeBehind_10 : decode prog_2_method_8_code 10 = .ok (.ifCond .eq 24, 3) := by decide +kernel
theorem d_Co_placeBehind_13 : decode prog_2_method_8_code 13 = .ok (.aload_n 1, 1) := by decide +kernel
theorem d_Co_placeBehind_14 : decode prog_2_method_8_code 14 = .ok (.getfield 31, 3) := by decide +kernel
theorem d_Co_placeBehind_17 : decode prog_2_method_8_code 17 = .ok (.aload_n 0, 1) := by decide +kernel
theorem d_Co_placeBehind_18 : decode prog_2_method_8_code 18 = .ok (.getfield 9, 3) := by decide +kernel
theorem d_Co_placeBehind_21 : decode prog_2_method_8_code 21 = .ok (.iload 5, 2) := by decide +kernel
theorem d_Co_placeBehind_23 : decode prog_2_method_8_code 23 = .ok (.iconst 1, 1) := by decide +kernel
theorem d_Co_placeBehind_24 : decode prog_2_method_8_code 24 = .ok (.isub, 1) := by decide +kernel
theorem d_Co_placeBehind_25 : decode prog_2_method_8_code 25 = .ok (.iaload, 1) := by decide +kernel
theorem d_Co_placeBehind_26 : decode prog_2_method_8_code 26 = .ok (.aaload, 1) := by decide +kernel
theorem d_Co_placeBehind_27 : decode prog_2_method_8_code 27 = .ok (.getfield 35, 3) := by decide +kernel
theorem d_Co_placeBehind_30 : decode prog_2_method_8_code 30 = .ok (.iload_n 2, 1) := by decide +kernel
theorem d_Co_placeBehind_31 : decode prog_2_method_8_code 31 = .ok (.if_icmp .eq 25, 3) := by decide +kernel
theorem d_Co_placeBehind_34 : decode prog_2_method_8_code 34 = .ok (.aload_n 0, 1) := by decide +kernel
theorem d_Co_placeBehind_35 : decode prog_2_method_8_code 35 = .ok (.getfield 9, 3) := by decide +kernel
theorem d_Co_placeBehind_38 : decode prog_2_method_8_code 38 = .ok (.iload 5, 2) := by decide +kernel
theorem d_Co_placeBehind_40 : decode prog_2_method_8_code 40 = .ok (.aload_n 0, 1) := by decide +kernel
theorem d_Co_placeBehind_41 : decode prog_2_method_8_code 41 = .ok (.getfield 9, 3) := by decide +kernel
theorem d_Co_placeBehind_44 : decode prog_2_method_8_code 44 = .ok (.iload 5, 2) := by decide +kernel
theorem d_Co_placeBehind_46 : decode prog_2_method_8_code 46 = .ok (.iconst 1, 1) := by decide +kernel
theorem d_Co_placeBehind_47 : decode prog_2_method_8_code 47 = .ok (.isub, 1) := by decide +kernel
theorem d_Co_placeBehind_48 : decode prog_2_method_8_code 48 = .ok (.iaload, 1) := by decide +kernel
theorem d_Co_placeBehind_49 : decode prog_2_method_8_code 49 = .ok (.iastore, 1) := by decide +kernel
theorem d_Co_placeBehind_50 : decode prog_2_method_8_code 50 = .ok (.iinc 5 (-1), 3) := by decide +kernel
theorem d_Co_placeBehind_53 : decode prog_2_method_8_code 53 = .ok (.goto (-49), 3) := by decide +kernel
theorem d_Co_placeBehind_56 : decode prog_2_method_8_code 56 = .ok (.aload_n 0, 1) := by decide +kernel
theorem d_Co_placeBehind_57 : decode prog_2_method_8_code 57 = .ok (.getfield 9, 3) := by decide +kernel
theorem d_Co_placeBehind_60 : decode prog_2_method_8_code 60 = .ok (.iload 5, 2) := by decide +kernel
theorem d_Co_placeBehind_62 : decode prog_2_method_8_code 62 = .ok (.iload_n 3, 1) := by decide +kernel
theorem d_Co_placeBehind_63 : decode prog_2_method_8_code 63 = .ok (.iastore, 1) := by decide +kernel
theorem d_Co_placeBehind_64 : decode prog_2_method_8_code 64 = .ok (.return_, 1) := by decide +kernel
theorem d_Co_isGone_0 : decode prog_2_method_9_code 0 = .ok (.aload_n 1, 1) := by decide +kernel
theorem d_Co_isGone_1 : decode prog_2_method_9_code 1 = .ok (.getfield 31, 3) := by decide +kernel
theorem d_Co_isGone_4 : decode prog_2_method_9_code 4 = .ok (.iload_n 2, 1) := by decide +kernel
theorem d_Co_isGone_5 : decode prog_2_method_9_code 5 = .ok (.aaload, 1) := by decide +kernel
theorem d_Co_isGone_6 : decode prog_2_method_9_code 6 = .ok (.getfield 35, 3) := by decide +kernel
theorem d_Co_isGone_9 : decode prog_2_method_9_code 9 = .ok (.istore_n 3, 1) := by decide +kernel
theorem d_Co_isGone_10 : decode prog_2_method_9_code 10 = .ok (.iconst 0, 1) := by decide +kernel
theorem d_Co_isGone_11 : decode prog_2_method_9_code 11 = .ok (.istore 4, 2) := by decide +kernel
theorem d_Co_isGone_13 : decode prog_2_method_9_code 13 = .ok (.iload 4, 2) := by decide +kernel
theorem d_Co_isGone_15 : decode prog_2_method_9_code 15 = .ok (.aload_n 1, 1) := by decide +kernel
theorem d_Co_isGone_16 : decode prog_2_method_9_code 16 = .ok (.getfield 18, 3) := by decide +kernel
theorem d_Co_isGone_19 : decode prog_2_method_9_code 19 = .ok (.if_icmp .ge 48, 3) := by decide +kernel
theorem d_Co_isGone_22 : decode prog_2_method_9_code 22 = .ok (.aload_n 1, 1) := by decide +kernel
theorem d_Co_isGone_23 : decode prog_2_method_9_code 23 = .ok (.getfield 31, 3) := by decide +kernel
theorem d_Co_isGone_26 : decode prog_2_method_9_code 26 = .ok (.iload 4, 2) := by decide +kernel
theorem d_Co_isGone_28 : decode prog_2_method_9_code 28 = .ok (.aaload, 1) := by decide +kernel
theorem d_Co_isGone_29 : decode prog_2_method_9_code 29 = .ok (.astore 5, 2) := by decide +kernel
theorem d_Co_isGone_31 : decode prog_2_method_9_code 31 = .ok (.aload_n 1, 1) := by decide +kernel
theorem d_Co_isGone_32 : decode prog_2_method_9_code 32 = .ok (.getfield 50, 3) := by decide +kernel
theorem d_Co_isGone_35 : decode prog_2_method_9_code 35 = .ok (.iload 4, 2) := by decide +kernel
theorem d_Co_isGone_37 : decode prog_2_method_9_code 37 = .ok (.baload, 1) := by decide +kernel
theorem d_Co_isGone_38 : decode prog_2_method_9_code 38 = .ok (.ifCond .eq 23, 3) := by decide +kernel
theorem d_Co_isGone_41 : decode prog_2_method_9_code 41 = .ok (.aload 5, 2) := by decide +kernel
theorem d_Co_isGone_43 : decode prog_2_method_9_code 43 = .ok (.getfield 58, 3) := by decide +kernel
theorem d_Co_isGone_46 : decode prog_2_method_9_code 46 = .ok (.iconst 4, 1) := by decide +kernel
theorem d_Co_isGone_47 : decode prog_2_method_9_code 47 = .ok (.if_icmp .ne 14, 3) := by decide +kernel
theorem d_Co_isGone_50 : decode prog_2_method_9_code 50 = .ok (.aload 5, 2) := by decide +kernel
theorem d_Co_isGone_52 : decode prog_2_method_9_code 52 = .ok (.getfield 40, 3) := by decide +kernel
theorem d_Co_isGone_55 : decode prog_2_method_9_code 55 = .ok (.iload_n 3, 1) := by decide +kernel
theorem d_Co_isGone_56 : decode prog_2_method_9_code 56 = .ok (.if_icmp .ne 5, 3) := by decide +kernel
theorem d_Co_isGone_59 : decode prog_2_method_9_code 59 = .ok (.iconst 1, 1) := by decide +kernel
theorem d_Co_isGone_60 : decode prog_2_method_9_code 60 = .ok (.ireturn, 1) := by decide +kernel
theorem d_Co_isGone_61 : decode prog_2_method_9_code 61 = .ok (.iinc 4 1, 3) := by decide +kernel
theorem d_Co_isGone_64 : decode prog_2_method_9_code 64 = .ok (.goto (-51), 3) := by decide +kernel
theorem d_Co_isGone_67 : decode prog_2_method_9_code 67 = .ok (.iconst 0, 1) := by decide +kernel
theorem d_Co_isGone_68 : decode prog_2_method_9_code 68 = .ok (.ireturn, 1) := by decide +kernel
theorem d_Co_countLevels_0 : decode prog_2_method_10_code 0 = .ok (.iload_n 2, 1) := by decide +kernel
theorem d_Co_countLevels_1 : decode prog_2_method_10_code 1 = .ok (.istore_n 3, 1) := by decide +kernel
theorem d_Co_countLevels_2 : decode prog_2_method_10_code 2 = .ok (.iconst 0, 1) := by decide +kernel
theorem d_Co_countLevels_3 : decode prog_2_method_10_code 3 = .ok (.istore 4, 2) := by decide +kernel
theorem d_Co_countLevels_5 : decode prog_2_method_10_code 5 = .ok (.iload 4, 2) := by decide +kernel
theorem d_Co_countLevels_7 : decode prog_2_method_10_code 7 = .ok (.bipush 16, 2) := by decide +kernel
theorem d_Co_countLevels_9 : decode prog_2_method_10_code 9 = .ok (.if_icmp .gt 56, 3) := by decide +kernel
theorem d_Co_countLevels_12 : decode prog_2_method_10_code 12 = .ok (.iload_n 3, 1) := by decide +kernel
theorem d_Co_countLevels_13 : decode prog_2_method_10_code 13 = .ok (.ifCond .ne 6, 3) := by decide +kernel
theorem d_Co_countLevels_16 : decode prog_2_method_10_code 16 = .ok (.iload 4, 2) := by decide +kernel
theorem d_Co_countLevels_18 : decode prog_2_method_10_code 18 = .ok (.ireturn, 1) := by decide +kernel
theorem d_Co_countLevels_19 : decode prog_2_method_10_code 19 = .ok (.aload_n 1, 1) := by decide +kernel
theorem d_Co_countLevels_20 : decode prog_2_method_10_code 20 = .ok (.iload_n 3, 1) := by decide +kernel
theorem d_Co_countLevels_21 : decode prog_2_method_10_code 21 = .ok (.aload_n 1, 1) := by decide +kernel
theorem d_Co_countLevels_22 : decode prog_2_method_10_code 22 = .ok (.getfield 18, 3) := by decide +kernel
theorem d_Co_countLevels_25 : decode prog_2_method_10_code 25 = .ok (.invokevirtual 80, 3) := by decide +kernel
theorem d_Co_countLevels_28 : decode prog_2_method_10_code 28 = .ok (.istore 5, 2) := by decide +kernel
theorem d_Co_countLevels_30 : decode prog_2_method_10_code 30 = .ok (.iload 5, 2) := by decide +kernel
theorem d_Co_countLevels_32 : decode prog_2_method_10_code 32 = .ok (.iconst (-1), 1) := by decide +kernel
theorem d_Co_countLevels_33 : decode prog_2_method_10_code 33 = .ok (.if_icmp .eq 13, 3) := by decide +kernel
theorem d_Co_countLevels_36 : decode prog_2_method_10_code 36 = .ok (.aload_n 0, 1) := by decide +kernel
theorem d_Co_countLevels_37 : decode prog_2_method_10_code 37 = .ok (.aload_n 1, 1) := by decide +kernel
theorem d_Co_countLevels_38 : decode prog_2_method_10_code 38 = .ok (.iload 5, 2) := by decide +kernel
theorem d_Co_countLevels_40 : decode prog_2_method_10_code 40 = .ok (.invokevirtual 84, 3) := by decide +kernel
theorem d_Co_countLevels_43 : decode prog_2_method_10_code 43 = .ok (.ifCond .ne 5, 3) := by decide +kernel
theorem d_Co_countLevels_46 : decode prog_2_method_10_code 46 = .ok (.iconst (-1), 1) := by decide +kernel
theorem d_Co_countLevels_47 : decode prog_2_method_10_code 47 = .ok (.ireturn, 1) := by decide +kernel
theorem d_Co_countLevels_48 : decode prog_2_method_10_code 48 = .ok (.aload_n 1, 1) := by decide +kernel
theorem d_Co_countLevels_49 : decode prog_2_method_10_code 49 = .ok (.getfield 31, 3) := by decide +kernel
theorem d_Co_countLevels_52 : decode prog_2_method_10_code 52 = .ok (.iload 5, 2) := by decide +kernel
theorem d_Co_countLevels_54 : decode prog_2_method_10_code 54 = .ok (.aaload, 1) := by decide +kernel
theorem d_Co_countLevels_55 : decode prog_2_method_10_code 55 = .ok (.getfield 40, 3) := by decide +kernel
theorem d_Co_countLevels_58 : decode prog_2_method_10_code 58 = .ok (.istore_n 3, 1) := by decide +kernel
theorem d_Co_countLevels_59 : decode prog_2_method_10_code 59 = .ok (.iinc 4 1, 3) := by decide +kernel
theorem d_Co_countLevels_62 : decode prog_2_method_10_code 62 = .ok (.goto (-57), 3) := by decide +kernel
theorem d_Co_countLevels_65 : decode prog_2_method_10_code 65 = .ok (.iconst (-1), 1) := by decide +kernel
theorem d_Co_countLevels_66 : decode prog_2_method_10_code 66 = .ok (.ireturn, 1) := by decide +kernel
theorem d_Co_isShown_0 : decode prog_2_method_11_code 0 = .ok (.aload_n 1, 1) := by decide +kernel
theorem d_Co_isShown_1 : decode prog_2_method_11_code 1 = .ok (.getfield 31, 3) := by decide +kernel
theorem d_Co_isShown_4 : decode prog_2_method_11_code 4 = .ok (.iload_n 2, 1) := by decide +kernel
theorem d_Co_isShown_5 : decode prog_2_method_11_code 5 = .ok (.aaload, 1) := by decide +kernel
theorem d_Co_isShown_6 : decode prog_2_method_11_code 6 = .ok (.getfield 58, 3) := by decide +kernel
theorem d_Co_isShown_9 : decode prog_2_method_11_code 9 = .ok (.iconst 3, 1) := by decide +kernel
theorem d_Co_isShown_10 : decode prog_2_method_11_code 10 = .ok (.if_icmp .ne 27, 3) := by decide +kernel
theorem d_Co_isShown_13 : decode prog_2_method_11_code 13 = .ok (.aload_n 1, 1) := by decide +kernel
theorem d_Co_isShown_14 : decode prog_2_method_11_code 14 = .ok (.getfield 50, 3) := by decide +kernel
theorem d_Co_isShown_17 : decode prog_2_method_11_code 17 = .ok (.iload_n 2, 1) := by decide +kernel
theorem d_Co_isShown_18 : decode prog_2_method_11_code 18 = .ok (.baload, 1) := by decide +kernel
theorem d_Co_isShown_19 : decode prog_2_method_11_code 19 = .ok (.ifCond .eq 16, 3) := by decide +kernel
theorem d_Co_isShown_22 : decode prog_2_method_11_code 22 = .ok (.aload_n 0, 1) := by decide +kernel
theorem d_Co_isShown_23 : decode prog_2_method_11_code 23 = .ok (.aload_n 1, 1) := by decide +kernel
theorem d_Co_isShown_24 : decode prog_2_method_11_code 24 = .ok (.iload_n 2, 1) := by decide +kernel
theorem d_Co_isShown_25 : decode prog_2_method_11_code 25 = .ok (.invokevirtual 73, 3) := by decide +kernel
theorem d_Co_isShown_28 : decode prog_2_method_11_code 28 = .ok (.ifCond .ne 7, 3) := by decide +kernel
theorem d_Co_isShown_31 : decode prog_2_method_11_code 31 = .ok (.iconst 1, 1) := by decide +kernel
theorem d_Co_isShown_32 : decode prog_2_method_11_code 32 = .ok (.goto 4, 3) := by decide +kernel
theorem d_Co_isShown_35 : decode prog_2_method_11_code 35 = .ok (.iconst 0, 1) := by decide +kernel
theorem d_Co_isShown_36 : decode prog_2_method_11_code 36 = .ok (.ireturn, 1) := by decide +kernel
theorem d_Co_isShown_37 : decode prog_2_method_11_code 37 = .ok (.aload_n 0, 1) := by decide +kernel
theorem d_Co_isShown_38 : decode prog_2_method_11_code 38 = .ok (.aload_n 1, 1) := by decide +kernel
theorem d_Co_isShown_39 : decode prog_2_method_11_code 39 = .ok (.iload_n 2, 1) := by decide +kernel
theorem d_Co_isShown_40 : decode prog_2_method_11_code 40 = .ok (.invokevirtual 46, 3) := by decide +kernel
theorem d_Co_isShown_43 : decode prog_2_method_11_code 43 = .ok (.ireturn, 1) := by decide +kernel
theorem d_Co_addUp_0 : decode prog_2_method_12_code 0 = .ok (.aload_n 1, 1) := by decide +kernel
theorem d_Co_addUp_1 : decode prog_2_method_12_code 1 = .ok (.getfield 18, 3) := by decide +kernel
theorem d_Co_addUp_4 : decode prog_2_method_12_code 4 = .ok (.iconst 1, 1) := by decide +kernel
theorem d_Co_addUp_5 : decode prog_2_method_12_code 5 = .ok (.isub, 1) := by decide +kernel
theorem d_Co_addUp_6 : decode prog_2_method_12_code 6 = .ok (.istore_n 2, 1) := by decide +kernel
theorem d_Co_addUp_7 : decode prog_2_method_12_code 7 = .ok (.iload_n 2, 1) := by decide +kernel
theorem d_Co_addUp_8 : decode prog_2_method_12_code 8 = .ok (.ifCond .lt 78, 3) := by decide +kernel
theorem d_Co_addUp_11 : decode prog_2_method_12_code 11 = .ok (.aload_n 1, 1) := by decide +kernel
theorem d_Co_addUp_12 : decode prog_2_method_12_code 12 = .ok (.getfield 31, 3) := by decide +kernel
theorem d_Co_addUp_15 : decode prog_2_method_12_code 15 = .ok (.iload_n 2, 1) := by decide +kernel
theorem d_Co_addUp_16 : decode prog_2_method_12_code 16 = .ok (.aaload, 1) := by decide +kernel
theorem d_Co_addUp_17 : decode prog_2_method_12_code 17 = .ok (.astore_n 3, 1) := by decide +kernel
theorem d_Co_addUp_18 : decode prog_2_method_12_code 18 = .ok (.aload_n 3, 1) := by decide +kernel
theorem d_Co_addUp_19 : decode prog_2_method_12_code 19 = .ok (.getfield 58, 3) := by decide +kernel
theorem d_Co_addUp_22 : decode prog_2_method_12_code 22 = .ok (.iconst 1, 1) := by decide +kernel
theorem d_Co_addUp_23 : decode prog_2_method_12_code 23 = .ok (.if_icmp .ne 21, 3) := by decide +kernel
theorem d_Co_addUp_26 : decode prog_2_method_12_code 26 = .ok (.aload_n 0, 1) := by decide +kernel
theorem d_Co_addUp_27 : decode prog_2_method_12_code 27 = .ok (.getfield 15, 3) := by decide +kernel
theorem d_Co_addUp_30 : decode prog_2_method_12_code 30 = .ok (.iload_n 2, 1) := by decide +kernel
theorem d_Co_addUp_31 : decode prog_2_method_12_code 31 = .ok (.aload_n 0, 1) := by decide +kernel
theorem d_Co_addUp_32 : decode prog_2_method_12_code 32 = .ok (.aload_n 1, 1) := by decide +kernel
theorem d_Co_addUp_33 : decode prog_2_method_12_code 33 = .ok (.aload_n 3, 1) := by decide +kernel
theorem d_Co_addUp_34 : decode prog_2_method_12_code 34 = .ok (.getfield 35, 3) := by decide +kernel
theorem d_Co_addUp_37 : decode prog_2_method_12_code 37 = .ok (.invokevirtual 87, 3) := by decide +kernel
theorem d_Co_addUp_40 : decode prog_2_method_12_code 40 = .ok (.iastore, 1) := by decide +kernel
theorem d_Co_addUp_41 : decode prog_2_method_12_code 41 = .ok (.goto 39, 3) := by decide +kernel
theorem d_Co_addUp_44 : decode prog_2_method_12_code 44 = .ok (.aload_n 3, 1) := by decide +kernel
theorem d_Co_addUp_45 : decode prog_2_method_12_code 45 = .ok (.getfield 58, 3) := by decide +kernel
theorem d_Co_addUp_48 : decode prog_2_method_12_code 48 = .ok (.iconst 2, 1) := by decide +kernel
theorem d_Co_addUp_49 : decode prog_2_method_12_code 49 = .ok (.if_icmp .ne 21, 3) := by decide +kernel
theorem d_Co_addUp_52 : decode prog_2_method_12_code 52 = .ok (.aload_n 0, 1) := by decide +kernel
theorem d_Co_addUp_53 : decode prog_2_method_12_code 53 = .ok (.getfield 15, 3) := by decide +kernel
theorem d_Co_addUp_56 : decode prog_2_method_12_code 56 = .ok (.iload_n 2, 1) := by decide +kernel
theorem d_Co_addUp_57 : decode prog_2_method_12_code 57 = .ok (.aload_n 0, 1) := by decide +kernel
theorem d_Co_addUp_58 : decode prog_2_method_12_code 58 = .ok (.aload_n 1, 1) := by decide +kernel
theorem d_Co_addUp_59 : decode prog_2_method_12_code 59 = .ok (.aload_n 3, 1) := by decide +kernel
theorem d_Co_addUp_60 : decode prog_2_method_12_code 60 = .ok (.getfield 35, 3) := by decide +kernel
theorem d_Co_addUp_63 : decode prog_2_method_12_code 63 = .ok (.invokevirtual 90, 3) := by decide +kernel
theorem d_Co_addUp_66 : decode prog_2_method_12_code 66 = .ok (.iastore, 1) := by decide +kernel
theorem d_Co_addUp_67 : decode prog_2_method_12_code 67 = .ok (.goto 13, 3) := by decide +kernel
theorem d_Co_addUp_70 : decode prog_2_method_12_code 70 = .ok (.aload_n 0, 1) := by decide +kernel
theorem d_Co_addUp_71 : decode prog_2_method_12_code 71 = .ok (.getfield 15, 3) := by decide +kernel
theorem d_Co_addUp_74 : decode prog_2_method_12_code 74 = .ok (.iload_n 2, 1) := by decide +kernel
theorem d_Co_addUp_75 : decode prog_2_method_12_code 75 = .ok (.aload_n 3, 1) := by decide +kernel
theorem d_Co_addUp_76 : decode prog_2_method_12_code 76 = .ok (.getfield 93, 3) := by decide +kernel
theorem d_Co_addUp_79 : decode prog_2_method_12_code 79 = .ok (.iastore, 1) := by decide +kernel
theorem d_Co_addUp_80 : decode prog_2_method_12_code 80 = .ok (.iinc 2 (-1), 3) := by decide +kernel
theorem d_Co_addUp_83 : decode prog_2_method_12_code 83 = .ok (.goto (-76), 3) := by decide +kernel
theorem d_Co_addUp_86 : decode prog_2_method_12_code 86 = .ok (.aload_n 0, 1) := by decide +kernel
theorem d_Co_addUp_87 : decode prog_2_method_12_code 87 = .ok (.aload_n 1, 1) := by decide +kernel
theorem d_Co_addUp_88 : decode prog_2_method_12_code 88 = .ok (.iconst 0, 1) := by decide +kernel
theorem d_Co_addUp_89 : decode prog_2_method_12_code 89 = .ok (.invokevirtual 87, 3) := by decide +kernel
theorem d_Co_addUp_92 : decode prog_2_method_12_code 92 = .ok (.ireturn, 1) := by decide +kernel
theorem d_Co_addUpMap_0 : decode prog_2_method_13_code 0 = .ok (.bipush 7, 2) := by decide +kernel
theorem d_Co_addUpMap_2 : decode prog_2_method_13_code 2 = .ok (.istore_n 3, 1) := by decide +kernel
theorem d_Co_addUpMap_3 : decode prog_2_method_13_code 3 = .ok (.iconst 0, 1) := by decide +kernel
theorem d_Co_addUpMap_4 : decode prog_2_method_13_code 4 = .ok (.istore 4, 2) := by decide +kernel
theorem d_Co_addUpMap_6 : decode prog_2_method_13_code 6 = .ok (.iload 4, 2) := by decide +kernel
theorem d_Co_addUpMap_8 : decode prog_2_method_13_code 8 = .ok (.iconst 4, 1) := by decide +kernel
theorem d_Co_addUpMap_9 : decode prog_2_method_13_code 9 = .ok (.if_icmp .ge 83, 3) := by decide +kernel
theorem d_Co_addUpMap_12 : decode prog_2_method_13_code 12 = .ok (.iconst 0, 1) := by decide +kernel
theorem d_Co_addUpMap_13 : decode prog_2_method_13_code 13 = .ok (.istore 5, 2) := by decide +kernel
theorem d_Co_addUpMap_15 : decode prog_2_method_13_code 15 = .ok (.iload 5, 2) := by decide +kernel
theorem d_Co_addUpMap_17 : decode prog_2_method_13_code 17 = .ok (.aload_n 1, 1) := by decide +kernel
theorem d_Co_addUpMap_18 : decode prog_2_method_13_code 18 = .ok (.getfield 18, 3) := by decide +kernel
theorem d_Co_addUpMap_21 : decode prog_2_method_13_code 21 = .ok (.if_icmp .ge 65, 3) := by decide +kernel
theorem d_Co_addUpMap_24 : decode prog_2_method_13_code 24 = .ok (.aload_n 1, 1) := by decide +kernel
theorem d_Co_addUpMap_25 : decode prog_2_method_13_code 25 = .ok (.getfield 24, 3) := by decide +kernel
theorem d_Co_addUpMap_28 : decode prog_2_method_13_code 28 = .ok (.iload 5, 2) := by decide +kernel
theorem d_Co_addUpMap_30 : decode prog_2_method_13_code 30 = .ok (.iaload, 1) := by decide +kernel
theorem d_Co_addUpMap_31 : decode prog_2_method_13_code 31 = .ok (.istore 6, 2) := by decide +kernel
theorem d_Co_addUpMap_33 : decode prog_2_method_13_code 33 = .ok (.aload_n 0, 1) := by decide +kernel
theorem d_Co_addUpMap_34 : decode prog_2_method_13_code 34 = .ok (.aload_n 1, 1) := by decide +kernel
theorem d_Co_addUpMap_35 : decode prog_2_method_13_code 35 = .ok (.iload_n 2, 1) := by decide +kernel
theorem d_Co_addUpMap_36 : decode prog_2_method_13_code 36 = .ok (.iload 4, 2) := by decide +kernel
theorem d_Co_addUpMap_38 : decode prog_2_method_13_code 38 = .ok (.iload 6, 2) := by decide +kernel
theorem d_Co_addUpMap_40 : decode prog_2_method_13_code 40 = .ok (.invokevirtual 27, 3) := by decide +kernel
theorem d_Co_addUpMap_43 : decode prog_2_method_13_code 43 = .ok (.ifCond .eq 37, 3) := by decide +kernel
theorem d_Co_addUpMap_46 : decode prog_2_method_13_code 46 = .ok (.bipush 31, 2) := by decide +kernel
theorem d_Co_addUpMap_48 : decode prog_2_method_13_code 48 = .ok (.iload_n 3, 1) := by decide +kernel
theorem d_Co_addUpMap_49 : decode prog_2_method_13_code 49 = .ok (.imul, 1) := by decide +kernel
theorem d_Co_addUpMap_50 : decode prog_2_method_13_code 50 = .ok (.iconst 4, 1) := by decide +kernel
theorem d_Co_addUpMap_51 : decode prog_2_method_13_code 51 = .ok (.aload_n 1, 1) := by decide +kernel
theorem d_Co_addUpMap_52 : decode prog_2_method_13_code 52 = .ok (.getfield 31, 3) := by decide +kernel
theorem d_Co_addUpMap_55 : decode prog_2_method_13_code 55 = .ok (.iload 6, 2) := by decide +kernel
theorem d_Co_addUpMap_57 : decode prog_2_method_13_code 57 = .ok (.aaload, 1) := by decide +kernel
theorem d_Co_addUpMap_58 : decode prog_2_method_13_code 58 = .ok (.getfield 35, 3) := by decide +kernel
theorem d_Co_addUpMap_61 : decode prog_2_method_13_code 61 = .ok (.imul, 1) := by decide +kernel
theorem d_Co_addUpMap_62 : decode prog_2_method_13_code 62 = .ok (.iadd, 1) := by decide +kernel
theorem d_Co_addUpMap_63 : decode prog_2_method_13_code 63 = .ok (.iload 4, 2) := by decide +kernel
