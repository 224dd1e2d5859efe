/-! decode rows -/
theorem d_Re_init_0 : decode prog_4_method_1_code 0 = .ok (.aload_n 0, 1) := by decide +kernel
theorem d_Re_init_1 : decode prog_4_method_1_code 1 = .ok (.invokespecial 3, 3) := by decide +kernel
theorem d_Re_init_4 : decode prog_4_method_1_code 4 = .ok (.aload_n 0, 1) := by decide +kernel
theorem d_Re_init_5 : decode prog_4_method_1_code 5 = .ok (.iload_n 1, 1) := by decide +kernel
theorem d_Re_init_6 : decode prog_4_method_1_code 6 = .ok (.putfield 9, 3) := by decide +kernel
theorem d_Re_init_9 : decode prog_4_method_1_code 9 = .ok (.aload_n 0, 1) := by decide +kernel
theorem d_Re_init_10 : decode prog_4_method_1_code 10 = .ok (.bipush 16, 2) := by decide +kernel
theorem d_Re_init_12 : decode prog_4_method_1_code 12 = .ok (.anewarray 15, 3) := by decide +kernel
theorem d_Re_init_15 : decode prog_4_method_1_code 15 = .ok (.putfield 17, 3) := by decide +kernel
theorem d_Re_init_18 : decode prog_4_method_1_code 18 = .ok (.iconst 0, 1) := by decide +kernel
theorem d_Re_init_19 : decode prog_4_method_1_code 19 = .ok (.istore_n 2, 1) := by decide +kernel
theorem d_Re_init_20 : decode prog_4_method_1_code 20 = .ok (.iload_n 2, 1) := by decide +kernel
theorem d_Re_init_21 : decode prog_4_method_1_code 21 = .ok (.bipush 16, 2) := by decide +kernel
theorem d_Re_init_23 : decode prog_4_method_1_code 23 = .ok (.if_icmp .ge 22, 3) := by decide +kernel
theorem d_Re_init_26 : decode prog_4_method_1_code 26 = .ok (.aload_n 0, 1) := by decide +kernel
theorem d_Re_init_27 : decode prog_4_method_1_code 27 = .ok (.getfield 17, 3) := by decide +kernel
theorem d_Re_init_30 : decode prog_4_method_1_code 30 = .ok (.iload_n 2, 1) := by decide +kernel
theorem d_Re_init_31 : decode prog_4_method_1_code 31 = .ok (.new 15, 3) := by decide +kernel
theorem d_Re_init_34 : decode prog_4_method_1_code 34 = .ok (.dup, 1) := by decide +kernel
theorem d_Re_init_35 : decode prog_4_method_1_code 35 = .ok (.invokespecial 21, 3) := by decide +kernel
theorem d_Re_init_38 : decode prog_4_method_1_code 38 = .ok (.aastore, 1) := by decide +kernel
theorem d_Re_init_39 : decode prog_4_method_1_code 39 = .ok (.iinc 2 1, 3) := by decide +kernel
theorem d_Re_init_42 : decode prog_4_method_1_code 42 = .ok (.goto (-22), 3) := by decide +kernel
theorem d_Re_init_45 : decode prog_4_method_1_code 45 = .ok (.aload_n 0, 1) := by decide +kernel
theorem d_Re_init_46 : decode prog_4_method_1_code 46 = .ok (.bipush 16, 2) := by decide +kernel
theorem d_Re_init_48 : decode prog_4_method_1_code 48 = .ok (.newarray .int, 2) := by decide +kernel
theorem d_Re_init_50 : decode prog_4_method_1_code 50 = .ok (.putfield 22, 3) := by decide +kernel
theorem d_Re_init_53 : decode prog_4_method_1_code 53 = .ok (.aload_n 0, 1) := by decide +kernel
theorem d_Re_init_54 : decode prog_4_method_1_code 54 = .ok (.bipush 16, 2) := by decide +kernel
theorem d_Re_init_56 : decode prog_4_method_1_code 56 = .ok (.newarray .boolean, 2) := by decide +kernel
theorem d_Re_init_58 : decode prog_4_method_1_code 58 = .ok (.putfield 26, 3) := by decide +kernel
theorem d_Re_init_61 : decode prog_4_method_1_code 61 = .ok (.aload_n 0, 1) := by decide +kernel
theorem d_Re_init_62 : decode prog_4_method_1_code 62 = .ok (.bipush 16, 2) := by decide +kernel
theorem d_Re_init_64 : decode prog_4_method_1_code 64 = .ok (.newarray .int, 2) := by decide +kernel
theorem d_Re_init_66 : decode prog_4_method_1_code 66 = .ok (.putfield 30, 3) := by decide +kernel
theorem d_Re_init_69 : decode prog_4_method_1_code 69 = .ok (.return_, 1) := by decide +kernel
theorem d_Re_find_0 : decode prog_4_method_2_code 0 = .ok (.iconst 0, 1) := by decide +kernel
theorem d_Re_find_1 : decode prog_4_method_2_code 1 = .ok (.istore_n 3, 1) := by decide +kernel
theorem d_Re_find_2 : decode prog_4_method_2_code 2 = .ok (.iload_n 3, 1) := by decide +kernel
theorem d_Re_find_3 : decode prog_4_method_2_code 3 = .ok (.iload_n 2, 1) := by decide +kernel
theorem d_Re_find_4 : decode prog_4_method_2_code 4 = .ok (.if_icmp .ge 24, 3) := by decide +kernel
theorem d_Re_find_7 : decode prog_4_method_2_code 7 = .ok (.aload_n 0, 1) := by decide +kernel
theorem d_Re_find_8 : decode prog_4_method_2_code 8 = .ok (.getfield 17, 3) := by decide +kernel
theorem d_Re_find_11 : decode prog_4_method_2_code 11 = .ok (.iload_n 3, 1) := by decide +kernel
theorem d_Re_find_12 : decode prog_4_method_2_code 12 = .ok (.aaload, 1) := by decide +kernel
theorem d_Re_find_13 : decode prog_4_method_2_code 13 = .ok (.getfield 33, 3) := by decide +kernel
theorem d_Re_find_16 : decode prog_4_method_2_code 16 = .ok (.iload_n 1, 1) := by decide +kernel
theorem d_Re_find_17 : decode prog_4_method_2_code 17 = .ok (.if_icmp .ne 5, 3) := by decide +kernel
theorem d_Re_find_20 : decode prog_4_method_2_code 20 = .ok (.iload_n 3, 1) := by decide +kernel
theorem d_Re_find_21 : decode prog_4_method_2_code 21 = .ok (.ireturn, 1) := by decide +kernel
theorem d_Re_find_22 : decode prog_4_method_2_code 22 = .ok (.iinc 3 1, 3) := by decide +kernel
theorem d_Re_find_25 : decode prog_4_method_2_code 25 = .ok (.goto (-23), 3) := by decide +kernel
theorem d_Re_find_28 : decode prog_4_method_2_code 28 = .ok (.iconst (-1), 1) := by decide +kernel
theorem d_Re_find_29 : decode prog_4_method_2_code 29 = .ok (.ireturn, 1) := by decide +kernel
theorem d_Re_isMap_0 : decode prog_4_method_3_code 0 = .ok (.aload_n 0, 1) := by decide +kernel
theorem d_Re_isMap_1 : decode prog_4_method_3_code 1 = .ok (.iload_n 1, 1) := by decide +kernel
theorem d_Re_isMap_2 : decode prog_4_method_3_code 2 = .ok (.aload_n 0, 1) := by decide +kernel
theorem d_Re_isMap_3 : decode prog_4_method_3_code 3 = .ok (.getfield 36, 3) := by decide +kernel
theorem d_Re_isMap_6 : decode prog_4_method_3_code 6 = .ok (.invokevirtual 39, 3) := by decide +kernel
theorem d_Re_isMap_9 : decode prog_4_method_3_code 9 = .ok (.istore_n 2, 1) := by decide +kernel
theorem d_Re_isMap_10 : decode prog_4_method_3_code 10 = .ok (.iload_n 1, 1) := by decide +kernel
theorem d_Re_isMap_11 : decode prog_4_method_3_code 11 = .ok (.ifCond .eq 21, 3) := by decide +kernel
theorem d_Re_isMap_14 : decode prog_4_method_3_code 14 = .ok (.iload_n 2, 1) := by decide +kernel
theorem d_Re_isMap_15 : decode prog_4_method_3_code 15 = .ok (.iconst (-1), 1) := by decide +kernel
theorem d_Re_isMap_16 : decode prog_4_method_3_code 16 = .ok (.if_icmp .eq 20, 3) := by decide +kernel
theorem d_Re_isMap_19 : decode prog_4_method_3_code 19 = .ok (.aload_n 0, 1) := by decide +kernel
theorem d_Re_isMap_20 : decode prog_4_method_3_code 20 = .ok (.getfield 17, 3) := by decide +kernel
theorem d_Re_isMap_23 : decode prog_4_method_3_code 23 = .ok (.iload_n 2, 1) := by decide +kernel
theorem d_Re_isMap_24 : decode prog_4_method_3_code 24 = .ok (.aaload, 1) := by decide +kernel
theorem d_Re_isMap_25 : decode prog_4_method_3_code 25 = .ok (.getfield 43, 3) := by decide +kernel
theorem d_Re_isMap_28 : decode prog_4_method_3_code 28 = .ok (.iconst 1, 1) := by decide +kernel
theorem d_Re_isMap_29 : decode prog_4_method_3_code 29 = .ok (.if_icmp .ne 7, 3) := by decide +kernel
theorem d_Re_isMap_32 : decode prog_4_method_3_code 32 = .ok (.iconst 1, 1) := by decide +kernel
theorem d_Re_isMap_33 : decode prog_4_method_3_code 33 = .ok (.goto 4, 3) := by decide +kernel
theorem d_Re_isMap_36 : decode prog_4_method_3_code 36 = .ok (.iconst 0, 1) := by decide +kernel
theorem d_Re_isMap_37 : decode prog_4_method_3_code 37 = .ok (.ireturn, 1) := by decide +kernel
theorem d_Re_isList_0 : decode prog_4_method_4_code 0 = .ok (.aload_n 0, 1) := by decide +kernel
theorem d_Re_isList_1 : decode prog_4_method_4_code 1 = .ok (.iload_n 1, 1) := by decide +kernel
theorem d_Re_isList_2 : decode prog_4_method_4_code 2 = .ok (.aload_n 0, 1) := by decide +kernel
theorem d_Re_isList_3 : decode prog_4_method_4_code 3 = .ok (.getfield 36, 3) := by decide +kernel
theorem d_Re_isList_6 : decode prog_4_method_4_code 6 = .ok (.invokevirtual 39, 3) := by decide +kernel
theorem d_Re_isList_9 : decode prog_4_method_4_code 9 = .ok (.istore_n 2, 1) := by decide +kernel
theorem d_Re_isList_10 : decode prog_4_method_4_code 10 = .ok (.iload_n 2, 1) := by decide +kernel
theorem d_Re_isList_11 : decode prog_4_method_4_code 11 = .ok (.iconst (-1), 1) := by decide +kernel
theorem d_Re_isList_12 : decode prog_4_method_4_code 12 = .ok (.if_icmp .eq 20, 3) := by decide +kernel
theorem d_Re_isList_15 : decode prog_4_method_4_code 15 = .ok (.aload_n 0, 1) := by decide +kernel
theorem d_Re_isList_16 : decode prog_4_method_4_code 16 = .ok (.getfield 17, 3) := by decide +kernel
theorem d_Re_isList_19 : decode prog_4_method_4_code 19 = .ok (.iload_n 2, 1) := by decide +kernel
theorem d_Re_isList_20 : decode prog_4_method_4_code 20 = .ok (.aaload, 1) := by decide +kernel
theorem d_Re_isList_21 : decode prog_4_method_4_code 21 = .ok (.getfield 43, 3) := by decide +kernel
theorem d_Re_isList_24 : decode prog_4_method_4_code 24 = .ok (.iconst 2, 1) := by decide +kernel
theorem d_Re_isList_25 : decode prog_4_method_4_code 25 = .ok (.if_icmp .ne 7, 3) := by decide +kernel
theorem d_Re_isList_28 : decode prog_4_method_4_code 28 = .ok (.iconst 1, 1) := by decide +kernel
theorem d_Re_isList_29 : decode prog_4_method_4_code 29 = .ok (.goto 4, 3) := by decide +kernel
theorem d_Re_isList_32 : decode prog_4_method_4_code 32 = .ok (.iconst 0, 1) := by decide +kernel
theorem d_Re_isList_33 : decode prog_4_method_4_code 33 = .ok (.ireturn, 1) := by decide +kernel
theorem d_Re_findInsert_0 : decode prog_4_method_5_code 0 = .ok (.aload_n 0, 1) := by decide +kernel
theorem d_Re_findInsert_1 : decode prog_4_method_5_code 1 = .ok (.iload_n 1, 1) := by decide +kernel
theorem d_Re_findInsert_2 : decode prog_4_method_5_code 2 = .ok (.aload_n 0, 1) := by decide +kernel
theorem d_Re_findInsert_3 : decode prog_4_method_5_code 3 = .ok (.getfield 36, 3) := by decide +kernel
theorem d_Re_findInsert_6 : decode prog_4_method_5_code 6 = .ok (.invokevirtual 39, 3) := by decide +kernel
theorem d_Re_findInsert_9 : decode prog_4_method_5_code 9 = .ok (.istore_n 2, 1) := by decide +kernel
theorem d_Re_findInsert_10 : decode prog_4_method_5_code 10 = .ok (.iload_n 2, 1) := by decide +kernel
theorem d_Re_findInsert_11 : decode prog_4_method_5_code 11 = .ok (.iconst (-1), 1) := by decide +kernel
theorem d_Re_findInsert_12 : decode prog_4_method_5_code 12 = .ok (.if_icmp .eq 29, 3) := by decide +kernel
theorem d_Re_findInsert_15 : decode prog_4_method_5_code 15 = .ok (.aload_n 0, 1) := by decide +kernel
theorem d_Re_findInsert_16 : decode prog_4_method_5_code 16 = .ok (.getfield 26, 3) := by decide +kernel
theorem d_Re_findInsert_19 : decode prog_4_method_5_code 19 = .ok (.iload_n 2, 1) := by decide +kernel
theorem d_Re_findInsert_20 : decode prog_4_method_5_code 20 = .ok (.baload, 1) := by decide +kernel
theorem d_Re_findInsert_21 : decode prog_4_method_5_code 21 = .ok (.ifCond .eq 20, 3) := by decide +kernel
theorem d_Re_findInsert_24 : decode prog_4_method_5_code 24 = .ok (.aload_n 0, 1) := by decide +kernel
theorem d_Re_findInsert_25 : decode prog_4_method_5_code 25 = .ok (.getfield 17, 3) := by decide +kernel
theorem d_Re_findInsert_28 : decode prog_4_method_5_code 28 = .ok (.iload_n 2, 1) := by decide +kernel
theorem d_Re_findInsert_29 : decode prog_4_method_5_code 29 = .ok (.aaload, 1) := by decide +kernel
theorem d_Re_findInsert_30 : decode prog_4_method_5_code 30 = .ok (.getfield 43, 3) := by decide +kernel
theorem d_Re_findInsert_33 : decode prog_4_method_5_code 33 = .ok (.iconst 3, 1) := by decide +kernel
theorem d_Re_findInsert_34 : decode prog_4_method_5_code 34 = .ok (.if_icmp .ne 7, 3) := by decide +kernel
theorem d_Re_findInsert_37 : decode prog_4_method_5_code 37 = .ok (.iload_n 2, 1) := by decide +kernel
theorem d_Re_findInsert_38 : decode prog_4_method_5_code 38 = .ok (.goto 4, 3) := by decide +kernel
theorem d_Re_findInsert_41 : decode prog_4_method_5_code 41 = .ok (.iconst (-1), 1) := by decide +kernel
theorem d_Re_findInsert_42 : decode prog_4_method_5_code 42 = .ok (.ireturn, 1) := by decide +kernel
theorem d_Re_hasPlaceFor_0 : decode prog_4_method_6_code 0 = .ok (.aload_n 1, 1) := by decide +kernel
theorem d_Re_hasPlaceFor_1 : decode prog_4_method_6_code 1 = .ok (.getfield 43, 3) := by decide +kernel
theorem d_Re_hasPlaceFor_4 : decode prog_4_method_6_code 4 = .ok (.iconst 3, 1) := by decide +kernel
theorem d_Re_hasPlaceFor_5 : decode prog_4_method_6_code 5 = .ok (.if_icmp .ne 67, 3) := by decide +kernel
theorem d_Re_hasPlaceFor_8 : decode prog_4_method_6_code 8 = .ok (.aload_n 0, 1) := by decide +kernel
theorem d_Re_hasPlaceFor_9 : decode prog_4_method_6_code 9 = .ok (.aload_n 1, 1) := by decide +kernel
theorem d_Re_hasPlaceFor_10 : decode prog_4_method_6_code 10 = .ok (.getfield 46, 3) := by decide +kernel
theorem d_Re_hasPlaceFor_13 : decode prog_4_method_6_code 13 = .ok (.invokevirtual 49, 3) := by decide +kernel
theorem d_Re_hasPlaceFor_16 : decode prog_4_method_6_code 16 = .ok (.istore_n 2, 1) := by decide +kernel
theorem d_Re_hasPlaceFor_17 : decode prog_4_method_6_code 17 = .ok (.aload_n 1, 1) := by decide +kernel
theorem d_Re_hasPlaceFor_18 : decode prog_4_method_6_code 18 = .ok (.getfield 46, 3) := by decide +kernel
theorem d_Re_hasPlaceFor_21 : decode prog_4_method_6_code 21 = .ok (.ifCond .eq 24, 3) := by decide +kernel
theorem d_Re_hasPlaceFor_24 : decode prog_4_method_6_code 24 = .ok (.iload_n 2, 1) := by decide +kernel
theorem d_Re_hasPlaceFor_25 : decode prog_4_method_6_code 25 = .ok (.iconst (-1), 1) := by decide +kernel
theorem d_Re_hasPlaceFor_26 : decode prog_4_method_6_code 26 = .ok (.if_icmp .eq 23, 3) := by decide +kernel
theorem d_Re_hasPlaceFor_29 : decode prog_4_method_6_code 29 = .ok (.aload_n 0, 1) := by decide +kernel
theorem d_Re_hasPlaceFor_30 : decode prog_4_method_6_code 30 = .ok (.getfield 17, 3) := by decide +kernel
theorem d_Re_hasPlaceFor_33 : decode prog_4_method_6_code 33 = .ok (.iload_n 2, 1) := by decide +kernel
theorem d_Re_hasPlaceFor_34 : decode prog_4_method_6_code 34 = .ok (.aaload, 1) := by decide +kernel
theorem d_Re_hasPlaceFor_35 : decode prog_4_method_6_code 35 = .ok (.getfield 53, 3) := by decide +kernel
theorem d_Re_hasPlaceFor_38 : decode prog_4_method_6_code 38 = .ok (.aload_n 1, 1) := by decide +kernel
theorem d_Re_hasPlaceFor_39 : decode prog_4_method_6_code 39 = .ok (.getfield 53, 3) := by decide +kernel
theorem d_Re_hasPlaceFor_42 : decode prog_4_method_6_code 42 = .ok (.if_icmp .ne 7, 3) := by decide +kernel
theorem d_Re_hasPlaceFor_45 : decode prog_4_method_6_code 45 = .ok (.iconst 1, 1) := by decide +kernel
theorem d_Re_hasPlaceFor_46 : decode prog_4_method_6_code 46 = .ok (.goto 4, 3) := by decide +kernel
theorem d_Re_hasPlaceFor_49 : decode prog_4_method_6_code 49 = .ok (.iconst 0, 1) := by decide +kernel
theorem d_Re_hasPlaceFor_50 : decode prog_4_method_6_code 50 = .ok (.istore_n 3, 1) := by decide +kernel
theorem d_Re_hasPlaceFor_51 : decode prog_4_method_6_code 51 = .ok (.iload_n 3, 1) := by decide +kernel
theorem d_Re_hasPlaceFor_52 : decode prog_4_method_6_code 52 = .ok (.ifCond .eq 18, 3) := by decide +kernel
theorem d_Re_hasPlaceFor_55 : decode prog_4_method_6_code 55 = .ok (.aload_n 0, 1) := by decide +kernel
theorem d_Re_hasPlaceFor_56 : decode prog_4_method_6_code 56 = .ok (.aload_n 1, 1) := by decide +kernel
theorem d_Re_hasPlaceFor_57 : decode prog_4_method_6_code 57 = .ok (.getfield 53, 3) := by decide +kernel
theorem d_Re_hasPlaceFor_60 : decode prog_4_method_6_code 60 = .ok (.invokevirtual 56, 3) := by decide +kernel
theorem d_Re_hasPlaceFor_63 : decode prog_4_method_6_code 63 = .ok (.ifCond .eq 7, 3) := by decide +kernel
theorem d_Re_hasPlaceFor_66 : decode prog_4_method_6_code 66 = .ok (.iconst 1, 1) := by decide +kernel
theorem d_Re_hasPlaceFor_67 : decode prog_4_method_6_code 67 = .ok (.goto 4, 3) := by decide +kernel
theorem d_Re_hasPlaceFor_70 : decode prog_4_method_6_code 70 = .ok (.iconst 0, 1) := by decide +kernel
theorem d_Re_hasPlaceFor_71 : decode prog_4_method_6_code 71 = .ok (.ireturn, 1) := by decide +kernel
theorem d_Re_hasPlaceFor_72 : decode prog_4_method_6_code 72 = .ok (.aload_n 1, 1) := by decide +kernel
theorem d_Re_hasPlaceFor_73 : decode prog_4_method_6_code 73 = .ok (.getfield 43, 3) := by decide +kernel
theorem d_Re_hasPlaceFor_76 : decode prog_4_method_6_code 76 = .ok (.iconst 4, 1) := by decide +kernel
theorem d_Re_hasPlaceFor_77 : decode prog_4_method_6_code 77 = .ok (.if_icmp .ne 21, 3) := by decide +kernel
theorem d_Re_hasPlaceFor_80 : decode prog_4_method_6_code 80 = .ok (.aload_n 0, 1) := by decide +kernel
theorem d_Re_hasPlaceFor_81 : decode prog_4_method_6_code 81 = .ok (.aload_n 1, 1) := by decide +kernel
theorem d_Re_hasPlaceFor_82 : decode prog_4_method_6_code 82 = .ok (.getfield 53, 3) := by decide +kernel
theorem d_Re_hasPlaceFor_85 : decode prog_4_method_6_code 85 = .ok (.invokevirtual 49, 3) := by decide +kernel
theorem d_Re_hasPlaceFor_88 : decode prog_4_method_6_code 88 = .ok (.iconst (-1), 1) := by decide +kernel
theorem d_Re_hasPlaceFor_89 : decode prog_4_method_6_code 89 = .ok (.if_icmp .eq 7, 3) := by decide +kernel
theorem d_Re_hasPlaceFor_92 : decode prog_4_method_6_code 92 = .ok (.iconst 1, 1) := by decide +kernel
theorem d_Re_hasPlaceFor_93 : decode prog_4_method_6_code 93 = .ok (.goto 4, 3) := by decide +kernel
theorem d_Re_hasPlaceFor_96 : decode prog_4_method_6_code 96 = .ok (.iconst 0, 1) := by decide +kernel
theorem d_Re_hasPlaceFor_97 : decode prog_4_method_6_code 97 = .ok (.ireturn, 1) := by decide +kernel
theorem d_Re_hasPlaceFor_98 : decode prog_4_method_6_code 98 = .ok (.aload_n 0, 1) := by decide +kernel
theorem d_Re_hasPlaceFor_99 : decode prog_4_method_6_code 99 = .ok (.aload_n 1, 1) := by decide +kernel
theorem d_Re_hasPlaceFor_100 : decode prog_4_method_6_code 100 = .ok (.getfield 53, 3) := by decide +kernel
theorem d_Re_hasPlaceFor_103 : decode prog_4_method_6_code 103 = .ok (.invokevirtual 60, 3) := by decide +kernel
theorem d_Re_hasPlaceFor_106 : decode prog_4_method_6_code 106 = .ok (.ireturn, 1) := by decide +kernel
theorem d_Re_hasInPast_0 : decode prog_4_method_7_code 0 = .ok (.aload_n 0, 1) := by decide +kernel
theorem d_Re_hasInPast_1 : decode prog_4_method_7_code 1 = .ok (.getfield 22, 3) := by decide +kernel
theorem d_Re_hasInPast_4 : decode prog_4_method_7_code 4 = .ok (.iload_n 2, 1) := by decide +kernel
theorem d_Re_hasInPast_5 : decode prog_4_method_7_code 5 = .ok (.iaload, 1) := by decide +kernel
theorem d_Re_hasInPast_6 : decode prog_4_method_7_code 6 = .ok (.iload_n 1, 1) := by decide +kernel
theorem d_Re_hasInPast_7 : decode prog_4_method_7_code 7 = .ok (.ishr, 1) := by decide +kernel
theorem d_Re_hasInPast_8 : decode prog_4_method_7_code 8 = .ok (.iconst 1, 1) := by decide +kernel
theorem d_Re_hasInPast_9 : decode prog_4_method_7_code 9 = .ok (.iand, 1) := by decide +kernel
theorem d_Re_hasInPast_10 : decode prog_4_method_7_code 10 = .ok (.iconst 1, 1) := by decide +kernel
theorem d_Re_hasInPast_11 : decode prog_4_method_7_code 11 = .ok (.if_icmp .ne 7, 3) := by decide +kernel
theorem d_Re_hasInPast_14 : decode prog_4_method_7_code 14 = .ok (.iconst 1, 1) := by decide +kernel
theorem d_Re_hasInPast_15 : decode prog_4_method_7_code 15 = .ok (.goto 4, 3) := by decide +kernel
theorem d_Re_hasInPast_18 : decode prog_4_method_7_code 18 = .ok (.iconst 0, 1) := by decide +kernel
theorem d_Re_hasInPast_19 : decode prog_4_method_7_code 19 = .ok (.ireturn, 1) := by decide +kernel
theorem d_Re_isHead_0 : decode prog_4_method_8_code 0 = .ok (.iconst 0, 1) := by decide +kernel
theorem d_Re_isHead_1 : decode prog_4_method_8_code 1 = .ok (.istore_n 2, 1) := by decide +kernel
theorem d_Re_isHead_2 : decode prog_4_method_8_code 2 = .ok (.iload_n 2, 1) := by decide +kernel
theorem d_Re_isHead_3 : decode prog_4_method_8_code 3 = .ok (.aload_n 0, 1) := by decide +kernel
theorem d_Re_isHead_4 : decode prog_4_method_8_code 4 = .ok (.getfield 36, 3) := by decide +kernel
theorem d_Re_isHead_7 : decode prog_4_method_8_code 7 = .ok (.if_icmp .ge 32, 3) := by decide +kernel
theorem d_Re_isHead_10 : decode prog_4_method_8_code 10 = .ok (.aload_n 0, 1) := by decide +kernel
theorem d_Re_isHead_11 : decode prog_4_method_8_code 11 = .ok (.getfield 17, 3) := by decide +kernel
theorem d_Re_isHead_14 : decode prog_4_method_8_code 14 = .ok (.iload_n 2, 1) := by decide +kernel
theorem d_Re_isHead_15 : decode prog_4_method_8_code 15 = .ok (.aaload, 1) := by decide +kernel
theorem d_Re_isHead_16 : decode prog_4_method_8_code 16 = .ok (.aload_n 0, 1) := by decide +kernel
theorem d_Re_isHead_17 : decode prog_4_method_8_code 17 = .ok (.getfield 17, 3) := by decide +kernel
theorem d_Re_isHead_20 : decode prog_4_method_8_code 20 = .ok (.iload_n 1, 1) := by decide +kernel
theorem d_Re_isHead_21 : decode prog_4_method_8_code 21 = .ok (.aaload, 1) := by decide +kernel
theorem d_Re_isHead_22 : decode prog_4_method_8_code 22 = .ok (.getfield 33, 3) := by decide +kernel
theorem d_Re_isHead_25 : decode prog_4_method_8_code 25 = .ok (.invokevirtual 63, 3) := by decide +kernel
theorem d_Re_isHead_28 : decode prog_4_method_8_code 28 = .ok (.ifCond .eq 5, 3) := by decide +kernel
theorem d_Re_isHead_31 : decode prog_4_method_8_code 31 = .ok (.iconst 0, 1) := by decide +kernel
theorem d_Re_isHead_32 : decode prog_4_method_8_code 32 = .ok (.ireturn, 1) := by decide +kernel
theorem d_Re_isHead_33 : decode prog_4_method_8_code 33 = .ok (.iinc 2 1, 3) := by decide +kernel
theorem d_Re_isHead_36 : decode prog_4_method_8_code 36 = .ok (.goto (-34), 3) := by decide +kernel
theorem d_Re_isHead_39 : decode prog_4_method_8_code 39 = .ok (.iconst 1, 1) := by decide +kernel
theorem d_Re_isHead_40 : decode prog_4_method_8_code 40 = .ok (.ireturn, 1) := by decide +kernel
theorem d_Re_countHeads_0 : decode prog_4_method_9_code 0 = .ok (.iconst 0, 1) := by decide +kernel
theorem d_Re_countHeads_1 : decode prog_4_method_9_code 1 = .ok (.istore_n 1, 1) := by decide +kernel
theorem d_Re_countHeads_2 : decode prog_4_method_9_code 2 = .ok (.iconst 0, 1) := by decide +kernel
theorem d_Re_countHeads_3 : decode prog_4_method_9_code 3 = .ok (.istore_n 2, 1) := by decide +kernel
theorem d_Re_countHeads_4 : decode prog_4_method_9_code 4 = .ok (.iload_n 2, 1) := by decide +kernel
theorem d_Re_countHeads_5 : decode prog_4_method_9_code 5 = .ok (.aload_n 0, 1) := by decide +kernel
theorem d_Re_countHeads_6 : decode prog_4_method_9_code 6 = .ok (.getfield 36, 3) := by decide +kernel
theorem d_Re_countHeads_9 : decode prog_4_method_9_code 9 = .ok (.if_icmp .ge 20, 3) := by decide +kernel
theorem d_Re_countHeads_12 : decode prog_4_method_9_code 12 = .ok (.aload_n 0, 1) := by decide +kernel
theorem d_Re_countHeads_13 : decode prog_4_method_9_code 13 = .ok (.iload_n 2, 1) := by decide +kernel
theorem d_Re_countHeads_14 : decode prog_4_method_9_code 14 = .ok (.invokevirtual 66, 3) := by decide +kernel
theorem d_Re_countHeads_17 : decode prog_4_method_9_code 17 = .ok (.ifCond .eq 6, 3) := by decide +kernel
theorem d_Re_countHeads_20 : decode prog_4_method_9_code 20 = .ok (.iinc 1 1, 3) := by decide +kernel
theorem d_Re_countHeads_23 : decode prog_4_method_9_code 23 = .ok (.iinc 2 1, 3) := by decide +kernel
theorem d_Re_countHeads_26 : decode prog_4_method_9_code 26 = .ok (.goto (-22), 3) := by decide +kernel
theorem d_Re_countHeads_29 : decode prog_4_method_9_code 29 = .ok (.iload_n 1, 1) := by decide +kernel
theorem d_Re_countHeads_30 : decode prog_4_method_9_code 30 = .ok (.ireturn, 1) := by decide +kernel
theorem d_Re_issue_0 : decode prog_4_method_10_code 0 = .ok (.aload_n 0, 1) := by decide +kernel
theorem d_Re_issue_1 : decode prog_4_method_10_code 1 = .ok (.invokevirtual 69, 3) := by decide +kernel
theorem d_Re_issue_4 : decode prog_4_method_10_code 4 = .ok (.iconst 1, 1) := by decide +kernel
theorem d_Re_issue_5 : decode prog_4_method_10_code 5 = .ok (.iadd, 1) := by decide +kernel
theorem d_Re_issue_6 : decode prog_4_method_10_code 6 = .ok (.istore_n 2, 1) := by decide +kernel
theorem d_Re_issue_7 : decode prog_4_method_10_code 7 = .ok (.aload_n 0, 1) := by decide +kernel
theorem d_Re_issue_8 : decode prog_4_method_10_code 8 = .ok (.getfield 73, 3) := by decide +kernel
theorem d_Re_issue_11 : decode prog_4_method_10_code 11 = .ok (.bipush 16, 2) := by decide +kernel
theorem d_Re_issue_13 : decode prog_4_method_10_code 13 = .ok (.if_icmp .ge 17, 3) := by decide +kernel
theorem d_Re_issue_16 : decode prog_4_method_10_code 16 = .ok (.iload_n 2, 1) := by decide +kernel
theorem d_Re_issue_17 : decode prog_4_method_10_code 17 = .ok (.bipush 40, 2) := by decide +kernel
theorem d_Re_issue_19 : decode prog_4_method_10_code 19 = .ok (.if_icmp .gt 11, 3) := by decide +kernel
theorem d_Re_issue_22 : decode prog_4_method_10_code 22 = .ok (.aload_n 0, 1) := by decide +kernel
theorem d_Re_issue_23 : decode prog_4_method_10_code 23 = .ok (.aload_n 1, 1) := by decide +kernel
theorem d_Re_issue_24 : decode prog_4_method_10_code 24 = .ok (.invokevirtual 76, 3) := by decide +kernel
theorem d_Re_issue_27 : decode prog_4_method_10_code 27 = .ok (.ifCond .ne 6, 3) := by decide +kernel
theorem d_Re_issue_30 : decode prog_4_method_10_code 30 = .ok (.bipush (-7), 2) := by decide +kernel
theorem d_Re_issue_32 : decode prog_4_method_10_code 32 = .ok (.ireturn, 1) := by decide +kernel
theorem d_Re_issue_33 : decode prog_4_method_10_code 33 = .ok (.aload_n 1, 1) := by decide +kernel
theorem d_Re_issue_34 : decode prog_4_method_10_code 34 = .ok (.iconst 4, 1) := by decide +kernel
theorem d_Re_issue_35 : decode prog_4_method_10_code 35 = .ok (.iload_n 2, 1) := by decide +kernel
theorem d_Re_issue_36 : decode prog_4_method_10_code 36 = .ok (.imul, 1) := by decide +kernel
theorem d_Re_issue_37 : decode prog_4_method_10_code 37 = .ok (.aload_n 0, 1) := by decide +kernel
theorem d_Re_issue_38 : decode prog_4_method_10_code 38 = .ok (.getfield 9, 3) := by decide +kernel
theorem d_Re_issue_41 : decode prog_4_method_10_code 41 = .ok (.iadd, 1) := by decide +kernel
theorem d_Re_issue_42 : decode prog_4_method_10_code 42 = .ok (.putfield 33, 3) := by decide +kernel
theorem d_Re_issue_45 : decode prog_4_method_10_code 45 = .ok (.aload_n 0, 1) := by decide +kernel
theorem d_Re_issue_46 : decode prog_4_method_10_code 46 = .ok (.aload_n 1, 1) := by decide +kernel
theorem d_Re_issue_47 : decode prog_4_method_10_code 47 = .ok (.invokevirtual 80, 3) := by decide +kernel
theorem d_Re_issue_50 : decode prog_4_method_10_code 50 = .ok (.aload_n 0, 1) := by decide +kernel
theorem d_Re_issue_51 : decode prog_4_method_10_code 51 = .ok (.aload_n 0, 1) := by decide +kernel
theorem d_Re_issue_52 : decode prog_4_method_10_code 52 = .ok (.getfield 73, 3) := by decide +kernel
theorem d_Re_issue_55 : decode prog_4_method_10_code 55 = .ok (.iconst 1, 1) := by decide +kernel
theorem d_Re_issue_56 : decode prog_4_method_10_code 56 = .ok (.isub, 1) := by decide +kernel
theorem d_Re_issue_57 : decode prog_4_method_10_code 57 = .ok (.invokevirtual 84, 3) := by decide +kernel
theorem d_Re_issue_60 : decode prog_4_method_10_code 60 = .ok (.aload_n 0, 1) := by decide +kernel
theorem d_Re_issue_61 : decode prog_4_method_10_code 61 = .ok (.invokevirtual 88, 3) := by decide +kernel
theorem d_Re_issue_64 : decode prog_4_method_10_code 64 = .ok (.pop, 1) := by decide +kernel
theorem d_Re_issue_65 : decode prog_4_method_10_code 65 = .ok (.aload_n 1, 1) := by decide +kernel
theorem d_Re_issue_66 : decode prog_4_method_10_code 66 = .ok (.getfield 33, 3) := by decide +kernel
theorem d_Re_issue_69 : decode prog_4_method_10_code 69 = .ok (.ireturn, 1) := by decide +kernel
theorem d_Re_greatestCount_0 : decode prog_4_method_11_code 0 = .ok (.aload_n 0, 1) := by decide +kernel
theorem d_Re_greatestCount_1 : decode prog_4_method_11_code 1 = .ok (.getfield 36, 3) := by decide +kernel
theorem d_Re_greatestCount_4 : decode prog_4_method_11_code 4 = .ok (.ifCond .ne 7, 3) := by decide +kernel
theorem d_Re_greatestCount_7 : decode prog_4_method_11_code 7 = .ok (.iconst 0, 1) := by decide +kernel
theorem d_Re_greatestCount_8 : decode prog_4_method_11_code 8 = .ok (.goto 24, 3) := by decide +kernel
theorem d_Re_greatestCount_11 : decode prog_4_method_11_code 11 = .ok (.aload_n 0, 1) := by decide +kernel
theorem d_Re_greatestCount_12 : decode prog_4_method_11_code 12 = .ok (.getfield 17, 3) := by decide +kernel
theorem d_Re_greatestCount_15 : decode prog_4_method_11_code 15 = .ok (.aload_n 0, 1) := by decide +kernel
theorem d_Re_greatestCount_16 : decode prog_4_method_11_code 16 = .ok (.getfield 30, 3) := by decide +kernel
theorem d_Re_greatestCount_19 : decode prog_4_method_11_code 19 = .ok (.aload_n 0, 1) := by decide +kernel
theorem d_Re_greatestCount_20 : decode prog_4_method_11_code 20 = .ok (.getfield 36, 3) := by decide +kernel
theorem d_Re_greatestCount_23 : decode prog_4_method_11_code 23 = .ok (.iconst 1, 1) := by decide +kernel
theorem d_Re_greatestCount_24 : decode prog_4_method_11_code 24 = .ok (.isub, 1) := by decide +kernel
theorem d_Re_greatestCount_25 : decode prog_4_method_11_code 25 = .ok (.iaload, 1) := by decide +kernel
theorem d_Re_greatestCount_26 : decode prog_4_method_11_code 26 = .ok (.aaload, 1) := by decide +kernel
theorem d_Re_greatestCount_27 : decode prog_4_method_11_code 27 = .ok (.getfield 33, 3) := by decide +kernel
theorem d_Re_greatestCount_30 : decode prog_4_method_11_code 30 = .ok (.iconst 2, 1) := by decide +kernel
theorem d_Re_greatestCount_31 : decode prog_4_method_11_code 31 = .ok (.ishr, 1) := by decide +kernel
theorem d_Re_greatestCount_32 : decode prog_4_method_11_code 32 = .ok (.ireturn, 1) := by decide +kernel
theorem d_Re_gatherBefore_0 : decode prog_4_method_12_code 0 = .ok (.iconst 0, 1) := by decide +kernel
theorem d_Re_gatherBefore_1 : decode prog_4_method_12_code 1 = .ok (.istore_n 2, 1) := by decide +kernel
theorem d_Re_gatherBefore_2 : decode prog_4_method_12_code 2 = .ok (.iload_n 2, 1) := by decide +kernel
theorem d_Re_gatherBefore_3 : decode prog_4_method_12_code 3 = .ok (.aload_n 0, 1) := by decide +kernel
theorem d_Re_gatherBefore_4 : decode prog_4_method_12_code 4 = .ok (.getfield 36, 3) := by decide +kernel
theorem d_Re_gatherBefore_7 : decode prog_4_method_12_code 7 = .ok (.if_icmp .ge 45, 3) := by decide +kernel
theorem d_Re_gatherBefore_10 : decode prog_4_method_12_code 10 = .ok (.aload_n 0, 1) := by decide +kernel
theorem d_Re_gatherBefore_11 : decode prog_4_method_12_code 11 = .ok (.getfield 17, 3) := by decide +kernel
theorem d_Re_gatherBefore_14 : decode prog_4_method_12_code 14 = .ok (.iload_n 2, 1) := by decide +kernel
theorem d_Re_gatherBefore_15 : decode prog_4_method_12_code 15 = .ok (.aaload, 1) := by decide +kernel
theorem d_Re_gatherBefore_16 : decode prog_4_method_12_code 16 = .ok (.getfield 33, 3) := by decide +kernel
theorem d_Re_gatherBefore_19 : decode prog_4_method_12_code 19 = .ok (.istore_n 3, 1) := by decide +kernel
theorem d_Re_gatherBefore_20 : decode prog_4_method_12_code 20 = .ok (.aload_n 0, 1) := by decide +kernel
theorem d_Re_gatherBefore_21 : decode prog_4_method_12_code 21 = .ok (.iload_n 2, 1) := by decide +kernel
theorem d_Re_gatherBefore_22 : decode prog_4_method_12_code 22 = .ok (.invokevirtual 66, 3) := by decide +kernel
theorem d_Re_gatherBefore_25 : decode prog_4_method_12_code 25 = .ok (.ifCond .ne 11, 3) := by decide +kernel
theorem d_Re_gatherBefore_28 : decode prog_4_method_12_code 28 = .ok (.aload_n 1, 1) := by decide +kernel
theorem d_Re_gatherBefore_29 : decode prog_4_method_12_code 29 = .ok (.iload_n 3, 1) := by decide +kernel
theorem d_Re_gatherBefore_30 : decode prog_4_method_12_code 30 = .ok (.invokevirtual 91, 3) := by decide +kernel
theorem d_Re_gatherBefore_33 : decode prog_4_method_12_code 33 = .ok (.ifCond .eq 13, 3) := by decide +kernel
theorem d_Re_gatherBefore_36 : decode prog_4_method_12_code 36 = .ok (.aload_n 1, 1) := by decide +kernel
theorem d_Re_gatherBefore_37 : decode prog_4_method_12_code 37 = .ok (.iload_n 3, 1) := by decide +kernel
theorem d_Re_gatherBefore_38 : decode prog_4_method_12_code 38 = .ok (.invokevirtual 94, 3) := by decide +kernel
theorem d_Re_gatherBefore_41 : decode prog_4_method_12_code 41 = .ok (.ifCond .ne 5, 3) := by decide +kernel
theorem d_Re_gatherBefore_44 : decode prog_4_method_12_code 44 = .ok (.iconst 0, 1) := by decide +kernel
theorem d_Re_gatherBefore_45 : decode prog_4_method_12_code 45 = .ok (.ireturn, 1) := by decide +kernel
theorem d_Re_gatherBefore_46 : decode prog_4_method_12_code 46 = .ok (.iinc 2 1, 3) := by decide +kernel
theorem d_Re_gatherBefore_49 : decode prog_4_method_12_code 49 = .ok (.goto (-47), 3) := by decide +kernel
theorem d_Re_gatherBefore_52 : decode prog_4_method_12_code 52 = .ok (.iconst 1, 1) := by decide +kernel
theorem d_Re_gatherBefore_53 : decode prog_4_method_12_code 53 = .ok (.ireturn, 1) := by decide +kernel
theorem d_Re_take_0 : decode prog_4_method_13_code 0 = .ok (.aload_n 0, 1) := by decide +kernel
theorem d_Re_take_1 : decode prog_4_method_13_code 1 = .ok (.aload_n 1, 1) := by decide +kernel
theorem d_Re_take_2 : decode prog_4_method_13_code 2 = .ok (.getfield 33, 3) := by decide +kernel
theorem d_Re_take_5 : decode prog_4_method_13_code 5 = .ok (.aload_n 0, 1) := by decide +kernel
theorem d_Re_take_6 : decode prog_4_method_13_code 6 = .ok (.getfield 73, 3) := by decide +kernel
theorem d_Re_take_9 : decode prog_4_method_13_code 9 = .ok (.invokevirtual 39, 3) := by decide +kernel
theorem d_Re_take_12 : decode prog_4_method_13_code 12 = .ok (.istore_n 2, 1) := by decide +kernel
theorem d_Re_take_13 : decode prog_4_method_13_code 13 = .ok (.iload_n 2, 1) := by decide +kernel
theorem d_Re_take_14 : decode prog_4_method_13_code 14 = .ok (.iconst (-1), 1) := by decide +kernel
theorem d_Re_take_15 : decode prog_4_method_13_code 15 = .ok (.if_icmp .eq 24, 3) := by decide +kernel
theorem d_Re_take_18 : decode prog_4_method_13_code 18 = .ok (.aload_n 0, 1) := by decide +kernel
theorem d_Re_take_19 : decode prog_4_method_13_code 19 = .ok (.getfield 17, 3) := by decide +kernel
theorem d_Re_take_22 : decode prog_4_method_13_code 22 = .ok (.iload_n 2, 1) := by decide +kernel
theorem d_Re_take_23 : decode prog_4_method_13_code 23 = .ok (.aaload, 1) := by decide +kernel
theorem d_Re_take_24 : decode prog_4_method_13_code 24 = .ok (.aload_n 1, 1) := by decide +kernel
theorem d_Re_take_25 : decode prog_4_method_13_code 25 = .ok (.invokevirtual 97, 3) := by decide +kernel
theorem d_Re_take_28 : decode prog_4_method_13_code 28 = .ok (.ifCond .eq 8, 3) := by decide +kernel
theorem d_Re_take_31 : decode prog_4_method_13_code 31 = .ok (.bipush (-8), 2) := by decide +kernel
theorem d_Re_take_33 : decode prog_4_method_13_code 33 = .ok (.goto 5, 3) := by decide +kernel
theorem d_Re_take_36 : decode prog_4_method_13_code 36 = .ok (.bipush (-3), 2) := by decide +kernel
theorem d_Re_take_38 : decode prog_4_method_13_code 38 = .ok (.ireturn, 1) := by decide +kernel
theorem d_Re_take_39 : decode prog_4_method_13_code 39 = .ok (.aload_n 1, 1) := by decide +kernel
theorem d_Re_take_40 : decode prog_4_method_13_code 40 = .ok (.getfield 33, 3) := by decide +kernel
theorem d_Re_take_43 : decode prog_4_method_13_code 43 = .ok (.iconst 3, 1) := by decide +kernel
theorem d_Re_take_44 : decode prog_4_method_13_code 44 = .ok (.iand, 1) := by decide +kernel
theorem d_Re_take_45 : decode prog_4_method_13_code 45 = .ok (.aload_n 0, 1) := by decide +kernel
theorem d_Re_take_46 : decode prog_4_method_13_code 46 = .ok (.getfield 9, 3) := by decide +kernel
theorem d_Re_take_49 : decode prog_4_method_13_code 49 = .ok (.if_icmp .ne 6, 3) := by decide +kernel
theorem d_Re_take_52 : decode prog_4_method_13_code 52 = .ok (.bipush (-4), 2) := by decide +kernel
theorem d_Re_take_54 : decode prog_4_method_13_code 54 = .ok (.ireturn, 1) := by decide +kernel
theorem d_Re_take_55 : decode prog_4_method_13_code 55 = .ok (.aload_n 1, 1) := by decide +kernel
theorem d_Re_take_56 : decode prog_4_method_13_code 56 = .ok (.invokevirtual 100, 3) := by decide +kernel
theorem d_Re_take_59 : decode prog_4_method_13_code 59 = .ok (.ifCond .ne 6, 3) := by decide +kernel
theorem d_Re_take_62 : decode prog_4_method_13_code 62 = .ok (.bipush (-5), 2) := by decide +kernel
theorem d_Re_take_64 : decode prog_4_method_13_code 64 = .ok (.ireturn, 1) := by decide +kernel
theorem d_Re_take_65 : decode prog_4_method_13_code 65 = .ok (.aload_n 1, 1) := by decide +kernel
theorem d_Re_take_66 : decode prog_4_method_13_code 66 = .ok (.invokevirtual 104, 3) := by decide +kernel
theorem d_Re_take_69 : decode prog_4_method_13_code 69 = .ok (.ifCond .ne 6, 3) := by decide +kernel
theorem d_Re_take_72 : decode prog_4_method_13_code 72 = .ok (.bipush (-6), 2) := by decide +kernel
theorem d_Re_take_74 : decode prog_4_method_13_code 74 = .ok (.ireturn, 1) := by decide +kernel
theorem d_Re_take_75 : decode prog_4_method_13_code 75 = .ok (.aload_n 0, 1) := by decide +kernel
theorem d_Re_take_76 : decode prog_4_method_13_code 76 = .ok (.getfield 73, 3) := by decide +kernel
theorem d_Re_take_79 : decode prog_4_method_13_code 79 = .ok (.bipush 16, 2) := by decide +kernel
theorem d_Re_take_81 : decode prog_4_method_13_code 81 = .ok (.if_icmp .lt 6, 3) := by decide +kernel
theorem d_Re_take_84 : decode prog_4_method_13_code 84 = .ok (.bipush (-7), 2) := by decide +kernel
theorem d_Re_take_86 : decode prog_4_method_13_code 86 = .ok (.ireturn, 1) := by decide +kernel
theorem d_Re_take_87 : decode prog_4_method_13_code 87 = .ok (.aload_n 0, 1) := by decide +kernel
theorem d_Re_take_88 : decode prog_4_method_13_code 88 = .ok (.aload_n 1, 1) := by decide +kernel
theorem d_Re_take_89 : decode prog_4_method_13_code 89 = .ok (.invokevirtual 80, 3) := by decide +kernel
theorem d_Re_take_92 : decode prog_4_method_13_code 92 = .ok (.aload_n 0, 1) := by decide +kernel
theorem d_Re_take_93 : decode prog_4_method_13_code 93 = .ok (.invokevirtual 88, 3) := by decide +kernel
theorem d_Re_take_96 : decode prog_4_method_13_code 96 = .ok (.ireturn, 1) := by decide +kernel
theorem d_Re_keep_0 : decode prog_4_method_14_code 0 = .ok (.aload_n 0, 1) := by decide +kernel
theorem d_Re_keep_1 : decode prog_4_method_14_code 1 = .ok (.getfield 17, 3) := by decide +kernel
theorem d_Re_keep_4 : decode prog_4_method_14_code 4 = .ok (.aload_n 0, 1) := by decide +kernel
theorem d_Re_keep_5 : decode prog_4_method_14_code 5 = .ok (.getfield 73, 3) := by decide +kernel
theorem d_Re_keep_8 : decode prog_4_method_14_code 8 = .ok (.aaload, 1) := by decide +kernel
theorem d_Re_keep_9 : decode prog_4_method_14_code 9 = .ok (.aload_n 1, 1) := by decide +kernel
theorem d_Re_keep_10 : decode prog_4_method_14_code 10 = .ok (.invokevirtual 107, 3) := by decide +kernel
theorem d_Re_keep_13 : decode prog_4_method_14_code 13 = .ok (.aload_n 0, 1) := by decide +kernel
theorem d_Re_keep_14 : decode prog_4_method_14_code 14 = .ok (.dup, 1) := by decide +kernel
theorem d_Re_keep_15 : decode prog_4_method_14_code 15 = .ok (.getfield 73, 3) := by decide +kernel
theorem d_Re_keep_18 : decode prog_4_method_14_code 18 = .ok (.iconst 1, 1) := by decide +kernel
theorem d_Re_keep_19 : decode prog_4_method_14_code 19 = .ok (.iadd, 1) := by decide +kernel
theorem d_Re_keep_20 : decode prog_4_method_14_code 20 = .ok (.putfield 73, 3) := by decide +kernel
theorem d_Re_keep_23 : decode prog_4_method_14_code 23 = .ok (.return_, 1) := by decide +kernel
theorem d_Re_settle_0 : decode prog_4_method_15_code 0 = .ok (.iconst 0, 1) := by decide +kernel
theorem d_Re_settle_1 : decode prog_4_method_15_code 1 = .ok (.istore_n 1, 1) := by decide +kernel
theorem d_Re_settle_2 : decode prog_4_method_15_code 2 = .ok (.iconst 0, 1) := by decide +kernel
theorem d_Re_settle_3 : decode prog_4_method_15_code 3 = .ok (.istore_n 2, 1) := by decide +kernel
theorem d_Re_settle_4 : decode prog_4_method_15_code 4 = .ok (.iload_n 2, 1) := by decide +kernel
theorem d_Re_settle_5 : decode prog_4_method_15_code 5 = .ok (.bipush 16, 2) := by decide +kernel
theorem d_Re_settle_7 : decode prog_4_method_15_code 7 = .ok (.if_icmp .ge 29, 3) := by decide +kernel
theorem d_Re_settle_10 : decode prog_4_method_15_code 10 = .ok (.aload_n 0, 1) := by decide +kernel
theorem d_Re_settle_11 : decode prog_4_method_15_code 11 = .ok (.invokevirtual 110, 3) := by decide +kernel
theorem d_Re_settle_14 : decode prog_4_method_15_code 14 = .ok (.istore_n 3, 1) := by decide +kernel
theorem d_Re_settle_15 : decode prog_4_method_15_code 15 = .ok (.iload_n 3, 1) := by decide +kernel
theorem d_Re_settle_16 : decode prog_4_method_15_code 16 = .ok (.iconst (-1), 1) := by decide +kernel
theorem d_Re_settle_17 : decode prog_4_method_15_code 17 = .ok (.if_icmp .ne 5, 3) := by decide +kernel
theorem d_Re_settle_20 : decode prog_4_method_15_code 20 = .ok (.iload_n 1, 1) := by decide +kernel
theorem d_Re_settle_21 : decode prog_4_method_15_code 21 = .ok (.ireturn, 1) := by decide +kernel
theorem d_Re_settle_22 : decode prog_4_method_15_code 22 = .ok (.aload_n 0, 1) := by decide +kernel
theorem d_Re_settle_23 : decode prog_4_method_15_code 23 = .ok (.iload_n 3, 1) := by decide +kernel
theorem d_Re_settle_24 : decode prog_4_method_15_code 24 = .ok (.invokevirtual 84, 3) := by decide +kernel
theorem d_Re_settle_27 : decode prog_4_method_15_code 27 = .ok (.iinc 1 1, 3) := by decide +kernel
theorem d_Re_settle_30 : decode prog_4_method_15_code 30 = .ok (.iinc 2 1, 3) := by decide +kernel
theorem d_Re_settle_33 : decode prog_4_method_15_code 33 = .ok (.goto (-29), 3) := by decide +kernel
theorem d_Re_settle_36 : decode prog_4_method_15_code 36 = .ok (.iload_n 1, 1) := by decide +kernel
theorem d_Re_settle_37 : decode prog_4_method_15_code 37 = .ok (.ireturn, 1) := by decide +kernel
theorem d_Re_findLeastReady_0 : decode prog_4_method_16_code 0 = .ok (.iconst (-1), 1) := by decide +kernel
theorem d_Re_findLeastReady_1 : decode prog_4_method_16_code 1 = .ok (.istore_n 1, 1) := by decide +kernel
theorem d_Re_findLeastReady_2 : decode prog_4_method_16_code 2 = .ok (.aload_n 0, 1) := by decide +kernel
theorem d_Re_findLeastReady_3 : decode prog_4_method_16_code 3 = .ok (.getfield 36, 3) := by decide +kernel
theorem d_Re_findLeastReady_6 : decode prog_4_method_16_code 6 = .ok (.istore_n 2, 1) := by decide +kernel
theorem d_Re_findLeastReady_7 : decode prog_4_method_16_code 7 = .ok (.iload_n 2, 1) := by decide +kernel
theorem d_Re_findLeastReady_8 : decode prog_4_method_16_code 8 = .ok (.aload_n 0, 1) := by decide +kernel
theorem d_Re_findLeastReady_9 : decode prog_4_method_16_code 9 = .ok (.getfield 73, 3) := by decide +kernel
theorem d_Re_findLeastReady_12 : decode prog_4_method_16_code 12 = .ok (.if_icmp .ge 50, 3) := by decide +kernel
theorem d_Re_findLeastReady_15 : decode prog_4_method_16_code 15 = .ok (.aload_n 0, 1) := by decide +kernel
theorem d_Re_findLeastReady_16 : decode prog_4_method_16_code 16 = .ok (.aload_n 0, 1) := by decide +kernel
theorem d_Re_findLeastReady_17 : decode prog_4_method_16_code 17 = .ok (.getfield 17, 3) := by decide +kernel
theorem d_Re_findLeastReady_20 : decode prog_4_method_16_code 20 = .ok (.iload_n 2, 1) := by decide +kernel
theorem d_Re_findLeastReady_21 : decode prog_4_method_16_code 21 = .ok (.aaload, 1) := by decide +kernel
theorem d_Re_findLeastReady_22 : decode prog_4_method_16_code 22 = .ok (.invokevirtual 113, 3) := by decide +kernel
theorem d_Re_findLeastReady_25 : decode prog_4_method_16_code 25 = .ok (.ifCond .eq 31, 3) := by decide +kernel
theorem d_Re_findLeastReady_28 : decode prog_4_method_16_code 28 = .ok (.iload_n 1, 1) := by decide +kernel
theorem d_Re_findLeastReady_29 : decode prog_4_method_16_code 29 = .ok (.iconst (-1), 1) := by decide +kernel
theorem d_Re_findLeastReady_30 : decode prog_4_method_16_code 30 = .ok (.if_icmp .eq 24, 3) := by decide +kernel
theorem d_Re_findLeastReady_33 : decode prog_4_method_16_code 33 = .ok (.aload_n 0, 1) := by decide +kernel
theorem d_Re_findLeastReady_34 : decode prog_4_method_16_code 34 = .ok (.getfield 17, 3) := by decide +kernel
theorem d_Re_findLeastReady_37 : decode prog_4_method_16_code 37 = .ok (.iload_n 2, 1) := by decide +kernel
theorem d_Re_findLeastReady_38 : decode prog_4_method_16_code 38 = .ok (.aaload, 1) := by decide +kernel
theorem d_Re_findLeastReady_39 : decode prog_4_method_16_code 39 = .ok (.getfield 33, 3) := by decide +kernel
theorem d_Re_findLeastReady_42 : decode prog_4_method_16_code 42 = .ok (.aload_n 0, 1) := by decide +kernel
theorem d_Re_findLeastReady_43 : decode prog_4_method_16_code 43 = .ok (.getfield 17, 3) := by decide +kernel
theorem d_Re_findLeastReady_46 : decode prog_4_method_16_code 46 = .ok (.iload_n 1, 1) := by decide +kernel
theorem d_Re_findLeastReady_47 : decode prog_4_method_16_code 47 = .ok (.aaload, 1) := by decide +kernel
theorem d_Re_findLeastReady_48 : decode prog_4_method_16_code 48 = .ok (.getfield 33, 3) := by decide +kernel
theorem d_Re_findLeastReady_51 : decode prog_4_method_16_code 51 = .ok (.if_icmp .ge 5, 3) := by decide +kernel
theorem d_Re_findLeastReady_54 : decode prog_4_method_16_code 54 = .ok (.iload_n 2, 1) := by decide +kernel
theorem d_Re_findLeastReady_55 : decode prog_4_method_16_code 55 = .ok (.istore_n 1, 1) := by decide +kernel
theorem d_Re_findLeastReady_56 : decode prog_4_method_16_code 56 = .ok (.iinc 2 1, 3) := by decide +kernel
theorem d_Re_findLeastReady_59 : decode prog_4_method_16_code 59 = .ok (.goto (-52), 3) := by decide +kernel
theorem d_Re_findLeastReady_62 : decode prog_4_method_16_code 62 = .ok (.iload_n 1, 1) := by decide +kernel
theorem d_Re_findLeastReady_63 : decode prog_4_method_16_code 63 = .ok (.ireturn, 1) := by decide +kernel
theorem d_Re_isReady_0 : decode prog_4_method_17_code 0 = .ok (.iconst 0, 1) := by decide +kernel
theorem d_Re_isReady_1 : decode prog_4_method_17_code 1 = .ok (.istore_n 2, 1) := by decide +kernel
theorem d_Re_isReady_2 : decode prog_4_method_17_code 2 = .ok (.iload_n 2, 1) := by decide +kernel
