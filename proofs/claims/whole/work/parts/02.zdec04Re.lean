/-! decode rows -/
theorem d_Re_isReady_3 : decode prog_4_method_17_code 3 = .ok (.aload_n 1, 1) := by decide +kernel
theorem d_Re_isReady_4 : decode prog_4_method_17_code 4 = .ok (.getfield 116, 3) := by decide +kernel
theorem d_Re_isReady_7 : decode prog_4_method_17_code 7 = .ok (.if_icmp .ge 29, 3) := by decide +kernel
theorem d_Re_isReady_10 : decode prog_4_method_17_code 10 = .ok (.aload_n 0, 1) := by decide +kernel
theorem d_Re_isReady_11 : decode prog_4_method_17_code 11 = .ok (.aload_n 1, 1) := by decide +kernel
theorem d_Re_isReady_12 : decode prog_4_method_17_code 12 = .ok (.getfield 119, 3) := by decide +kernel
theorem d_Re_isReady_15 : decode prog_4_method_17_code 15 = .ok (.iload_n 2, 1) := by decide +kernel
theorem d_Re_isReady_16 : decode prog_4_method_17_code 16 = .ok (.iaload, 1) := by decide +kernel
theorem d_Re_isReady_17 : decode prog_4_method_17_code 17 = .ok (.aload_n 0, 1) := by decide +kernel
theorem d_Re_isReady_18 : decode prog_4_method_17_code 18 = .ok (.getfield 36, 3) := by decide +kernel
theorem d_Re_isReady_21 : decode prog_4_method_17_code 21 = .ok (.invokevirtual 39, 3) := by decide +kernel
theorem d_Re_isReady_24 : decode prog_4_method_17_code 24 = .ok (.iconst (-1), 1) := by decide +kernel
theorem d_Re_isReady_25 : decode prog_4_method_17_code 25 = .ok (.if_icmp .ne 5, 3) := by decide +kernel
theorem d_Re_isReady_28 : decode prog_4_method_17_code 28 = .ok (.iconst 0, 1) := by decide +kernel
theorem d_Re_isReady_29 : decode prog_4_method_17_code 29 = .ok (.ireturn, 1) := by decide +kernel
theorem d_Re_isReady_30 : decode prog_4_method_17_code 30 = .ok (.iinc 2 1, 3) := by decide +kernel
theorem d_Re_isReady_33 : decode prog_4_method_17_code 33 = .ok (.goto (-31), 3) := by decide +kernel
theorem d_Re_isReady_36 : decode prog_4_method_17_code 36 = .ok (.iconst 1, 1) := by decide +kernel
theorem d_Re_isReady_37 : decode prog_4_method_17_code 37 = .ok (.ireturn, 1) := by decide +kernel
theorem d_Re_applyWaiting_0 : decode prog_4_method_18_code 0 = .ok (.aload_n 0, 1) := by decide +kernel
theorem d_Re_applyWaiting_1 : decode prog_4_method_18_code 1 = .ok (.getfield 17, 3) := by decide +kernel
theorem d_Re_applyWaiting_4 : decode prog_4_method_18_code 4 = .ok (.iload_n 1, 1) := by decide +kernel
theorem d_Re_applyWaiting_5 : decode prog_4_method_18_code 5 = .ok (.aaload, 1) := by decide +kernel
theorem d_Re_applyWaiting_6 : decode prog_4_method_18_code 6 = .ok (.astore_n 2, 1) := by decide +kernel
theorem d_Re_applyWaiting_7 : decode prog_4_method_18_code 7 = .ok (.aload_n 0, 1) := by decide +kernel
theorem d_Re_applyWaiting_8 : decode prog_4_method_18_code 8 = .ok (.getfield 17, 3) := by decide +kernel
theorem d_Re_applyWaiting_11 : decode prog_4_method_18_code 11 = .ok (.iload_n 1, 1) := by decide +kernel
theorem d_Re_applyWaiting_12 : decode prog_4_method_18_code 12 = .ok (.aload_n 0, 1) := by decide +kernel
theorem d_Re_applyWaiting_13 : decode prog_4_method_18_code 13 = .ok (.getfield 17, 3) := by decide +kernel
theorem d_Re_applyWaiting_16 : decode prog_4_method_18_code 16 = .ok (.aload_n 0, 1) := by decide +kernel
theorem d_Re_applyWaiting_17 : decode prog_4_method_18_code 17 = .ok (.getfield 36, 3) := by decide +kernel
theorem d_Re_applyWaiting_20 : decode prog_4_method_18_code 20 = .ok (.aaload, 1) := by decide +kernel
theorem d_Re_applyWaiting_21 : decode prog_4_method_18_code 21 = .ok (.aastore, 1) := by decide +kernel
theorem d_Re_applyWaiting_22 : decode prog_4_method_18_code 22 = .ok (.aload_n 0, 1) := by decide +kernel
theorem d_Re_applyWaiting_23 : decode prog_4_method_18_code 23 = .ok (.getfield 17, 3) := by decide +kernel
theorem d_Re_applyWaiting_26 : decode prog_4_method_18_code 26 = .ok (.aload_n 0, 1) := by decide +kernel
theorem d_Re_applyWaiting_27 : decode prog_4_method_18_code 27 = .ok (.getfield 36, 3) := by decide +kernel
theorem d_Re_applyWaiting_30 : decode prog_4_method_18_code 30 = .ok (.aload_n 2, 1) := by decide +kernel
theorem d_Re_applyWaiting_31 : decode prog_4_method_18_code 31 = .ok (.aastore, 1) := by decide +kernel
theorem d_Re_applyWaiting_32 : decode prog_4_method_18_code 32 = .ok (.aload_n 0, 1) := by decide +kernel
theorem d_Re_applyWaiting_33 : decode prog_4_method_18_code 33 = .ok (.getfield 22, 3) := by decide +kernel
theorem d_Re_applyWaiting_36 : decode prog_4_method_18_code 36 = .ok (.aload_n 0, 1) := by decide +kernel
theorem d_Re_applyWaiting_37 : decode prog_4_method_18_code 37 = .ok (.getfield 36, 3) := by decide +kernel
theorem d_Re_applyWaiting_40 : decode prog_4_method_18_code 40 = .ok (.aload_n 0, 1) := by decide +kernel
theorem d_Re_applyWaiting_41 : decode prog_4_method_18_code 41 = .ok (.aload_n 2, 1) := by decide +kernel
theorem d_Re_applyWaiting_42 : decode prog_4_method_18_code 42 = .ok (.invokevirtual 122, 3) := by decide +kernel
theorem d_Re_applyWaiting_45 : decode prog_4_method_18_code 45 = .ok (.iastore, 1) := by decide +kernel
theorem d_Re_applyWaiting_46 : decode prog_4_method_18_code 46 = .ok (.aload_n 0, 1) := by decide +kernel
theorem d_Re_applyWaiting_47 : decode prog_4_method_18_code 47 = .ok (.getfield 26, 3) := by decide +kernel
theorem d_Re_applyWaiting_50 : decode prog_4_method_18_code 50 = .ok (.aload_n 0, 1) := by decide +kernel
theorem d_Re_applyWaiting_51 : decode prog_4_method_18_code 51 = .ok (.getfield 36, 3) := by decide +kernel
theorem d_Re_applyWaiting_54 : decode prog_4_method_18_code 54 = .ok (.aload_n 0, 1) := by decide +kernel
theorem d_Re_applyWaiting_55 : decode prog_4_method_18_code 55 = .ok (.aload_n 2, 1) := by decide +kernel
theorem d_Re_applyWaiting_56 : decode prog_4_method_18_code 56 = .ok (.invokevirtual 126, 3) := by decide +kernel
theorem d_Re_applyWaiting_59 : decode prog_4_method_18_code 59 = .ok (.bastore, 1) := by decide +kernel
theorem d_Re_applyWaiting_60 : decode prog_4_method_18_code 60 = .ok (.aload_n 0, 1) := by decide +kernel
theorem d_Re_applyWaiting_61 : decode prog_4_method_18_code 61 = .ok (.aload_n 2, 1) := by decide +kernel
theorem d_Re_applyWaiting_62 : decode prog_4_method_18_code 62 = .ok (.getfield 33, 3) := by decide +kernel
theorem d_Re_applyWaiting_65 : decode prog_4_method_18_code 65 = .ok (.invokevirtual 129, 3) := by decide +kernel
theorem d_Re_applyWaiting_68 : decode prog_4_method_18_code 68 = .ok (.aload_n 0, 1) := by decide +kernel
theorem d_Re_applyWaiting_69 : decode prog_4_method_18_code 69 = .ok (.dup, 1) := by decide +kernel
theorem d_Re_applyWaiting_70 : decode prog_4_method_18_code 70 = .ok (.getfield 36, 3) := by decide +kernel
theorem d_Re_applyWaiting_73 : decode prog_4_method_18_code 73 = .ok (.iconst 1, 1) := by decide +kernel
theorem d_Re_applyWaiting_74 : decode prog_4_method_18_code 74 = .ok (.iadd, 1) := by decide +kernel
theorem d_Re_applyWaiting_75 : decode prog_4_method_18_code 75 = .ok (.putfield 36, 3) := by decide +kernel
theorem d_Re_applyWaiting_78 : decode prog_4_method_18_code 78 = .ok (.return_, 1) := by decide +kernel
theorem d_Re_gatherPast_0 : decode prog_4_method_19_code 0 = .ok (.iconst 0, 1) := by decide +kernel
theorem d_Re_gatherPast_1 : decode prog_4_method_19_code 1 = .ok (.istore_n 2, 1) := by decide +kernel
theorem d_Re_gatherPast_2 : decode prog_4_method_19_code 2 = .ok (.iconst 0, 1) := by decide +kernel
theorem d_Re_gatherPast_3 : decode prog_4_method_19_code 3 = .ok (.istore_n 3, 1) := by decide +kernel
theorem d_Re_gatherPast_4 : decode prog_4_method_19_code 4 = .ok (.iload_n 3, 1) := by decide +kernel
theorem d_Re_gatherPast_5 : decode prog_4_method_19_code 5 = .ok (.aload_n 1, 1) := by decide +kernel
theorem d_Re_gatherPast_6 : decode prog_4_method_19_code 6 = .ok (.getfield 116, 3) := by decide +kernel
theorem d_Re_gatherPast_9 : decode prog_4_method_19_code 9 = .ok (.if_icmp .ge 46, 3) := by decide +kernel
theorem d_Re_gatherPast_12 : decode prog_4_method_19_code 12 = .ok (.aload_n 0, 1) := by decide +kernel
theorem d_Re_gatherPast_13 : decode prog_4_method_19_code 13 = .ok (.aload_n 1, 1) := by decide +kernel
theorem d_Re_gatherPast_14 : decode prog_4_method_19_code 14 = .ok (.getfield 119, 3) := by decide +kernel
theorem d_Re_gatherPast_17 : decode prog_4_method_19_code 17 = .ok (.iload_n 3, 1) := by decide +kernel
theorem d_Re_gatherPast_18 : decode prog_4_method_19_code 18 = .ok (.iaload, 1) := by decide +kernel
theorem d_Re_gatherPast_19 : decode prog_4_method_19_code 19 = .ok (.aload_n 0, 1) := by decide +kernel
theorem d_Re_gatherPast_20 : decode prog_4_method_19_code 20 = .ok (.getfield 36, 3) := by decide +kernel
theorem d_Re_gatherPast_23 : decode prog_4_method_19_code 23 = .ok (.invokevirtual 39, 3) := by decide +kernel
theorem d_Re_gatherPast_26 : decode prog_4_method_19_code 26 = .ok (.istore 4, 2) := by decide +kernel
theorem d_Re_gatherPast_28 : decode prog_4_method_19_code 28 = .ok (.iload 4, 2) := by decide +kernel
theorem d_Re_gatherPast_30 : decode prog_4_method_19_code 30 = .ok (.iconst (-1), 1) := by decide +kernel
theorem d_Re_gatherPast_31 : decode prog_4_method_19_code 31 = .ok (.if_icmp .eq 18, 3) := by decide +kernel
theorem d_Re_gatherPast_34 : decode prog_4_method_19_code 34 = .ok (.iload_n 2, 1) := by decide +kernel
theorem d_Re_gatherPast_35 : decode prog_4_method_19_code 35 = .ok (.aload_n 0, 1) := by decide +kernel
theorem d_Re_gatherPast_36 : decode prog_4_method_19_code 36 = .ok (.getfield 22, 3) := by decide +kernel
theorem d_Re_gatherPast_39 : decode prog_4_method_19_code 39 = .ok (.iload 4, 2) := by decide +kernel
theorem d_Re_gatherPast_41 : decode prog_4_method_19_code 41 = .ok (.iaload, 1) := by decide +kernel
theorem d_Re_gatherPast_42 : decode prog_4_method_19_code 42 = .ok (.iconst 1, 1) := by decide +kernel
theorem d_Re_gatherPast_43 : decode prog_4_method_19_code 43 = .ok (.iload 4, 2) := by decide +kernel
theorem d_Re_gatherPast_45 : decode prog_4_method_19_code 45 = .ok (.ishl, 1) := by decide +kernel
theorem d_Re_gatherPast_46 : decode prog_4_method_19_code 46 = .ok (.ior, 1) := by decide +kernel
theorem d_Re_gatherPast_47 : decode prog_4_method_19_code 47 = .ok (.ior, 1) := by decide +kernel
theorem d_Re_gatherPast_48 : decode prog_4_method_19_code 48 = .ok (.istore_n 2, 1) := by decide +kernel
theorem d_Re_gatherPast_49 : decode prog_4_method_19_code 49 = .ok (.iinc 3 1, 3) := by decide +kernel
theorem d_Re_gatherPast_52 : decode prog_4_method_19_code 52 = .ok (.goto (-48), 3) := by decide +kernel
theorem d_Re_gatherPast_55 : decode prog_4_method_19_code 55 = .ok (.iload_n 2, 1) := by decide +kernel
theorem d_Re_gatherPast_56 : decode prog_4_method_19_code 56 = .ok (.ireturn, 1) := by decide +kernel
theorem d_Re_fileById_0 : decode prog_4_method_20_code 0 = .ok (.aload_n 0, 1) := by decide +kernel
theorem d_Re_fileById_1 : decode prog_4_method_20_code 1 = .ok (.getfield 36, 3) := by decide +kernel
theorem d_Re_fileById_4 : decode prog_4_method_20_code 4 = .ok (.istore_n 2, 1) := by decide +kernel
theorem d_Re_fileById_5 : decode prog_4_method_20_code 5 = .ok (.iload_n 2, 1) := by decide +kernel
theorem d_Re_fileById_6 : decode prog_4_method_20_code 6 = .ok (.ifCond .le 43, 3) := by decide +kernel
theorem d_Re_fileById_9 : decode prog_4_method_20_code 9 = .ok (.aload_n 0, 1) := by decide +kernel
theorem d_Re_fileById_10 : decode prog_4_method_20_code 10 = .ok (.getfield 17, 3) := by decide +kernel
theorem d_Re_fileById_13 : decode prog_4_method_20_code 13 = .ok (.aload_n 0, 1) := by decide +kernel
theorem d_Re_fileById_14 : decode prog_4_method_20_code 14 = .ok (.getfield 30, 3) := by decide +kernel
theorem d_Re_fileById_17 : decode prog_4_method_20_code 17 = .ok (.iload_n 2, 1) := by decide +kernel
theorem d_Re_fileById_18 : decode prog_4_method_20_code 18 = .ok (.iconst 1, 1) := by decide +kernel
theorem d_Re_fileById_19 : decode prog_4_method_20_code 19 = .ok (.isub, 1) := by decide +kernel
theorem d_Re_fileById_20 : decode prog_4_method_20_code 20 = .ok (.iaload, 1) := by decide +kernel
theorem d_Re_fileById_21 : decode prog_4_method_20_code 21 = .ok (.aaload, 1) := by decide +kernel
theorem d_Re_fileById_22 : decode prog_4_method_20_code 22 = .ok (.getfield 33, 3) := by decide +kernel
theorem d_Re_fileById_25 : decode prog_4_method_20_code 25 = .ok (.iload_n 1, 1) := by decide +kernel
theorem d_Re_fileById_26 : decode prog_4_method_20_code 26 = .ok (.if_icmp .le 23, 3) := by decide +kernel
theorem d_Re_fileById_29 : decode prog_4_method_20_code 29 = .ok (.aload_n 0, 1) := by decide +kernel
theorem d_Re_fileById_30 : decode prog_4_method_20_code 30 = .ok (.getfield 30, 3) := by decide +kernel
theorem d_Re_fileById_33 : decode prog_4_method_20_code 33 = .ok (.iload_n 2, 1) := by decide +kernel
theorem d_Re_fileById_34 : decode prog_4_method_20_code 34 = .ok (.aload_n 0, 1) := by decide +kernel
theorem d_Re_fileById_35 : decode prog_4_method_20_code 35 = .ok (.getfield 30, 3) := by decide +kernel
theorem d_Re_fileById_38 : decode prog_4_method_20_code 38 = .ok (.iload_n 2, 1) := by decide +kernel
theorem d_Re_fileById_39 : decode prog_4_method_20_code 39 = .ok (.iconst 1, 1) := by decide +kernel
theorem d_Re_fileById_40 : decode prog_4_method_20_code 40 = .ok (.isub, 1) := by decide +kernel
theorem d_Re_fileById_41 : decode prog_4_method_20_code 41 = .ok (.iaload, 1) := by decide +kernel
theorem d_Re_fileById_42 : decode prog_4_method_20_code 42 = .ok (.iastore, 1) := by decide +kernel
theorem d_Re_fileById_43 : decode prog_4_method_20_code 43 = .ok (.iinc 2 (-1), 3) := by decide +kernel
theorem d_Re_fileById_46 : decode prog_4_method_20_code 46 = .ok (.goto (-41), 3) := by decide +kernel
theorem d_Re_fileById_49 : decode prog_4_method_20_code 49 = .ok (.aload_n 0, 1) := by decide +kernel
theorem d_Re_fileById_50 : decode prog_4_method_20_code 50 = .ok (.getfield 30, 3) := by decide +kernel
theorem d_Re_fileById_53 : decode prog_4_method_20_code 53 = .ok (.iload_n 2, 1) := by decide +kernel
theorem d_Re_fileById_54 : decode prog_4_method_20_code 54 = .ok (.aload_n 0, 1) := by decide +kernel
theorem d_Re_fileById_55 : decode prog_4_method_20_code 55 = .ok (.getfield 36, 3) := by decide +kernel
theorem d_Re_fileById_58 : decode prog_4_method_20_code 58 = .ok (.iastore, 1) := by decide +kernel
theorem d_Re_fileById_59 : decode prog_4_method_20_code 59 = .ok (.return_, 1) := by decide +kernel
theorem d_Re_hasAppliedSameAs_0 : decode prog_4_method_21_code 0 = .ok (.aload_n 0, 1) := by decide +kernel
theorem d_Re_hasAppliedSameAs_1 : decode prog_4_method_21_code 1 = .ok (.getfield 36, 3) := by decide +kernel
theorem d_Re_hasAppliedSameAs_4 : decode prog_4_method_21_code 4 = .ok (.aload_n 1, 1) := by decide +kernel
theorem d_Re_hasAppliedSameAs_5 : decode prog_4_method_21_code 5 = .ok (.getfield 36, 3) := by decide +kernel
theorem d_Re_hasAppliedSameAs_8 : decode prog_4_method_21_code 8 = .ok (.if_icmp .eq 5, 3) := by decide +kernel
theorem d_Re_hasAppliedSameAs_11 : decode prog_4_method_21_code 11 = .ok (.iconst 0, 1) := by decide +kernel
theorem d_Re_hasAppliedSameAs_12 : decode prog_4_method_21_code 12 = .ok (.ireturn, 1) := by decide +kernel
theorem d_Re_hasAppliedSameAs_13 : decode prog_4_method_21_code 13 = .ok (.iconst 0, 1) := by decide +kernel
theorem d_Re_hasAppliedSameAs_14 : decode prog_4_method_21_code 14 = .ok (.istore_n 2, 1) := by decide +kernel
theorem d_Re_hasAppliedSameAs_15 : decode prog_4_method_21_code 15 = .ok (.iload_n 2, 1) := by decide +kernel
theorem d_Re_hasAppliedSameAs_16 : decode prog_4_method_21_code 16 = .ok (.aload_n 0, 1) := by decide +kernel
theorem d_Re_hasAppliedSameAs_17 : decode prog_4_method_21_code 17 = .ok (.getfield 36, 3) := by decide +kernel
theorem d_Re_hasAppliedSameAs_20 : decode prog_4_method_21_code 20 = .ok (.if_icmp .ge 52, 3) := by decide +kernel
theorem d_Re_hasAppliedSameAs_23 : decode prog_4_method_21_code 23 = .ok (.aload_n 1, 1) := by decide +kernel
theorem d_Re_hasAppliedSameAs_24 : decode prog_4_method_21_code 24 = .ok (.aload_n 0, 1) := by decide +kernel
theorem d_Re_hasAppliedSameAs_25 : decode prog_4_method_21_code 25 = .ok (.getfield 17, 3) := by decide +kernel
theorem d_Re_hasAppliedSameAs_28 : decode prog_4_method_21_code 28 = .ok (.iload_n 2, 1) := by decide +kernel
theorem d_Re_hasAppliedSameAs_29 : decode prog_4_method_21_code 29 = .ok (.aaload, 1) := by decide +kernel
theorem d_Re_hasAppliedSameAs_30 : decode prog_4_method_21_code 30 = .ok (.getfield 33, 3) := by decide +kernel
theorem d_Re_hasAppliedSameAs_33 : decode prog_4_method_21_code 33 = .ok (.aload_n 1, 1) := by decide +kernel
theorem d_Re_hasAppliedSameAs_34 : decode prog_4_method_21_code 34 = .ok (.getfield 36, 3) := by decide +kernel
theorem d_Re_hasAppliedSameAs_37 : decode prog_4_method_21_code 37 = .ok (.invokevirtual 39, 3) := by decide +kernel
theorem d_Re_hasAppliedSameAs_40 : decode prog_4_method_21_code 40 = .ok (.istore_n 3, 1) := by decide +kernel
theorem d_Re_hasAppliedSameAs_41 : decode prog_4_method_21_code 41 = .ok (.iload_n 3, 1) := by decide +kernel
theorem d_Re_hasAppliedSameAs_42 : decode prog_4_method_21_code 42 = .ok (.iconst (-1), 1) := by decide +kernel
theorem d_Re_hasAppliedSameAs_43 : decode prog_4_method_21_code 43 = .ok (.if_icmp .eq 21, 3) := by decide +kernel
theorem d_Re_hasAppliedSameAs_46 : decode prog_4_method_21_code 46 = .ok (.aload_n 0, 1) := by decide +kernel
theorem d_Re_hasAppliedSameAs_47 : decode prog_4_method_21_code 47 = .ok (.getfield 17, 3) := by decide +kernel
theorem d_Re_hasAppliedSameAs_50 : decode prog_4_method_21_code 50 = .ok (.iload_n 2, 1) := by decide +kernel
theorem d_Re_hasAppliedSameAs_51 : decode prog_4_method_21_code 51 = .ok (.aaload, 1) := by decide +kernel
theorem d_Re_hasAppliedSameAs_52 : decode prog_4_method_21_code 52 = .ok (.aload_n 1, 1) := by decide +kernel
theorem d_Re_hasAppliedSameAs_53 : decode prog_4_method_21_code 53 = .ok (.getfield 17, 3) := by decide +kernel
theorem d_Re_hasAppliedSameAs_56 : decode prog_4_method_21_code 56 = .ok (.iload_n 3, 1) := by decide +kernel
theorem d_Re_hasAppliedSameAs_57 : decode prog_4_method_21_code 57 = .ok (.aaload, 1) := by decide +kernel
theorem d_Re_hasAppliedSameAs_58 : decode prog_4_method_21_code 58 = .ok (.invokevirtual 97, 3) := by decide +kernel
theorem d_Re_hasAppliedSameAs_61 : decode prog_4_method_21_code 61 = .ok (.ifCond .ne 5, 3) := by decide +kernel
theorem d_Re_hasAppliedSameAs_64 : decode prog_4_method_21_code 64 = .ok (.iconst 0, 1) := by decide +kernel
theorem d_Re_hasAppliedSameAs_65 : decode prog_4_method_21_code 65 = .ok (.ireturn, 1) := by decide +kernel
theorem d_Re_hasAppliedSameAs_66 : decode prog_4_method_21_code 66 = .ok (.iinc 2 1, 3) := by decide +kernel
theorem d_Re_hasAppliedSameAs_69 : decode prog_4_method_21_code 69 = .ok (.goto (-54), 3) := by decide +kernel
theorem d_Re_hasAppliedSameAs_72 : decode prog_4_method_21_code 72 = .ok (.iconst 1, 1) := by decide +kernel
theorem d_Re_hasAppliedSameAs_73 : decode prog_4_method_21_code 73 = .ok (.ireturn, 1) := by decide +kernel
