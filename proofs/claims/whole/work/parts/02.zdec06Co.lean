/-! decode rows -/
theorem d_Co_addUpMap_65 : decode prog_2_method_13_code 65 = .ok (.iadd, 1) := by decide +kernel
theorem d_Co_addUpMap_66 : decode prog_2_method_13_code 66 = .ok (.istore_n 3, 1) := by decide +kernel
theorem d_Co_addUpMap_67 : decode prog_2_method_13_code 67 = .ok (.bipush 31, 2) := by decide +kernel
theorem d_Co_addUpMap_69 : decode prog_2_method_13_code 69 = .ok (.iload_n 3, 1) := by decide +kernel
theorem d_Co_addUpMap_70 : decode prog_2_method_13_code 70 = .ok (.imul, 1) := by decide +kernel
theorem d_Co_addUpMap_71 : decode prog_2_method_13_code 71 = .ok (.aload_n 0, 1) := by decide +kernel
theorem d_Co_addUpMap_72 : decode prog_2_method_13_code 72 = .ok (.getfield 15, 3) := by decide +kernel
theorem d_Co_addUpMap_75 : decode prog_2_method_13_code 75 = .ok (.iload 6, 2) := by decide +kernel
theorem d_Co_addUpMap_77 : decode prog_2_method_13_code 77 = .ok (.iaload, 1) := by decide +kernel
theorem d_Co_addUpMap_78 : decode prog_2_method_13_code 78 = .ok (.iadd, 1) := by decide +kernel
theorem d_Co_addUpMap_79 : decode prog_2_method_13_code 79 = .ok (.istore_n 3, 1) := by decide +kernel
theorem d_Co_addUpMap_80 : decode prog_2_method_13_code 80 = .ok (.iinc 5 1, 3) := by decide +kernel
theorem d_Co_addUpMap_83 : decode prog_2_method_13_code 83 = .ok (.goto (-68), 3) := by decide +kernel
theorem d_Co_addUpMap_86 : decode prog_2_method_13_code 86 = .ok (.iinc 4 1, 3) := by decide +kernel
theorem d_Co_addUpMap_89 : decode prog_2_method_13_code 89 = .ok (.goto (-83), 3) := by decide +kernel
theorem d_Co_addUpMap_92 : decode prog_2_method_13_code 92 = .ok (.iload_n 3, 1) := by decide +kernel
theorem d_Co_addUpMap_93 : decode prog_2_method_13_code 93 = .ok (.ireturn, 1) := by decide +kernel
theorem d_Co_addUpList_0 : decode prog_2_method_14_code 0 = .ok (.aload_n 0, 1) := by decide +kernel
theorem d_Co_addUpList_1 : decode prog_2_method_14_code 1 = .ok (.aload_n 1, 1) := by decide +kernel
theorem d_Co_addUpList_2 : decode prog_2_method_14_code 2 = .ok (.iload_n 2, 1) := by decide +kernel
theorem d_Co_addUpList_3 : decode prog_2_method_14_code 3 = .ok (.invokevirtual 69, 3) := by decide +kernel
theorem d_Co_addUpList_6 : decode prog_2_method_14_code 6 = .ok (.istore_n 3, 1) := by decide +kernel
theorem d_Co_addUpList_7 : decode prog_2_method_14_code 7 = .ok (.bipush 11, 2) := by decide +kernel
theorem d_Co_addUpList_9 : decode prog_2_method_14_code 9 = .ok (.istore 4, 2) := by decide +kernel
theorem d_Co_addUpList_11 : decode prog_2_method_14_code 11 = .ok (.iconst 0, 1) := by decide +kernel
theorem d_Co_addUpList_12 : decode prog_2_method_14_code 12 = .ok (.istore 5, 2) := by decide +kernel
theorem d_Co_addUpList_14 : decode prog_2_method_14_code 14 = .ok (.iload 5, 2) := by decide +kernel
theorem d_Co_addUpList_16 : decode prog_2_method_14_code 16 = .ok (.iload_n 3, 1) := by decide +kernel
theorem d_Co_addUpList_17 : decode prog_2_method_14_code 17 = .ok (.if_icmp .ge 61, 3) := by decide +kernel
theorem d_Co_addUpList_20 : decode prog_2_method_14_code 20 = .ok (.aload_n 0, 1) := by decide +kernel
theorem d_Co_addUpList_21 : decode prog_2_method_14_code 21 = .ok (.getfield 9, 3) := by decide +kernel
theorem d_Co_addUpList_24 : decode prog_2_method_14_code 24 = .ok (.iload 5, 2) := by decide +kernel
theorem d_Co_addUpList_26 : decode prog_2_method_14_code 26 = .ok (.iaload, 1) := by decide +kernel
theorem d_Co_addUpList_27 : decode prog_2_method_14_code 27 = .ok (.istore 6, 2) := by decide +kernel
theorem d_Co_addUpList_29 : decode prog_2_method_14_code 29 = .ok (.aload_n 0, 1) := by decide +kernel
theorem d_Co_addUpList_30 : decode prog_2_method_14_code 30 = .ok (.aload_n 1, 1) := by decide +kernel
theorem d_Co_addUpList_31 : decode prog_2_method_14_code 31 = .ok (.iload 6, 2) := by decide +kernel
theorem d_Co_addUpList_33 : decode prog_2_method_14_code 33 = .ok (.invokevirtual 73, 3) := by decide +kernel
theorem d_Co_addUpList_36 : decode prog_2_method_14_code 36 = .ok (.ifCond .ne 36, 3) := by decide +kernel
theorem d_Co_addUpList_39 : decode prog_2_method_14_code 39 = .ok (.bipush 31, 2) := by decide +kernel
theorem d_Co_addUpList_41 : decode prog_2_method_14_code 41 = .ok (.iload 4, 2) := by decide +kernel
theorem d_Co_addUpList_43 : decode prog_2_method_14_code 43 = .ok (.imul, 1) := by decide +kernel
theorem d_Co_addUpList_44 : decode prog_2_method_14_code 44 = .ok (.sipush 128, 3) := by decide +kernel
theorem d_Co_addUpList_47 : decode prog_2_method_14_code 47 = .ok (.aload_n 1, 1) := by decide +kernel
theorem d_Co_addUpList_48 : decode prog_2_method_14_code 48 = .ok (.getfield 31, 3) := by decide +kernel
theorem d_Co_addUpList_51 : decode prog_2_method_14_code 51 = .ok (.iload 6, 2) := by decide +kernel
theorem d_Co_addUpList_53 : decode prog_2_method_14_code 53 = .ok (.aaload, 1) := by decide +kernel
theorem d_Co_addUpList_54 : decode prog_2_method_14_code 54 = .ok (.getfield 35, 3) := by decide +kernel
theorem d_Co_addUpList_57 : decode prog_2_method_14_code 57 = .ok (.imul, 1) := by decide +kernel
theorem d_Co_addUpList_58 : decode prog_2_method_14_code 58 = .ok (.iadd, 1) := by decide +kernel
theorem d_Co_addUpList_59 : decode prog_2_method_14_code 59 = .ok (.aload_n 1, 1) := by decide +kernel
theorem d_Co_addUpList_60 : decode prog_2_method_14_code 60 = .ok (.getfield 31, 3) := by decide +kernel
theorem d_Co_addUpList_63 : decode prog_2_method_14_code 63 = .ok (.iload 6, 2) := by decide +kernel
theorem d_Co_addUpList_65 : decode prog_2_method_14_code 65 = .ok (.aaload, 1) := by decide +kernel
theorem d_Co_addUpList_66 : decode prog_2_method_14_code 66 = .ok (.getfield 93, 3) := by decide +kernel
theorem d_Co_addUpList_69 : decode prog_2_method_14_code 69 = .ok (.iadd, 1) := by decide +kernel
theorem d_Co_addUpList_70 : decode prog_2_method_14_code 70 = .ok (.istore 4, 2) := by decide +kernel
theorem d_Co_addUpList_72 : decode prog_2_method_14_code 72 = .ok (.iinc 5 1, 3) := by decide +kernel
theorem d_Co_addUpList_75 : decode prog_2_method_14_code 75 = .ok (.goto (-61), 3) := by decide +kernel
theorem d_Co_addUpList_78 : decode prog_2_method_14_code 78 = .ok (.iload 4, 2) := by decide +kernel
theorem d_Co_addUpList_80 : decode prog_2_method_14_code 80 = .ok (.ireturn, 1) := by decide +kernel
