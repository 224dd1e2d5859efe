/-! decode rows -/
theorem d_Wi_init_0 : decode prog_5_method_1_code 0 = .ok (.aload_n 0, 1) := by decide +kernel
theorem d_Wi_init_1 : decode prog_5_method_1_code 1 = .ok (.invokespecial 3, 3) := by decide +kernel
theorem d_Wi_init_4 : decode prog_5_method_1_code 4 = .ok (.aload_n 0, 1) := by decide +kernel
theorem d_Wi_init_5 : decode prog_5_method_1_code 5 = .ok (.bipush 16, 2) := by decide +kernel
theorem d_Wi_init_7 : decode prog_5_method_1_code 7 = .ok (.newarray .int, 2) := by decide +kernel
theorem d_Wi_init_9 : decode prog_5_method_1_code 9 = .ok (.putfield 9, 3) := by decide +kernel
theorem d_Wi_init_12 : decode prog_5_method_1_code 12 = .ok (.return_, 1) := by decide +kernel
theorem d_Wi_byteAt_0 : decode prog_5_method_2_code 0 = .ok (.iload_n 1, 1) := by decide +kernel
theorem d_Wi_byteAt_1 : decode prog_5_method_2_code 1 = .ok (.ifCond .lt 20, 3) := by decide +kernel
theorem d_Wi_byteAt_4 : decode prog_5_method_2_code 4 = .ok (.iload_n 1, 1) := by decide +kernel
theorem d_Wi_byteAt_5 : decode prog_5_method_2_code 5 = .ok (.aload_n 0, 1) := by decide +kernel
theorem d_Wi_byteAt_6 : decode prog_5_method_2_code 6 = .ok (.getfield 15, 3) := by decide +kernel
theorem d_Wi_byteAt_9 : decode prog_5_method_2_code 9 = .ok (.if_icmp .ge 12, 3) := by decide +kernel
theorem d_Wi_byteAt_12 : decode prog_5_method_2_code 12 = .ok (.aload_n 0, 1) := by decide +kernel
theorem d_Wi_byteAt_13 : decode prog_5_method_2_code 13 = .ok (.getfield 9, 3) := by decide +kernel
theorem d_Wi_byteAt_16 : decode prog_5_method_2_code 16 = .ok (.iload_n 1, 1) := by decide +kernel
theorem d_Wi_byteAt_17 : decode prog_5_method_2_code 17 = .ok (.iaload, 1) := by decide +kernel
theorem d_Wi_byteAt_18 : decode prog_5_method_2_code 18 = .ok (.goto 4, 3) := by decide +kernel
theorem d_Wi_byteAt_21 : decode prog_5_method_2_code 21 = .ok (.iconst (-1), 1) := by decide +kernel
theorem d_Wi_byteAt_22 : decode prog_5_method_2_code 22 = .ok (.ireturn, 1) := by decide +kernel
theorem d_Wi_change_0 : decode prog_5_method_3_code 0 = .ok (.iload_n 1, 1) := by decide +kernel
theorem d_Wi_change_1 : decode prog_5_method_3_code 1 = .ok (.ifCond .lt 28, 3) := by decide +kernel
theorem d_Wi_change_4 : decode prog_5_method_3_code 4 = .ok (.iload_n 1, 1) := by decide +kernel
theorem d_Wi_change_5 : decode prog_5_method_3_code 5 = .ok (.aload_n 0, 1) := by decide +kernel
theorem d_Wi_change_6 : decode prog_5_method_3_code 6 = .ok (.getfield 15, 3) := by decide +kernel
theorem d_Wi_change_9 : decode prog_5_method_3_code 9 = .ok (.if_icmp .gt 20, 3) := by decide +kernel
theorem d_Wi_change_12 : decode prog_5_method_3_code 12 = .ok (.iload_n 1, 1) := by decide +kernel
theorem d_Wi_change_13 : decode prog_5_method_3_code 13 = .ok (.bipush 16, 2) := by decide +kernel
theorem d_Wi_change_15 : decode prog_5_method_3_code 15 = .ok (.if_icmp .ge 14, 3) := by decide +kernel
theorem d_Wi_change_18 : decode prog_5_method_3_code 18 = .ok (.iload_n 2, 1) := by decide +kernel
theorem d_Wi_change_19 : decode prog_5_method_3_code 19 = .ok (.ifCond .lt 10, 3) := by decide +kernel
theorem d_Wi_change_22 : decode prog_5_method_3_code 22 = .ok (.iload_n 2, 1) := by decide +kernel
theorem d_Wi_change_23 : decode prog_5_method_3_code 23 = .ok (.sipush 255, 3) := by decide +kernel
theorem d_Wi_change_26 : decode prog_5_method_3_code 26 = .ok (.if_icmp .le 5, 3) := by decide +kernel
theorem d_Wi_change_29 : decode prog_5_method_3_code 29 = .ok (.iconst 0, 1) := by decide +kernel
theorem d_Wi_change_30 : decode prog_5_method_3_code 30 = .ok (.ireturn, 1) := by decide +kernel
theorem d_Wi_change_31 : decode prog_5_method_3_code 31 = .ok (.aload_n 0, 1) := by decide +kernel
theorem d_Wi_change_32 : decode prog_5_method_3_code 32 = .ok (.getfield 9, 3) := by decide +kernel
theorem d_Wi_change_35 : decode prog_5_method_3_code 35 = .ok (.iload_n 1, 1) := by decide +kernel
theorem d_Wi_change_36 : decode prog_5_method_3_code 36 = .ok (.iload_n 2, 1) := by decide +kernel
theorem d_Wi_change_37 : decode prog_5_method_3_code 37 = .ok (.iastore, 1) := by decide +kernel
theorem d_Wi_change_38 : decode prog_5_method_3_code 38 = .ok (.aload_n 0, 1) := by decide +kernel
theorem d_Wi_change_39 : decode prog_5_method_3_code 39 = .ok (.aload_n 0, 1) := by decide +kernel
theorem d_Wi_change_40 : decode prog_5_method_3_code 40 = .ok (.getfield 15, 3) := by decide +kernel
theorem d_Wi_change_43 : decode prog_5_method_3_code 43 = .ok (.iload_n 1, 1) := by decide +kernel
theorem d_Wi_change_44 : decode prog_5_method_3_code 44 = .ok (.iconst 1, 1) := by decide +kernel
theorem d_Wi_change_45 : decode prog_5_method_3_code 45 = .ok (.iadd, 1) := by decide +kernel
theorem d_Wi_change_46 : decode prog_5_method_3_code 46 = .ok (.invokestatic 19, 3) := by decide +kernel
theorem d_Wi_change_49 : decode prog_5_method_3_code 49 = .ok (.putfield 15, 3) := by decide +kernel
theorem d_Wi_change_52 : decode prog_5_method_3_code 52 = .ok (.iconst 1, 1) := by decide +kernel
theorem d_Wi_change_53 : decode prog_5_method_3_code 53 = .ok (.ireturn, 1) := by decide +kernel
theorem d_Wi_shorten_0 : decode prog_5_method_4_code 0 = .ok (.iload_n 1, 1) := by decide +kernel
theorem d_Wi_shorten_1 : decode prog_5_method_4_code 1 = .ok (.ifCond .lt 11, 3) := by decide +kernel
theorem d_Wi_shorten_4 : decode prog_5_method_4_code 4 = .ok (.iload_n 1, 1) := by decide +kernel
theorem d_Wi_shorten_5 : decode prog_5_method_4_code 5 = .ok (.aload_n 0, 1) := by decide +kernel
theorem d_Wi_shorten_6 : decode prog_5_method_4_code 6 = .ok (.getfield 15, 3) := by decide +kernel
theorem d_Wi_shorten_9 : decode prog_5_method_4_code 9 = .ok (.if_icmp .le 5, 3) := by decide +kernel
theorem d_Wi_shorten_12 : decode prog_5_method_4_code 12 = .ok (.iconst 0, 1) := by decide +kernel
theorem d_Wi_shorten_13 : decode prog_5_method_4_code 13 = .ok (.ireturn, 1) := by decide +kernel
theorem d_Wi_shorten_14 : decode prog_5_method_4_code 14 = .ok (.aload_n 0, 1) := by decide +kernel
theorem d_Wi_shorten_15 : decode prog_5_method_4_code 15 = .ok (.iload_n 1, 1) := by decide +kernel
theorem d_Wi_shorten_16 : decode prog_5_method_4_code 16 = .ok (.putfield 15, 3) := by decide +kernel
theorem d_Wi_shorten_19 : decode prog_5_method_4_code 19 = .ok (.iconst 1, 1) := by decide +kernel
theorem d_Wi_shorten_20 : decode prog_5_method_4_code 20 = .ok (.ireturn, 1) := by decide +kernel
theorem d_Wi_write_0 : decode prog_5_method_5_code 0 = .ok (.aload_n 0, 1) := by decide +kernel
theorem d_Wi_write_1 : decode prog_5_method_5_code 1 = .ok (.getfield 9, 3) := by decide +kernel
theorem d_Wi_write_4 : decode prog_5_method_5_code 4 = .ok (.iconst 0, 1) := by decide +kernel
theorem d_Wi_write_5 : decode prog_5_method_5_code 5 = .ok (.aload_n 1, 1) := by decide +kernel
theorem d_Wi_write_6 : decode prog_5_method_5_code 6 = .ok (.getfield 25, 3) := by decide +kernel
theorem d_Wi_write_9 : decode prog_5_method_5_code 9 = .ok (.iastore, 1) := by decide +kernel
theorem d_Wi_write_10 : decode prog_5_method_5_code 10 = .ok (.aload_n 0, 1) := by decide +kernel
theorem d_Wi_write_11 : decode prog_5_method_5_code 11 = .ok (.getfield 9, 3) := by decide +kernel
theorem d_Wi_write_14 : decode prog_5_method_5_code 14 = .ok (.iconst 1, 1) := by decide +kernel
theorem d_Wi_write_15 : decode prog_5_method_5_code 15 = .ok (.aload_n 1, 1) := by decide +kernel
theorem d_Wi_write_16 : decode prog_5_method_5_code 16 = .ok (.getfield 30, 3) := by decide +kernel
theorem d_Wi_write_19 : decode prog_5_method_5_code 19 = .ok (.iastore, 1) := by decide +kernel
theorem d_Wi_write_20 : decode prog_5_method_5_code 20 = .ok (.aload_n 0, 1) := by decide +kernel
theorem d_Wi_write_21 : decode prog_5_method_5_code 21 = .ok (.getfield 9, 3) := by decide +kernel
theorem d_Wi_write_24 : decode prog_5_method_5_code 24 = .ok (.iconst 2, 1) := by decide +kernel
theorem d_Wi_write_25 : decode prog_5_method_5_code 25 = .ok (.aload_n 1, 1) := by decide +kernel
theorem d_Wi_write_26 : decode prog_5_method_5_code 26 = .ok (.getfield 33, 3) := by decide +kernel
theorem d_Wi_write_29 : decode prog_5_method_5_code 29 = .ok (.iastore, 1) := by decide +kernel
theorem d_Wi_write_30 : decode prog_5_method_5_code 30 = .ok (.aload_n 0, 1) := by decide +kernel
theorem d_Wi_write_31 : decode prog_5_method_5_code 31 = .ok (.getfield 9, 3) := by decide +kernel
theorem d_Wi_write_34 : decode prog_5_method_5_code 34 = .ok (.iconst 3, 1) := by decide +kernel
theorem d_Wi_write_35 : decode prog_5_method_5_code 35 = .ok (.aload_n 1, 1) := by decide +kernel
theorem d_Wi_write_36 : decode prog_5_method_5_code 36 = .ok (.getfield 36, 3) := by decide +kernel
theorem d_Wi_write_39 : decode prog_5_method_5_code 39 = .ok (.iastore, 1) := by decide +kernel
theorem d_Wi_write_40 : decode prog_5_method_5_code 40 = .ok (.aload_n 0, 1) := by decide +kernel
theorem d_Wi_write_41 : decode prog_5_method_5_code 41 = .ok (.getfield 9, 3) := by decide +kernel
theorem d_Wi_write_44 : decode prog_5_method_5_code 44 = .ok (.iconst 4, 1) := by decide +kernel
theorem d_Wi_write_45 : decode prog_5_method_5_code 45 = .ok (.aload_n 1, 1) := by decide +kernel
theorem d_Wi_write_46 : decode prog_5_method_5_code 46 = .ok (.getfield 39, 3) := by decide +kernel
theorem d_Wi_write_49 : decode prog_5_method_5_code 49 = .ok (.iastore, 1) := by decide +kernel
theorem d_Wi_write_50 : decode prog_5_method_5_code 50 = .ok (.aload_n 0, 1) := by decide +kernel
theorem d_Wi_write_51 : decode prog_5_method_5_code 51 = .ok (.getfield 9, 3) := by decide +kernel
theorem d_Wi_write_54 : decode prog_5_method_5_code 54 = .ok (.iconst 5, 1) := by decide +kernel
theorem d_Wi_write_55 : decode prog_5_method_5_code 55 = .ok (.aload_n 1, 1) := by decide +kernel
theorem d_Wi_write_56 : decode prog_5_method_5_code 56 = .ok (.getfield 42, 3) := by decide +kernel
theorem d_Wi_write_59 : decode prog_5_method_5_code 59 = .ok (.iastore, 1) := by decide +kernel
theorem d_Wi_write_60 : decode prog_5_method_5_code 60 = .ok (.aload_n 1, 1) := by decide +kernel
theorem d_Wi_write_61 : decode prog_5_method_5_code 61 = .ok (.getfield 45, 3) := by decide +kernel
theorem d_Wi_write_64 : decode prog_5_method_5_code 64 = .ok (.iconst 0, 1) := by decide +kernel
theorem d_Wi_write_65 : decode prog_5_method_5_code 65 = .ok (.aload_n 0, 1) := by decide +kernel
theorem d_Wi_write_66 : decode prog_5_method_5_code 66 = .ok (.getfield 9, 3) := by decide +kernel
theorem d_Wi_write_69 : decode prog_5_method_5_code 69 = .ok (.bipush 6, 2) := by decide +kernel
theorem d_Wi_write_71 : decode prog_5_method_5_code 71 = .ok (.aload_n 1, 1) := by decide +kernel
theorem d_Wi_write_72 : decode prog_5_method_5_code 72 = .ok (.getfield 42, 3) := by decide +kernel
theorem d_Wi_write_75 : decode prog_5_method_5_code 75 = .ok (.invokestatic 48, 3) := by decide +kernel
theorem d_Wi_write_78 : decode prog_5_method_5_code 78 = .ok (.aload_n 0, 1) := by decide +kernel
theorem d_Wi_write_79 : decode prog_5_method_5_code 79 = .ok (.bipush 6, 2) := by decide +kernel
theorem d_Wi_write_81 : decode prog_5_method_5_code 81 = .ok (.aload_n 1, 1) := by decide +kernel
theorem d_Wi_write_82 : decode prog_5_method_5_code 82 = .ok (.getfield 42, 3) := by decide +kernel
theorem d_Wi_write_85 : decode prog_5_method_5_code 85 = .ok (.iadd, 1) := by decide +kernel
theorem d_Wi_write_86 : decode prog_5_method_5_code 86 = .ok (.putfield 15, 3) := by decide +kernel
theorem d_Wi_write_89 : decode prog_5_method_5_code 89 = .ok (.return_, 1) := by decide +kernel
theorem d_Wi_readInto_0 : decode prog_5_method_6_code 0 = .ok (.aload_n 0, 1) := by decide +kernel
theorem d_Wi_readInto_1 : decode prog_5_method_6_code 1 = .ok (.getfield 15, 3) := by decide +kernel
theorem d_Wi_readInto_4 : decode prog_5_method_6_code 4 = .ok (.bipush 6, 2) := by decide +kernel
theorem d_Wi_readInto_6 : decode prog_5_method_6_code 6 = .ok (.if_icmp .lt 30, 3) := by decide +kernel
theorem d_Wi_readInto_9 : decode prog_5_method_6_code 9 = .ok (.aload_n 0, 1) := by decide +kernel
theorem d_Wi_readInto_10 : decode prog_5_method_6_code 10 = .ok (.getfield 9, 3) := by decide +kernel
theorem d_Wi_readInto_13 : decode prog_5_method_6_code 13 = .ok (.iconst 5, 1) := by decide +kernel
theorem d_Wi_readInto_14 : decode prog_5_method_6_code 14 = .ok (.iaload, 1) := by decide +kernel
theorem d_Wi_readInto_15 : decode prog_5_method_6_code 15 = .ok (.bipush 6, 2) := by decide +kernel
theorem d_Wi_readInto_17 : decode prog_5_method_6_code 17 = .ok (.if_icmp .gt 19, 3) := by decide +kernel
theorem d_Wi_readInto_20 : decode prog_5_method_6_code 20 = .ok (.aload_n 0, 1) := by decide +kernel
theorem d_Wi_readInto_21 : decode prog_5_method_6_code 21 = .ok (.getfield 15, 3) := by decide +kernel
theorem d_Wi_readInto_24 : decode prog_5_method_6_code 24 = .ok (.bipush 6, 2) := by decide +kernel
theorem d_Wi_readInto_26 : decode prog_5_method_6_code 26 = .ok (.aload_n 0, 1) := by decide +kernel
theorem d_Wi_readInto_27 : decode prog_5_method_6_code 27 = .ok (.getfield 9, 3) := by decide +kernel
theorem d_Wi_readInto_30 : decode prog_5_method_6_code 30 = .ok (.iconst 5, 1) := by decide +kernel
theorem d_Wi_readInto_31 : decode prog_5_method_6_code 31 = .ok (.iaload, 1) := by decide +kernel
theorem d_Wi_readInto_32 : decode prog_5_method_6_code 32 = .ok (.iadd, 1) := by decide +kernel
theorem d_Wi_readInto_33 : decode prog_5_method_6_code 33 = .ok (.if_icmp .eq 5, 3) := by decide +kernel
theorem d_Wi_readInto_36 : decode prog_5_method_6_code 36 = .ok (.iconst 0, 1) := by decide +kernel
theorem d_Wi_readInto_37 : decode prog_5_method_6_code 37 = .ok (.ireturn, 1) := by decide +kernel
theorem d_Wi_readInto_38 : decode prog_5_method_6_code 38 = .ok (.aload_n 1, 1) := by decide +kernel
theorem d_Wi_readInto_39 : decode prog_5_method_6_code 39 = .ok (.aload_n 0, 1) := by decide +kernel
theorem d_Wi_readInto_40 : decode prog_5_method_6_code 40 = .ok (.getfield 9, 3) := by decide +kernel
theorem d_Wi_readInto_43 : decode prog_5_method_6_code 43 = .ok (.iconst 0, 1) := by decide +kernel
theorem d_Wi_readInto_44 : decode prog_5_method_6_code 44 = .ok (.iaload, 1) := by decide +kernel
theorem d_Wi_readInto_45 : decode prog_5_method_6_code 45 = .ok (.aload_n 0, 1) := by decide +kernel
theorem d_Wi_readInto_46 : decode prog_5_method_6_code 46 = .ok (.getfield 9, 3) := by decide +kernel
theorem d_Wi_readInto_49 : decode prog_5_method_6_code 49 = .ok (.iconst 1, 1) := by decide +kernel
theorem d_Wi_readInto_50 : decode prog_5_method_6_code 50 = .ok (.iaload, 1) := by decide +kernel
theorem d_Wi_readInto_51 : decode prog_5_method_6_code 51 = .ok (.aload_n 0, 1) := by decide +kernel
theorem d_Wi_readInto_52 : decode prog_5_method_6_code 52 = .ok (.getfield 9, 3) := by decide +kernel
theorem d_Wi_readInto_55 : decode prog_5_method_6_code 55 = .ok (.iconst 2, 1) := by decide +kernel
theorem d_Wi_readInto_56 : decode prog_5_method_6_code 56 = .ok (.iaload, 1) := by decide +kernel
theorem d_Wi_readInto_57 : decode prog_5_method_6_code 57 = .ok (.aload_n 0, 1) := by decide +kernel
theorem d_Wi_readInto_58 : decode prog_5_method_6_code 58 = .ok (.getfield 9, 3) := by decide +kernel
theorem d_Wi_readInto_61 : decode prog_5_method_6_code 61 = .ok (.iconst 3, 1) := by decide +kernel
theorem d_Wi_readInto_62 : decode prog_5_method_6_code 62 = .ok (.iaload, 1) := by decide +kernel
theorem d_Wi_readInto_63 : decode prog_5_method_6_code 63 = .ok (.aload_n 0, 1) := by decide +kernel
theorem d_Wi_readInto_64 : decode prog_5_method_6_code 64 = .ok (.getfield 9, 3) := by decide +kernel
theorem d_Wi_readInto_67 : decode prog_5_method_6_code 67 = .ok (.iconst 4, 1) := by decide +kernel
theorem d_Wi_readInto_68 : decode prog_5_method_6_code 68 = .ok (.iaload, 1) := by decide +kernel
theorem d_Wi_readInto_69 : decode prog_5_method_6_code 69 = .ok (.invokevirtual 54, 3) := by decide +kernel
theorem d_Wi_readInto_72 : decode prog_5_method_6_code 72 = .ok (.iconst 0, 1) := by decide +kernel
theorem d_Wi_readInto_73 : decode prog_5_method_6_code 73 = .ok (.istore_n 2, 1) := by decide +kernel
theorem d_Wi_readInto_74 : decode prog_5_method_6_code 74 = .ok (.bipush 6, 2) := by decide +kernel
theorem d_Wi_readInto_76 : decode prog_5_method_6_code 76 = .ok (.istore_n 3, 1) := by decide +kernel
theorem d_Wi_readInto_77 : decode prog_5_method_6_code 77 = .ok (.iload_n 3, 1) := by decide +kernel
theorem d_Wi_readInto_78 : decode prog_5_method_6_code 78 = .ok (.aload_n 0, 1) := by decide +kernel
theorem d_Wi_readInto_79 : decode prog_5_method_6_code 79 = .ok (.getfield 15, 3) := by decide +kernel
theorem d_Wi_readInto_82 : decode prog_5_method_6_code 82 = .ok (.if_icmp .ge 53, 3) := by decide +kernel
theorem d_Wi_readInto_85 : decode prog_5_method_6_code 85 = .ok (.aload_n 0, 1) := by decide +kernel
theorem d_Wi_readInto_86 : decode prog_5_method_6_code 86 = .ok (.getfield 9, 3) := by decide +kernel
theorem d_Wi_readInto_89 : decode prog_5_method_6_code 89 = .ok (.iload_n 3, 1) := by decide +kernel
theorem d_Wi_readInto_90 : decode prog_5_method_6_code 90 = .ok (.iaload, 1) := by decide +kernel
theorem d_Wi_readInto_91 : decode prog_5_method_6_code 91 = .ok (.invokestatic 58, 3) := by decide +kernel
theorem d_Wi_readInto_94 : decode prog_5_method_6_code 94 = .ok (.ifCond .eq 26, 3) := by decide +kernel
theorem d_Wi_readInto_97 : decode prog_5_method_6_code 97 = .ok (.aload_n 0, 1) := by decide +kernel
theorem d_Wi_readInto_98 : decode prog_5_method_6_code 98 = .ok (.getfield 9, 3) := by decide +kernel
theorem d_Wi_readInto_101 : decode prog_5_method_6_code 101 = .ok (.iload_n 3, 1) := by decide +kernel
theorem d_Wi_readInto_102 : decode prog_5_method_6_code 102 = .ok (.iaload, 1) := by decide +kernel
theorem d_Wi_readInto_103 : decode prog_5_method_6_code 103 = .ok (.iload_n 2, 1) := by decide +kernel
theorem d_Wi_readInto_104 : decode prog_5_method_6_code 104 = .ok (.if_icmp .le 16, 3) := by decide +kernel
theorem d_Wi_readInto_107 : decode prog_5_method_6_code 107 = .ok (.aload_n 1, 1) := by decide +kernel
theorem d_Wi_readInto_108 : decode prog_5_method_6_code 108 = .ok (.aload_n 0, 1) := by decide +kernel
theorem d_Wi_readInto_109 : decode prog_5_method_6_code 109 = .ok (.getfield 9, 3) := by decide +kernel
theorem d_Wi_readInto_112 : decode prog_5_method_6_code 112 = .ok (.iload_n 3, 1) := by decide +kernel
theorem d_Wi_readInto_113 : decode prog_5_method_6_code 113 = .ok (.iaload, 1) := by decide +kernel
theorem d_Wi_readInto_114 : decode prog_5_method_6_code 114 = .ok (.invokevirtual 62, 3) := by decide +kernel
theorem d_Wi_readInto_117 : decode prog_5_method_6_code 117 = .ok (.ifCond .ne 5, 3) := by decide +kernel
theorem d_Wi_readInto_120 : decode prog_5_method_6_code 120 = .ok (.iconst 0, 1) := by decide +kernel
theorem d_Wi_readInto_121 : decode prog_5_method_6_code 121 = .ok (.ireturn, 1) := by decide +kernel
theorem d_Wi_readInto_122 : decode prog_5_method_6_code 122 = .ok (.aload_n 0, 1) := by decide +kernel
theorem d_Wi_readInto_123 : decode prog_5_method_6_code 123 = .ok (.getfield 9, 3) := by decide +kernel
theorem d_Wi_readInto_126 : decode prog_5_method_6_code 126 = .ok (.iload_n 3, 1) := by decide +kernel
theorem d_Wi_readInto_127 : decode prog_5_method_6_code 127 = .ok (.iaload, 1) := by decide +kernel
theorem d_Wi_readInto_128 : decode prog_5_method_6_code 128 = .ok (.istore_n 2, 1) := by decide +kernel
theorem d_Wi_readInto_129 : decode prog_5_method_6_code 129 = .ok (.iinc 3 1, 3) := by decide +kernel
theorem d_Wi_readInto_132 : decode prog_5_method_6_code 132 = .ok (.goto (-55), 3) := by decide +kernel
theorem d_Wi_readInto_135 : decode prog_5_method_6_code 135 = .ok (.aload_n 1, 1) := by decide +kernel
theorem d_Wi_readInto_136 : decode prog_5_method_6_code 136 = .ok (.getfield 25, 3) := by decide +kernel
theorem d_Wi_readInto_139 : decode prog_5_method_6_code 139 = .ok (.invokestatic 58, 3) := by decide +kernel
theorem d_Wi_readInto_142 : decode prog_5_method_6_code 142 = .ok (.ifCond .eq 14, 3) := by decide +kernel
theorem d_Wi_readInto_145 : decode prog_5_method_6_code 145 = .ok (.aload_n 1, 1) := by decide +kernel
theorem d_Wi_readInto_146 : decode prog_5_method_6_code 146 = .ok (.invokevirtual 65, 3) := by decide +kernel
theorem d_Wi_readInto_149 : decode prog_5_method_6_code 149 = .ok (.ifCond .eq 7, 3) := by decide +kernel
theorem d_Wi_readInto_152 : decode prog_5_method_6_code 152 = .ok (.iconst 1, 1) := by decide +kernel
theorem d_Wi_readInto_153 : decode prog_5_method_6_code 153 = .ok (.goto 4, 3) := by decide +kernel
theorem d_Wi_readInto_156 : decode prog_5_method_6_code 156 = .ok (.iconst 0, 1) := by decide +kernel
theorem d_Wi_readInto_157 : decode prog_5_method_6_code 157 = .ok (.ireturn, 1) := by decide +kernel
