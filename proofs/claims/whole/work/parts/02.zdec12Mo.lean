/-! decode rows -/
theorem d_Mo_ahead_57 : decode prog_7_method_39_code 57 = .ok (.iload 6, 2) := by decide +kernel
theorem d_Mo_ahead_59 : decode prog_7_method_39_code 59 = .ok (.if_icmp .ne 15, 3) := by decide +kernel
theorem d_Mo_ahead_62 : decode prog_7_method_39_code 62 = .ok (.iload_n 3, 1) := by decide +kernel
theorem d_Mo_ahead_63 : decode prog_7_method_39_code 63 = .ok (.iload 4, 2) := by decide +kernel
theorem d_Mo_ahead_65 : decode prog_7_method_39_code 65 = .ok (.if_icmp .ge 7, 3) := by decide +kernel
theorem d_Mo_ahead_68 : decode prog_7_method_39_code 68 = .ok (.iconst 1, 1) := by decide +kernel
theorem d_Mo_ahead_69 : decode prog_7_method_39_code 69 = .ok (.goto 4, 3) := by decide +kernel
theorem d_Mo_ahead_72 : decode prog_7_method_39_code 72 = .ok (.iconst 0, 1) := by decide +kernel
theorem d_Mo_ahead_73 : decode prog_7_method_39_code 73 = .ok (.ireturn, 1) := by decide +kernel
theorem d_Mo_ahead_74 : decode prog_7_method_39_code 74 = .ok (.iconst 0, 1) := by decide +kernel
theorem d_Mo_ahead_75 : decode prog_7_method_39_code 75 = .ok (.istore 7, 2) := by decide +kernel
theorem d_Mo_ahead_77 : decode prog_7_method_39_code 77 = .ok (.iload 7, 2) := by decide +kernel
theorem d_Mo_ahead_79 : decode prog_7_method_39_code 79 = .ok (.bipush 16, 2) := by decide +kernel
theorem d_Mo_ahead_81 : decode prog_7_method_39_code 81 = .ok (.if_icmp .ge 44, 3) := by decide +kernel
theorem d_Mo_ahead_84 : decode prog_7_method_39_code 84 = .ok (.aload_n 0, 1) := by decide +kernel
theorem d_Mo_ahead_85 : decode prog_7_method_39_code 85 = .ok (.iload 5, 2) := by decide +kernel
theorem d_Mo_ahead_87 : decode prog_7_method_39_code 87 = .ok (.iconst 3, 1) := by decide +kernel
theorem d_Mo_ahead_88 : decode prog_7_method_39_code 88 = .ok (.invokevirtual 45, 3) := by decide +kernel
theorem d_Mo_ahead_91 : decode prog_7_method_39_code 91 = .ok (.aload_n 0, 1) := by decide +kernel
theorem d_Mo_ahead_92 : decode prog_7_method_39_code 92 = .ok (.iload 6, 2) := by decide +kernel
theorem d_Mo_ahead_94 : decode prog_7_method_39_code 94 = .ok (.iconst 3, 1) := by decide +kernel
theorem d_Mo_ahead_95 : decode prog_7_method_39_code 95 = .ok (.invokevirtual 45, 3) := by decide +kernel
theorem d_Mo_ahead_98 : decode prog_7_method_39_code 98 = .ok (.if_icmp .eq 27, 3) := by decide +kernel
theorem d_Mo_ahead_101 : decode prog_7_method_39_code 101 = .ok (.aload_n 0, 1) := by decide +kernel
theorem d_Mo_ahead_102 : decode prog_7_method_39_code 102 = .ok (.iload 5, 2) := by decide +kernel
theorem d_Mo_ahead_104 : decode prog_7_method_39_code 104 = .ok (.iconst 1, 1) := by decide +kernel
theorem d_Mo_ahead_105 : decode prog_7_method_39_code 105 = .ok (.invokevirtual 121, 3) := by decide +kernel
theorem d_Mo_ahead_108 : decode prog_7_method_39_code 108 = .ok (.istore 5, 2) := by decide +kernel
theorem d_Mo_ahead_110 : decode prog_7_method_39_code 110 = .ok (.aload_n 0, 1) := by decide +kernel
theorem d_Mo_ahead_111 : decode prog_7_method_39_code 111 = .ok (.iload 6, 2) := by decide +kernel
theorem d_Mo_ahead_113 : decode prog_7_method_39_code 113 = .ok (.iconst 1, 1) := by decide +kernel
theorem d_Mo_ahead_114 : decode prog_7_method_39_code 114 = .ok (.invokevirtual 121, 3) := by decide +kernel
theorem d_Mo_ahead_117 : decode prog_7_method_39_code 117 = .ok (.istore 6, 2) := by decide +kernel
theorem d_Mo_ahead_119 : decode prog_7_method_39_code 119 = .ok (.iinc 7 1, 3) := by decide +kernel
theorem d_Mo_ahead_122 : decode prog_7_method_39_code 122 = .ok (.goto (-45), 3) := by decide +kernel
theorem d_Mo_ahead_125 : decode prog_7_method_39_code 125 = .ok (.aload_n 0, 1) := by decide +kernel
theorem d_Mo_ahead_126 : decode prog_7_method_39_code 126 = .ok (.iload 5, 2) := by decide +kernel
theorem d_Mo_ahead_128 : decode prog_7_method_39_code 128 = .ok (.iconst 0, 1) := by decide +kernel
theorem d_Mo_ahead_129 : decode prog_7_method_39_code 129 = .ok (.invokevirtual 45, 3) := by decide +kernel
theorem d_Mo_ahead_132 : decode prog_7_method_39_code 132 = .ok (.aload_n 0, 1) := by decide +kernel
theorem d_Mo_ahead_133 : decode prog_7_method_39_code 133 = .ok (.iload 6, 2) := by decide +kernel
theorem d_Mo_ahead_135 : decode prog_7_method_39_code 135 = .ok (.iconst 0, 1) := by decide +kernel
theorem d_Mo_ahead_136 : decode prog_7_method_39_code 136 = .ok (.invokevirtual 45, 3) := by decide +kernel
theorem d_Mo_ahead_139 : decode prog_7_method_39_code 139 = .ok (.if_icmp .le 7, 3) := by decide +kernel
theorem d_Mo_ahead_142 : decode prog_7_method_39_code 142 = .ok (.iconst 1, 1) := by decide +kernel
theorem d_Mo_ahead_143 : decode prog_7_method_39_code 143 = .ok (.goto 4, 3) := by decide +kernel
theorem d_Mo_ahead_146 : decode prog_7_method_39_code 146 = .ok (.iconst 0, 1) := by decide +kernel
theorem d_Mo_ahead_147 : decode prog_7_method_39_code 147 = .ok (.ireturn, 1) := by decide +kernel
theorem d_Mo_elementPlace_0 : decode prog_7_method_40_code 0 = .ok (.iconst 0, 1) := by decide +kernel
theorem d_Mo_elementPlace_1 : decode prog_7_method_40_code 1 = .ok (.istore_n 3, 1) := by decide +kernel
theorem d_Mo_elementPlace_2 : decode prog_7_method_40_code 2 = .ok (.iconst 0, 1) := by decide +kernel
theorem d_Mo_elementPlace_3 : decode prog_7_method_40_code 3 = .ok (.istore 4, 2) := by decide +kernel
theorem d_Mo_elementPlace_5 : decode prog_7_method_40_code 5 = .ok (.iload 4, 2) := by decide +kernel
theorem d_Mo_elementPlace_7 : decode prog_7_method_40_code 7 = .ok (.aload_n 0, 1) := by decide +kernel
theorem d_Mo_elementPlace_8 : decode prog_7_method_40_code 8 = .ok (.getfield 13, 3) := by decide +kernel
theorem d_Mo_elementPlace_11 : decode prog_7_method_40_code 11 = .ok (.aload_n 0, 1) := by decide +kernel
theorem d_Mo_elementPlace_12 : decode prog_7_method_40_code 12 = .ok (.getfield 41, 3) := by decide +kernel
theorem d_Mo_elementPlace_15 : decode prog_7_method_40_code 15 = .ok (.iaload, 1) := by decide +kernel
theorem d_Mo_elementPlace_16 : decode prog_7_method_40_code 16 = .ok (.if_icmp .ge 113, 3) := by decide +kernel
theorem d_Mo_elementPlace_19 : decode prog_7_method_40_code 19 = .ok (.aload_n 0, 1) := by decide +kernel
theorem d_Mo_elementPlace_20 : decode prog_7_method_40_code 20 = .ok (.iload 4, 2) := by decide +kernel
theorem d_Mo_elementPlace_22 : decode prog_7_method_40_code 22 = .ok (.iload_n 1, 1) := by decide +kernel
theorem d_Mo_elementPlace_23 : decode prog_7_method_40_code 23 = .ok (.invokevirtual 124, 3) := by decide +kernel
theorem d_Mo_elementPlace_26 : decode prog_7_method_40_code 26 = .ok (.ifCond .eq 97, 3) := by decide +kernel
theorem d_Mo_elementPlace_29 : decode prog_7_method_40_code 29 = .ok (.aload_n 0, 1) := by decide +kernel
theorem d_Mo_elementPlace_30 : decode prog_7_method_40_code 30 = .ok (.iload 4, 2) := by decide +kernel
theorem d_Mo_elementPlace_32 : decode prog_7_method_40_code 32 = .ok (.invokevirtual 127, 3) := by decide +kernel
theorem d_Mo_elementPlace_35 : decode prog_7_method_40_code 35 = .ok (.ifCond .ne 88, 3) := by decide +kernel
theorem d_Mo_elementPlace_38 : decode prog_7_method_40_code 38 = .ok (.iinc 3 1, 3) := by decide +kernel
theorem d_Mo_elementPlace_41 : decode prog_7_method_40_code 41 = .ok (.iconst 0, 1) := by decide +kernel
theorem d_Mo_elementPlace_42 : decode prog_7_method_40_code 42 = .ok (.istore 5, 2) := by decide +kernel
theorem d_Mo_elementPlace_44 : decode prog_7_method_40_code 44 = .ok (.iconst 0, 1) := by decide +kernel
theorem d_Mo_elementPlace_45 : decode prog_7_method_40_code 45 = .ok (.istore 6, 2) := by decide +kernel
theorem d_Mo_elementPlace_47 : decode prog_7_method_40_code 47 = .ok (.iload 6, 2) := by decide +kernel
theorem d_Mo_elementPlace_49 : decode prog_7_method_40_code 49 = .ok (.aload_n 0, 1) := by decide +kernel
theorem d_Mo_elementPlace_50 : decode prog_7_method_40_code 50 = .ok (.getfield 13, 3) := by decide +kernel
theorem d_Mo_elementPlace_53 : decode prog_7_method_40_code 53 = .ok (.aload_n 0, 1) := by decide +kernel
theorem d_Mo_elementPlace_54 : decode prog_7_method_40_code 54 = .ok (.getfield 41, 3) := by decide +kernel
theorem d_Mo_elementPlace_57 : decode prog_7_method_40_code 57 = .ok (.iaload, 1) := by decide +kernel
theorem d_Mo_elementPlace_58 : decode prog_7_method_40_code 58 = .ok (.if_icmp .ge 56, 3) := by decide +kernel
theorem d_Mo_elementPlace_61 : decode prog_7_method_40_code 61 = .ok (.iload 5, 2) := by decide +kernel
theorem d_Mo_elementPlace_63 : decode prog_7_method_40_code 63 = .ok (.iload 6, 2) := by decide +kernel
theorem d_Mo_elementPlace_65 : decode prog_7_method_40_code 65 = .ok (.iload 4, 2) := by decide +kernel
theorem d_Mo_elementPlace_67 : decode prog_7_method_40_code 67 = .ok (.if_icmp .eq 37, 3) := by decide +kernel
theorem d_Mo_elementPlace_70 : decode prog_7_method_40_code 70 = .ok (.aload_n 0, 1) := by decide +kernel
theorem d_Mo_elementPlace_71 : decode prog_7_method_40_code 71 = .ok (.iload 6, 2) := by decide +kernel
theorem d_Mo_elementPlace_73 : decode prog_7_method_40_code 73 = .ok (.iload_n 1, 1) := by decide +kernel
theorem d_Mo_elementPlace_74 : decode prog_7_method_40_code 74 = .ok (.invokevirtual 124, 3) := by decide +kernel
theorem d_Mo_elementPlace_77 : decode prog_7_method_40_code 77 = .ok (.ifCond .eq 27, 3) := by decide +kernel
theorem d_Mo_elementPlace_80 : decode prog_7_method_40_code 80 = .ok (.aload_n 0, 1) := by decide +kernel
theorem d_Mo_elementPlace_81 : decode prog_7_method_40_code 81 = .ok (.iload 6, 2) := by decide +kernel
theorem d_Mo_elementPlace_83 : decode prog_7_method_40_code 83 = .ok (.invokevirtual 127, 3) := by decide +kernel
theorem d_Mo_elementPlace_86 : decode prog_7_method_40_code 86 = .ok (.ifCond .ne 18, 3) := by decide +kernel
theorem d_Mo_elementPlace_89 : decode prog_7_method_40_code 89 = .ok (.aload_n 0, 1) := by decide +kernel
theorem d_Mo_elementPlace_90 : decode prog_7_method_40_code 90 = .ok (.iload 6, 2) := by decide +kernel
theorem d_Mo_elementPlace_92 : decode prog_7_method_40_code 92 = .ok (.iload 4, 2) := by decide +kernel
theorem d_Mo_elementPlace_94 : decode prog_7_method_40_code 94 = .ok (.invokevirtual 130, 3) := by decide +kernel
theorem d_Mo_elementPlace_97 : decode prog_7_method_40_code 97 = .ok (.ifCond .eq 7, 3) := by decide +kernel
theorem d_Mo_elementPlace_100 : decode prog_7_method_40_code 100 = .ok (.iconst 1, 1) := by decide +kernel
theorem d_Mo_elementPlace_101 : decode prog_7_method_40_code 101 = .ok (.goto 4, 3) := by decide +kernel
theorem d_Mo_elementPlace_104 : decode prog_7_method_40_code 104 = .ok (.iconst 0, 1) := by decide +kernel
theorem d_Mo_elementPlace_105 : decode prog_7_method_40_code 105 = .ok (.iadd, 1) := by decide +kernel
theorem d_Mo_elementPlace_106 : decode prog_7_method_40_code 106 = .ok (.istore 5, 2) := by decide +kernel
theorem d_Mo_elementPlace_108 : decode prog_7_method_40_code 108 = .ok (.iinc 6 1, 3) := by decide +kernel
theorem d_Mo_elementPlace_111 : decode prog_7_method_40_code 111 = .ok (.goto (-64), 3) := by decide +kernel
theorem d_Mo_elementPlace_114 : decode prog_7_method_40_code 114 = .ok (.iload 5, 2) := by decide +kernel
theorem d_Mo_elementPlace_116 : decode prog_7_method_40_code 116 = .ok (.iload_n 2, 1) := by decide +kernel
theorem d_Mo_elementPlace_117 : decode prog_7_method_40_code 117 = .ok (.if_icmp .ne 6, 3) := by decide +kernel
theorem d_Mo_elementPlace_120 : decode prog_7_method_40_code 120 = .ok (.iload 4, 2) := by decide +kernel
theorem d_Mo_elementPlace_122 : decode prog_7_method_40_code 122 = .ok (.ireturn, 1) := by decide +kernel
theorem d_Mo_elementPlace_123 : decode prog_7_method_40_code 123 = .ok (.iinc 4 1, 3) := by decide +kernel
theorem d_Mo_elementPlace_126 : decode prog_7_method_40_code 126 = .ok (.goto (-121), 3) := by decide +kernel
theorem d_Mo_elementPlace_129 : decode prog_7_method_40_code 129 = .ok (.iconst (-1), 1) := by decide +kernel
theorem d_Mo_elementPlace_130 : decode prog_7_method_40_code 130 = .ok (.iload_n 3, 1) := by decide +kernel
theorem d_Mo_elementPlace_131 : decode prog_7_method_40_code 131 = .ok (.isub, 1) := by decide +kernel
theorem d_Mo_elementPlace_132 : decode prog_7_method_40_code 132 = .ok (.ireturn, 1) := by decide +kernel
theorem d_Mo_element_0 : decode prog_7_method_41_code 0 = .ok (.iload_n 1, 1) := by decide +kernel
theorem d_Mo_element_1 : decode prog_7_method_41_code 1 = .ok (.invokestatic 75, 3) := by decide +kernel
theorem d_Mo_element_4 : decode prog_7_method_41_code 4 = .ok (.ifCond .eq 8, 3) := by decide +kernel
theorem d_Mo_element_7 : decode prog_7_method_41_code 7 = .ok (.iload_n 3, 1) := by decide +kernel
theorem d_Mo_element_8 : decode prog_7_method_41_code 8 = .ok (.iconst (-1), 1) := by decide +kernel
theorem d_Mo_element_9 : decode prog_7_method_41_code 9 = .ok (.if_icmp .ge 5, 3) := by decide +kernel
theorem d_Mo_element_12 : decode prog_7_method_41_code 12 = .ok (.iconst (-1), 1) := by decide +kernel
theorem d_Mo_element_13 : decode prog_7_method_41_code 13 = .ok (.ireturn, 1) := by decide +kernel
theorem d_Mo_element_14 : decode prog_7_method_41_code 14 = .ok (.aload_n 0, 1) := by decide +kernel
theorem d_Mo_element_15 : decode prog_7_method_41_code 15 = .ok (.iload_n 1, 1) := by decide +kernel
theorem d_Mo_element_16 : decode prog_7_method_41_code 16 = .ok (.invokevirtual 78, 3) := by decide +kernel
theorem d_Mo_element_19 : decode prog_7_method_41_code 19 = .ok (.aload_n 0, 1) := by decide +kernel
theorem d_Mo_element_20 : decode prog_7_method_41_code 20 = .ok (.iload_n 2, 1) := by decide +kernel
theorem d_Mo_element_21 : decode prog_7_method_41_code 21 = .ok (.iconst 2, 1) := by decide +kernel
theorem d_Mo_element_22 : decode prog_7_method_41_code 22 = .ok (.invokevirtual 110, 3) := by decide +kernel
theorem d_Mo_element_25 : decode prog_7_method_41_code 25 = .ok (.ifCond .ne 5, 3) := by decide +kernel
theorem d_Mo_element_28 : decode prog_7_method_41_code 28 = .ok (.iconst (-1), 1) := by decide +kernel
theorem d_Mo_element_29 : decode prog_7_method_41_code 29 = .ok (.ireturn, 1) := by decide +kernel
theorem d_Mo_element_30 : decode prog_7_method_41_code 30 = .ok (.aload_n 0, 1) := by decide +kernel
theorem d_Mo_element_31 : decode prog_7_method_41_code 31 = .ok (.iload_n 2, 1) := by decide +kernel
theorem d_Mo_element_32 : decode prog_7_method_41_code 32 = .ok (.iload_n 3, 1) := by decide +kernel
theorem d_Mo_element_33 : decode prog_7_method_41_code 33 = .ok (.invokevirtual 133, 3) := by decide +kernel
theorem d_Mo_element_36 : decode prog_7_method_41_code 36 = .ok (.istore 4, 2) := by decide +kernel
theorem d_Mo_element_38 : decode prog_7_method_41_code 38 = .ok (.iload_n 3, 1) := by decide +kernel
theorem d_Mo_element_39 : decode prog_7_method_41_code 39 = .ok (.iconst (-1), 1) := by decide +kernel
theorem d_Mo_element_40 : decode prog_7_method_41_code 40 = .ok (.if_icmp .ne 10, 3) := by decide +kernel
theorem d_Mo_element_43 : decode prog_7_method_41_code 43 = .ok (.iconst (-1), 1) := by decide +kernel
theorem d_Mo_element_44 : decode prog_7_method_41_code 44 = .ok (.iload 4, 2) := by decide +kernel
theorem d_Mo_element_46 : decode prog_7_method_41_code 46 = .ok (.isub, 1) := by decide +kernel
theorem d_Mo_element_47 : decode prog_7_method_41_code 47 = .ok (.goto 19, 3) := by decide +kernel
theorem d_Mo_element_50 : decode prog_7_method_41_code 50 = .ok (.iload 4, 2) := by decide +kernel
theorem d_Mo_element_52 : decode prog_7_method_41_code 52 = .ok (.ifCond .ge 7, 3) := by decide +kernel
theorem d_Mo_element_55 : decode prog_7_method_41_code 55 = .ok (.iconst (-1), 1) := by decide +kernel
theorem d_Mo_element_56 : decode prog_7_method_41_code 56 = .ok (.goto 10, 3) := by decide +kernel
theorem d_Mo_element_59 : decode prog_7_method_41_code 59 = .ok (.aload_n 0, 1) := by decide +kernel
theorem d_Mo_element_60 : decode prog_7_method_41_code 60 = .ok (.iload 4, 2) := by decide +kernel
theorem d_Mo_element_62 : decode prog_7_method_41_code 62 = .ok (.iconst 0, 1) := by decide +kernel
theorem d_Mo_element_63 : decode prog_7_method_41_code 63 = .ok (.invokevirtual 45, 3) := by decide +kernel
theorem d_Mo_element_66 : decode prog_7_method_41_code 66 = .ok (.ireturn, 1) := by decide +kernel
theorem d_Mo_depth_0 : decode prog_7_method_42_code 0 = .ok (.iload_n 1, 1) := by decide +kernel
theorem d_Mo_depth_1 : decode prog_7_method_42_code 1 = .ok (.invokestatic 75, 3) := by decide +kernel
theorem d_Mo_depth_4 : decode prog_7_method_42_code 4 = .ok (.ifCond .ne 5, 3) := by decide +kernel
theorem d_Mo_depth_7 : decode prog_7_method_42_code 7 = .ok (.iconst (-1), 1) := by decide +kernel
theorem d_Mo_depth_8 : decode prog_7_method_42_code 8 = .ok (.ireturn, 1) := by decide +kernel
theorem d_Mo_depth_9 : decode prog_7_method_42_code 9 = .ok (.aload_n 0, 1) := by decide +kernel
theorem d_Mo_depth_10 : decode prog_7_method_42_code 10 = .ok (.iload_n 1, 1) := by decide +kernel
theorem d_Mo_depth_11 : decode prog_7_method_42_code 11 = .ok (.invokevirtual 78, 3) := by decide +kernel
theorem d_Mo_depth_14 : decode prog_7_method_42_code 14 = .ok (.iload_n 2, 1) := by decide +kernel
theorem d_Mo_depth_15 : decode prog_7_method_42_code 15 = .ok (.istore_n 3, 1) := by decide +kernel
theorem d_Mo_depth_16 : decode prog_7_method_42_code 16 = .ok (.iconst 0, 1) := by decide +kernel
theorem d_Mo_depth_17 : decode prog_7_method_42_code 17 = .ok (.istore 4, 2) := by decide +kernel
theorem d_Mo_depth_19 : decode prog_7_method_42_code 19 = .ok (.iload 4, 2) := by decide +kernel
theorem d_Mo_depth_21 : decode prog_7_method_42_code 21 = .ok (.bipush 17, 2) := by decide +kernel
theorem d_Mo_depth_23 : decode prog_7_method_42_code 23 = .ok (.if_icmp .gt 92, 3) := by decide +kernel
theorem d_Mo_depth_26 : decode prog_7_method_42_code 26 = .ok (.iload_n 3, 1) := by decide +kernel
theorem d_Mo_depth_27 : decode prog_7_method_42_code 27 = .ok (.ifCond .ne 6, 3) := by decide +kernel
theorem d_Mo_depth_30 : decode prog_7_method_42_code 30 = .ok (.iload 4, 2) := by decide +kernel
theorem d_Mo_depth_32 : decode prog_7_method_42_code 32 = .ok (.ireturn, 1) := by decide +kernel
theorem d_Mo_depth_33 : decode prog_7_method_42_code 33 = .ok (.aload_n 0, 1) := by decide +kernel
theorem d_Mo_depth_34 : decode prog_7_method_42_code 34 = .ok (.iload_n 3, 1) := by decide +kernel
theorem d_Mo_depth_35 : decode prog_7_method_42_code 35 = .ok (.iconst 1, 1) := by decide +kernel
theorem d_Mo_depth_36 : decode prog_7_method_42_code 36 = .ok (.invokevirtual 53, 3) := by decide +kernel
theorem d_Mo_depth_39 : decode prog_7_method_42_code 39 = .ok (.istore 5, 2) := by decide +kernel
theorem d_Mo_depth_41 : decode prog_7_method_42_code 41 = .ok (.iload 5, 2) := by decide +kernel
theorem d_Mo_depth_43 : decode prog_7_method_42_code 43 = .ok (.ifCond .ge 5, 3) := by decide +kernel
theorem d_Mo_depth_46 : decode prog_7_method_42_code 46 = .ok (.iconst (-1), 1) := by decide +kernel
theorem d_Mo_depth_47 : decode prog_7_method_42_code 47 = .ok (.ireturn, 1) := by decide +kernel
theorem d_Mo_depth_48 : decode prog_7_method_42_code 48 = .ok (.aload_n 0, 1) := by decide +kernel
theorem d_Mo_depth_49 : decode prog_7_method_42_code 49 = .ok (.iload 5, 2) := by decide +kernel
theorem d_Mo_depth_51 : decode prog_7_method_42_code 51 = .ok (.iconst 1, 1) := by decide +kernel
theorem d_Mo_depth_52 : decode prog_7_method_42_code 52 = .ok (.invokevirtual 45, 3) := by decide +kernel
theorem d_Mo_depth_55 : decode prog_7_method_42_code 55 = .ok (.iconst 3, 1) := by decide +kernel
theorem d_Mo_depth_56 : decode prog_7_method_42_code 56 = .ok (.if_icmp .ne 30, 3) := by decide +kernel
theorem d_Mo_depth_59 : decode prog_7_method_42_code 59 = .ok (.aload_n 0, 1) := by decide +kernel
theorem d_Mo_depth_60 : decode prog_7_method_42_code 60 = .ok (.getfield 29, 3) := by decide +kernel
theorem d_Mo_depth_63 : decode prog_7_method_42_code 63 = .ok (.iload 5, 2) := by decide +kernel
theorem d_Mo_depth_65 : decode prog_7_method_42_code 65 = .ok (.baload, 1) := by decide +kernel
theorem d_Mo_depth_66 : decode prog_7_method_42_code 66 = .ok (.ifCond .eq 16, 3) := by decide +kernel
theorem d_Mo_depth_69 : decode prog_7_method_42_code 69 = .ok (.aload_n 0, 1) := by decide +kernel
theorem d_Mo_depth_70 : decode prog_7_method_42_code 70 = .ok (.iload 5, 2) := by decide +kernel
theorem d_Mo_depth_72 : decode prog_7_method_42_code 72 = .ok (.invokevirtual 127, 3) := by decide +kernel
theorem d_Mo_depth_75 : decode prog_7_method_42_code 75 = .ok (.ifCond .ne 7, 3) := by decide +kernel
theorem d_Mo_depth_78 : decode prog_7_method_42_code 78 = .ok (.iconst 1, 1) := by decide +kernel
theorem d_Mo_depth_79 : decode prog_7_method_42_code 79 = .ok (.goto 13, 3) := by decide +kernel
theorem d_Mo_depth_82 : decode prog_7_method_42_code 82 = .ok (.iconst 0, 1) := by decide +kernel
theorem d_Mo_depth_83 : decode prog_7_method_42_code 83 = .ok (.goto 9, 3) := by decide +kernel
theorem d_Mo_depth_86 : decode prog_7_method_42_code 86 = .ok (.aload_n 0, 1) := by decide +kernel
theorem d_Mo_depth_87 : decode prog_7_method_42_code 87 = .ok (.iload 5, 2) := by decide +kernel
theorem d_Mo_depth_89 : decode prog_7_method_42_code 89 = .ok (.invokevirtual 107, 3) := by decide +kernel
theorem d_Mo_depth_92 : decode prog_7_method_42_code 92 = .ok (.istore 6, 2) := by decide +kernel
theorem d_Mo_depth_94 : decode prog_7_method_42_code 94 = .ok (.iload 6, 2) := by decide +kernel
theorem d_Mo_depth_96 : decode prog_7_method_42_code 96 = .ok (.ifCond .ne 5, 3) := by decide +kernel
theorem d_Mo_depth_99 : decode prog_7_method_42_code 99 = .ok (.iconst (-1), 1) := by decide +kernel
theorem d_Mo_depth_100 : decode prog_7_method_42_code 100 = .ok (.ireturn, 1) := by decide +kernel
theorem d_Mo_depth_101 : decode prog_7_method_42_code 101 = .ok (.aload_n 0, 1) := by decide +kernel
theorem d_Mo_depth_102 : decode prog_7_method_42_code 102 = .ok (.iload 5, 2) := by decide +kernel
theorem d_Mo_depth_104 : decode prog_7_method_42_code 104 = .ok (.iconst 2, 1) := by decide +kernel
theorem d_Mo_depth_105 : decode prog_7_method_42_code 105 = .ok (.invokevirtual 45, 3) := by decide +kernel
theorem d_Mo_depth_108 : decode prog_7_method_42_code 108 = .ok (.istore_n 3, 1) := by decide +kernel
theorem d_Mo_depth_109 : decode prog_7_method_42_code 109 = .ok (.iinc 4 1, 3) := by decide +kernel
theorem d_Mo_depth_112 : decode prog_7_method_42_code 112 = .ok (.goto (-93), 3) := by decide +kernel
theorem d_Mo_depth_115 : decode prog_7_method_42_code 115 = .ok (.iconst (-1), 1) := by decide +kernel
theorem d_Mo_depth_116 : decode prog_7_method_42_code 116 = .ok (.ireturn, 1) := by decide +kernel
theorem d_Mo_mapTotal_0 : decode prog_7_method_43_code 0 = .ok (.bipush 7, 2) := by decide +kernel
theorem d_Mo_mapTotal_2 : decode prog_7_method_43_code 2 = .ok (.istore_n 2, 1) := by decide +kernel
theorem d_Mo_mapTotal_3 : decode prog_7_method_43_code 3 = .ok (.iconst 0, 1) := by decide +kernel
theorem d_Mo_mapTotal_4 : decode prog_7_method_43_code 4 = .ok (.istore_n 3, 1) := by decide +kernel
theorem d_Mo_mapTotal_5 : decode prog_7_method_43_code 5 = .ok (.iload_n 3, 1) := by decide +kernel
theorem d_Mo_mapTotal_6 : decode prog_7_method_43_code 6 = .ok (.iconst 4, 1) := by decide +kernel
theorem d_Mo_mapTotal_7 : decode prog_7_method_43_code 7 = .ok (.if_icmp .ge 90, 3) := by decide +kernel
theorem d_Mo_mapTotal_10 : decode prog_7_method_43_code 10 = .ok (.iconst 0, 1) := by decide +kernel
theorem d_Mo_mapTotal_11 : decode prog_7_method_43_code 11 = .ok (.istore 4, 2) := by decide +kernel
theorem d_Mo_mapTotal_13 : decode prog_7_method_43_code 13 = .ok (.iload 4, 2) := by decide +kernel
theorem d_Mo_mapTotal_15 : decode prog_7_method_43_code 15 = .ok (.bipush 16, 2) := by decide +kernel
theorem d_Mo_mapTotal_17 : decode prog_7_method_43_code 17 = .ok (.if_icmp .ge 74, 3) := by decide +kernel
theorem d_Mo_mapTotal_20 : decode prog_7_method_43_code 20 = .ok (.aload_n 0, 1) := by decide +kernel
theorem d_Mo_mapTotal_21 : decode prog_7_method_43_code 21 = .ok (.iload_n 1, 1) := by decide +kernel
theorem d_Mo_mapTotal_22 : decode prog_7_method_43_code 22 = .ok (.iload_n 3, 1) := by decide +kernel
theorem d_Mo_mapTotal_23 : decode prog_7_method_43_code 23 = .ok (.iload 4, 2) := by decide +kernel
theorem d_Mo_mapTotal_25 : decode prog_7_method_43_code 25 = .ok (.invokevirtual 113, 3) := by decide +kernel
theorem d_Mo_mapTotal_28 : decode prog_7_method_43_code 28 = .ok (.istore 5, 2) := by decide +kernel
theorem d_Mo_mapTotal_30 : decode prog_7_method_43_code 30 = .ok (.iload 5, 2) := by decide +kernel
theorem d_Mo_mapTotal_32 : decode prog_7_method_43_code 32 = .ok (.ifCond .lt 53, 3) := by decide +kernel
theorem d_Mo_mapTotal_35 : decode prog_7_method_43_code 35 = .ok (.bipush 31, 2) := by decide +kernel
theorem d_Mo_mapTotal_37 : decode prog_7_method_43_code 37 = .ok (.iload_n 2, 1) := by decide +kernel
theorem d_Mo_mapTotal_38 : decode prog_7_method_43_code 38 = .ok (.imul, 1) := by decide +kernel
theorem d_Mo_mapTotal_39 : decode prog_7_method_43_code 39 = .ok (.iconst 4, 1) := by decide +kernel
theorem d_Mo_mapTotal_40 : decode prog_7_method_43_code 40 = .ok (.aload_n 0, 1) := by decide +kernel
theorem d_Mo_mapTotal_41 : decode prog_7_method_43_code 41 = .ok (.iload 5, 2) := by decide +kernel
theorem d_Mo_mapTotal_43 : decode prog_7_method_43_code 43 = .ok (.iconst 0, 1) := by decide +kernel
theorem d_Mo_mapTotal_44 : decode prog_7_method_43_code 44 = .ok (.invokevirtual 45, 3) := by decide +kernel
theorem d_Mo_mapTotal_47 : decode prog_7_method_43_code 47 = .ok (.imul, 1) := by decide +kernel
theorem d_Mo_mapTotal_48 : decode prog_7_method_43_code 48 = .ok (.iadd, 1) := by decide +kernel
theorem d_Mo_mapTotal_49 : decode prog_7_method_43_code 49 = .ok (.iload_n 3, 1) := by decide +kernel
theorem d_Mo_mapTotal_50 : decode prog_7_method_43_code 50 = .ok (.iadd, 1) := by decide +kernel
theorem d_Mo_mapTotal_51 : decode prog_7_method_43_code 51 = .ok (.istore_n 2, 1) := by decide +kernel
theorem d_Mo_mapTotal_52 : decode prog_7_method_43_code 52 = .ok (.bipush 31, 2) := by decide +kernel
theorem d_Mo_mapTotal_54 : decode prog_7_method_43_code 54 = .ok (.iload_n 2, 1) := by decide +kernel
theorem d_Mo_mapTotal_55 : decode prog_7_method_43_code 55 = .ok (.imul, 1) := by decide +kernel
theorem d_Mo_mapTotal_56 : decode prog_7_method_43_code 56 = .ok (.aload_n 0, 1) := by decide +kernel
theorem d_Mo_mapTotal_57 : decode prog_7_method_43_code 57 = .ok (.iload 5, 2) := by decide +kernel
theorem d_Mo_mapTotal_59 : decode prog_7_method_43_code 59 = .ok (.iconst 1, 1) := by decide +kernel
theorem d_Mo_mapTotal_60 : decode prog_7_method_43_code 60 = .ok (.invokevirtual 45, 3) := by decide +kernel
theorem d_Mo_mapTotal_63 : decode prog_7_method_43_code 63 = .ok (.ifCond .ne 13, 3) := by decide +kernel
theorem d_Mo_mapTotal_66 : decode prog_7_method_43_code 66 = .ok (.aload_n 0, 1) := by decide +kernel
theorem d_Mo_mapTotal_67 : decode prog_7_method_43_code 67 = .ok (.iload 5, 2) := by decide +kernel
theorem d_Mo_mapTotal_69 : decode prog_7_method_43_code 69 = .ok (.iconst 4, 1) := by decide +kernel
theorem d_Mo_mapTotal_70 : decode prog_7_method_43_code 70 = .ok (.invokevirtual 45, 3) := by decide +kernel
theorem d_Mo_mapTotal_73 : decode prog_7_method_43_code 73 = .ok (.goto 10, 3) := by decide +kernel
theorem d_Mo_mapTotal_76 : decode prog_7_method_43_code 76 = .ok (.aload_n 0, 1) := by decide +kernel
theorem d_Mo_mapTotal_77 : decode prog_7_method_43_code 77 = .ok (.getfield 35, 3) := by decide +kernel
theorem d_Mo_mapTotal_80 : decode prog_7_method_43_code 80 = .ok (.iload 5, 2) := by decide +kernel
theorem d_Mo_mapTotal_82 : decode prog_7_method_43_code 82 = .ok (.iaload, 1) := by decide +kernel
theorem d_Mo_mapTotal_83 : decode prog_7_method_43_code 83 = .ok (.iadd, 1) := by decide +kernel
theorem d_Mo_mapTotal_84 : decode prog_7_method_43_code 84 = .ok (.istore_n 2, 1) := by decide +kernel
theorem d_Mo_mapTotal_85 : decode prog_7_method_43_code 85 = .ok (.iinc 4 1, 3) := by decide +kernel
theorem d_Mo_mapTotal_88 : decode prog_7_method_43_code 88 = .ok (.goto (-75), 3) := by decide +kernel
theorem d_Mo_mapTotal_91 : decode prog_7_method_43_code 91 = .ok (.iinc 3 1, 3) := by decide +kernel
theorem d_Mo_mapTotal_94 : decode prog_7_method_43_code 94 = .ok (.goto (-89), 3) := by decide +kernel
theorem d_Mo_mapTotal_97 : decode prog_7_method_43_code 97 = .ok (.iload_n 2, 1) := by decide +kernel
theorem d_Mo_mapTotal_98 : decode prog_7_method_43_code 98 = .ok (.ireturn, 1) := by decide +kernel
theorem d_Mo_listTotal_0 : decode prog_7_method_44_code 0 = .ok (.bipush 11, 2) := by decide +kernel
theorem d_Mo_listTotal_2 : decode prog_7_method_44_code 2 = .ok (.istore_n 2, 1) := by decide +kernel
theorem d_Mo_listTotal_3 : decode prog_7_method_44_code 3 = .ok (.iconst 0, 1) := by decide +kernel
theorem d_Mo_listTotal_4 : decode prog_7_method_44_code 4 = .ok (.istore_n 3, 1) := by decide +kernel
theorem d_Mo_listTotal_5 : decode prog_7_method_44_code 5 = .ok (.iload_n 3, 1) := by decide +kernel
theorem d_Mo_listTotal_6 : decode prog_7_method_44_code 6 = .ok (.bipush 16, 2) := by decide +kernel
theorem d_Mo_listTotal_8 : decode prog_7_method_44_code 8 = .ok (.if_icmp .ge 47, 3) := by decide +kernel
theorem d_Mo_listTotal_11 : decode prog_7_method_44_code 11 = .ok (.aload_n 0, 1) := by decide +kernel
theorem d_Mo_listTotal_12 : decode prog_7_method_44_code 12 = .ok (.iload_n 1, 1) := by decide +kernel
theorem d_Mo_listTotal_13 : decode prog_7_method_44_code 13 = .ok (.iload_n 3, 1) := by decide +kernel
theorem d_Mo_listTotal_14 : decode prog_7_method_44_code 14 = .ok (.invokevirtual 133, 3) := by decide +kernel
theorem d_Mo_listTotal_17 : decode prog_7_method_44_code 17 = .ok (.istore 4, 2) := by decide +kernel
theorem d_Mo_listTotal_19 : decode prog_7_method_44_code 19 = .ok (.iload 4, 2) := by decide +kernel
theorem d_Mo_listTotal_21 : decode prog_7_method_44_code 21 = .ok (.ifCond .lt 28, 3) := by decide +kernel
theorem d_Mo_listTotal_24 : decode prog_7_method_44_code 24 = .ok (.bipush 31, 2) := by decide +kernel
theorem d_Mo_listTotal_26 : decode prog_7_method_44_code 26 = .ok (.iload_n 2, 1) := by decide +kernel
theorem d_Mo_listTotal_27 : decode prog_7_method_44_code 27 = .ok (.imul, 1) := by decide +kernel
theorem d_Mo_listTotal_28 : decode prog_7_method_44_code 28 = .ok (.sipush 128, 3) := by decide +kernel
theorem d_Mo_listTotal_31 : decode prog_7_method_44_code 31 = .ok (.aload_n 0, 1) := by decide +kernel
theorem d_Mo_listTotal_32 : decode prog_7_method_44_code 32 = .ok (.iload 4, 2) := by decide +kernel
theorem d_Mo_listTotal_34 : decode prog_7_method_44_code 34 = .ok (.iconst 0, 1) := by decide +kernel
theorem d_Mo_listTotal_35 : decode prog_7_method_44_code 35 = .ok (.invokevirtual 45, 3) := by decide +kernel
theorem d_Mo_listTotal_38 : decode prog_7_method_44_code 38 = .ok (.imul, 1) := by decide +kernel
theorem d_Mo_listTotal_39 : decode prog_7_method_44_code 39 = .ok (.iadd, 1) := by decide +kernel
theorem d_Mo_listTotal_40 : decode prog_7_method_44_code 40 = .ok (.aload_n 0, 1) := by decide +kernel
theorem d_Mo_listTotal_41 : decode prog_7_method_44_code 41 = .ok (.iload 4, 2) := by decide +kernel
theorem d_Mo_listTotal_43 : decode prog_7_method_44_code 43 = .ok (.iconst 4, 1) := by decide +kernel
theorem d_Mo_listTotal_44 : decode prog_7_method_44_code 44 = .ok (.invokevirtual 45, 3) := by decide +kernel
theorem d_Mo_listTotal_47 : decode prog_7_method_44_code 47 = .ok (.iadd, 1) := by decide +kernel
theorem d_Mo_listTotal_48 : decode prog_7_method_44_code 48 = .ok (.istore_n 2, 1) := by decide +kernel
theorem d_Mo_listTotal_49 : decode prog_7_method_44_code 49 = .ok (.iinc 3 1, 3) := by decide +kernel
theorem d_Mo_listTotal_52 : decode prog_7_method_44_code 52 = .ok (.goto (-47), 3) := by decide +kernel
theorem d_Mo_listTotal_55 : decode prog_7_method_44_code 55 = .ok (.iload_n 2, 1) := by decide +kernel
theorem d_Mo_listTotal_56 : decode prog_7_method_44_code 56 = .ok (.ireturn, 1) := by decide +kernel
theorem d_Mo_sum_0 : decode prog_7_method_45_code 0 = .ok (.iload_n 1, 1) := by decide +kernel
theorem d_Mo_sum_1 : decode prog_7_method_45_code 1 = .ok (.invokestatic 75, 3) := by decide +kernel
theorem d_Mo_sum_4 : decode prog_7_method_45_code 4 = .ok (.ifCond .ne 5, 3) := by decide +kernel
theorem d_Mo_sum_7 : decode prog_7_method_45_code 7 = .ok (.iconst 0, 1) := by decide +kernel
theorem d_Mo_sum_8 : decode prog_7_method_45_code 8 = .ok (.ireturn, 1) := by decide +kernel
theorem d_Mo_sum_9 : decode prog_7_method_45_code 9 = .ok (.aload_n 0, 1) := by decide +kernel
theorem d_Mo_sum_10 : decode prog_7_method_45_code 10 = .ok (.iload_n 1, 1) := by decide +kernel
theorem d_Mo_sum_11 : decode prog_7_method_45_code 11 = .ok (.invokevirtual 78, 3) := by decide +kernel
theorem d_Mo_sum_14 : decode prog_7_method_45_code 14 = .ok (.sipush 162, 3) := by decide +kernel
theorem d_Mo_sum_17 : decode prog_7_method_45_code 17 = .ok (.istore_n 2, 1) := by decide +kernel
theorem d_Mo_sum_18 : decode prog_7_method_45_code 18 = .ok (.iload_n 2, 1) := by decide +kernel
theorem d_Mo_sum_19 : decode prog_7_method_45_code 19 = .ok (.iconst 4, 1) := by decide +kernel
theorem d_Mo_sum_20 : decode prog_7_method_45_code 20 = .ok (.if_icmp .lt 63, 3) := by decide +kernel
theorem d_Mo_sum_23 : decode prog_7_method_45_code 23 = .ok (.aload_n 0, 1) := by decide +kernel
theorem d_Mo_sum_24 : decode prog_7_method_45_code 24 = .ok (.iload_n 2, 1) := by decide +kernel
theorem d_Mo_sum_25 : decode prog_7_method_45_code 25 = .ok (.iconst 1, 1) := by decide +kernel
theorem d_Mo_sum_26 : decode prog_7_method_45_code 26 = .ok (.invokevirtual 53, 3) := by decide +kernel
theorem d_Mo_sum_29 : decode prog_7_method_45_code 29 = .ok (.istore_n 3, 1) := by decide +kernel
theorem d_Mo_sum_30 : decode prog_7_method_45_code 30 = .ok (.iload_n 3, 1) := by decide +kernel
theorem d_Mo_sum_31 : decode prog_7_method_45_code 31 = .ok (.ifCond .lt 46, 3) := by decide +kernel
theorem d_Mo_sum_34 : decode prog_7_method_45_code 34 = .ok (.aload_n 0, 1) := by decide +kernel
theorem d_Mo_sum_35 : decode prog_7_method_45_code 35 = .ok (.getfield 35, 3) := by decide +kernel
theorem d_Mo_sum_38 : decode prog_7_method_45_code 38 = .ok (.iload_n 3, 1) := by decide +kernel
theorem d_Mo_sum_39 : decode prog_7_method_45_code 39 = .ok (.aload_n 0, 1) := by decide +kernel
theorem d_Mo_sum_40 : decode prog_7_method_45_code 40 = .ok (.iload_n 3, 1) := by decide +kernel
theorem d_Mo_sum_41 : decode prog_7_method_45_code 41 = .ok (.iconst 1, 1) := by decide +kernel
theorem d_Mo_sum_42 : decode prog_7_method_45_code 42 = .ok (.invokevirtual 45, 3) := by decide +kernel
theorem d_Mo_sum_45 : decode prog_7_method_45_code 45 = .ok (.iconst 1, 1) := by decide +kernel
theorem d_Mo_sum_46 : decode prog_7_method_45_code 46 = .ok (.if_icmp .ne 11, 3) := by decide +kernel
theorem d_Mo_sum_49 : decode prog_7_method_45_code 49 = .ok (.aload_n 0, 1) := by decide +kernel
theorem d_Mo_sum_50 : decode prog_7_method_45_code 50 = .ok (.iload_n 2, 1) := by decide +kernel
theorem d_Mo_sum_51 : decode prog_7_method_45_code 51 = .ok (.invokevirtual 136, 3) := by decide +kernel
theorem d_Mo_sum_54 : decode prog_7_method_45_code 54 = .ok (.goto 22, 3) := by decide +kernel
theorem d_Mo_sum_57 : decode prog_7_method_45_code 57 = .ok (.aload_n 0, 1) := by decide +kernel
theorem d_Mo_sum_58 : decode prog_7_method_45_code 58 = .ok (.iload_n 3, 1) := by decide +kernel
theorem d_Mo_sum_59 : decode prog_7_method_45_code 59 = .ok (.iconst 1, 1) := by decide +kernel
theorem d_Mo_sum_60 : decode prog_7_method_45_code 60 = .ok (.invokevirtual 45, 3) := by decide +kernel
theorem d_Mo_sum_63 : decode prog_7_method_45_code 63 = .ok (.iconst 2, 1) := by decide +kernel
theorem d_Mo_sum_64 : decode prog_7_method_45_code 64 = .ok (.if_icmp .ne 11, 3) := by decide +kernel
theorem d_Mo_sum_67 : decode prog_7_method_45_code 67 = .ok (.aload_n 0, 1) := by decide +kernel
theorem d_Mo_sum_68 : decode prog_7_method_45_code 68 = .ok (.iload_n 2, 1) := by decide +kernel
theorem d_Mo_sum_69 : decode prog_7_method_45_code 69 = .ok (.invokevirtual 139, 3) := by decide +kernel
theorem d_Mo_sum_72 : decode prog_7_method_45_code 72 = .ok (.goto 4, 3) := by decide +kernel
theorem d_Mo_sum_75 : decode prog_7_method_45_code 75 = .ok (.iconst 0, 1) := by decide +kernel
theorem d_Mo_sum_76 : decode prog_7_method_45_code 76 = .ok (.iastore, 1) := by decide +kernel
theorem d_Mo_sum_77 : decode prog_7_method_45_code 77 = .ok (.iinc 2 (-1), 3) := by decide +kernel
theorem d_Mo_sum_80 : decode prog_7_method_45_code 80 = .ok (.goto (-62), 3) := by decide +kernel
theorem d_Mo_sum_83 : decode prog_7_method_45_code 83 = .ok (.aload_n 0, 1) := by decide +kernel
theorem d_Mo_sum_84 : decode prog_7_method_45_code 84 = .ok (.iconst 0, 1) := by decide +kernel
theorem d_Mo_sum_85 : decode prog_7_method_45_code 85 = .ok (.invokevirtual 136, 3) := by decide +kernel
theorem d_Mo_sum_88 : decode prog_7_method_45_code 88 = .ok (.ireturn, 1) := by decide +kernel
