/-! decode rows -/
theorem d_Mo_level_46 : decode prog_7_method_29_code 46 = .ok (.iload_n 1, 1) := by decide +kernel
theorem d_Mo_level_47 : decode prog_7_method_29_code 47 = .ok (.iaload, 1) := by decide +kernel
theorem d_Mo_level_48 : decode prog_7_method_29_code 48 = .ok (.if_icmp .ge 102, 3) := by decide +kernel
theorem d_Mo_level_51 : decode prog_7_method_29_code 51 = .ok (.iload_n 3, 1) := by decide +kernel
theorem d_Mo_level_52 : decode prog_7_method_29_code 52 = .ok (.ifCond .eq 98, 3) := by decide +kernel
theorem d_Mo_level_55 : decode prog_7_method_29_code 55 = .ok (.aload_n 0, 1) := by decide +kernel
theorem d_Mo_level_56 : decode prog_7_method_29_code 56 = .ok (.getfield 16, 3) := by decide +kernel
theorem d_Mo_level_59 : decode prog_7_method_29_code 59 = .ok (.bipush 16, 2) := by decide +kernel
theorem d_Mo_level_61 : decode prog_7_method_29_code 61 = .ok (.iload_n 1, 1) := by decide +kernel
theorem d_Mo_level_62 : decode prog_7_method_29_code 62 = .ok (.imul, 1) := by decide +kernel
theorem d_Mo_level_63 : decode prog_7_method_29_code 63 = .ok (.iload 4, 2) := by decide +kernel
theorem d_Mo_level_65 : decode prog_7_method_29_code 65 = .ok (.iadd, 1) := by decide +kernel
theorem d_Mo_level_66 : decode prog_7_method_29_code 66 = .ok (.baload, 1) := by decide +kernel
theorem d_Mo_level_67 : decode prog_7_method_29_code 67 = .ok (.ifCond .eq 77, 3) := by decide +kernel
theorem d_Mo_level_70 : decode prog_7_method_29_code 70 = .ok (.iconst 0, 1) := by decide +kernel
theorem d_Mo_level_71 : decode prog_7_method_29_code 71 = .ok (.istore 5, 2) := by decide +kernel
theorem d_Mo_level_73 : decode prog_7_method_29_code 73 = .ok (.iconst 0, 1) := by decide +kernel
theorem d_Mo_level_74 : decode prog_7_method_29_code 74 = .ok (.istore 6, 2) := by decide +kernel
theorem d_Mo_level_76 : decode prog_7_method_29_code 76 = .ok (.iload 6, 2) := by decide +kernel
theorem d_Mo_level_78 : decode prog_7_method_29_code 78 = .ok (.aload_n 0, 1) := by decide +kernel
theorem d_Mo_level_79 : decode prog_7_method_29_code 79 = .ok (.getfield 13, 3) := by decide +kernel
theorem d_Mo_level_82 : decode prog_7_method_29_code 82 = .ok (.iload_n 2, 1) := by decide +kernel
theorem d_Mo_level_83 : decode prog_7_method_29_code 83 = .ok (.iaload, 1) := by decide +kernel
theorem d_Mo_level_84 : decode prog_7_method_29_code 84 = .ok (.if_icmp .ge 57, 3) := by decide +kernel
theorem d_Mo_level_87 : decode prog_7_method_29_code 87 = .ok (.iload 5, 2) := by decide +kernel
theorem d_Mo_level_89 : decode prog_7_method_29_code 89 = .ok (.ifCond .ne 39, 3) := by decide +kernel
theorem d_Mo_level_92 : decode prog_7_method_29_code 92 = .ok (.aload_n 0, 1) := by decide +kernel
theorem d_Mo_level_93 : decode prog_7_method_29_code 93 = .ok (.getfield 16, 3) := by decide +kernel
theorem d_Mo_level_96 : decode prog_7_method_29_code 96 = .ok (.bipush 16, 2) := by decide +kernel
theorem d_Mo_level_98 : decode prog_7_method_29_code 98 = .ok (.iload_n 2, 1) := by decide +kernel
theorem d_Mo_level_99 : decode prog_7_method_29_code 99 = .ok (.imul, 1) := by decide +kernel
theorem d_Mo_level_100 : decode prog_7_method_29_code 100 = .ok (.iload 6, 2) := by decide +kernel
theorem d_Mo_level_102 : decode prog_7_method_29_code 102 = .ok (.iadd, 1) := by decide +kernel
theorem d_Mo_level_103 : decode prog_7_method_29_code 103 = .ok (.baload, 1) := by decide +kernel
theorem d_Mo_level_104 : decode prog_7_method_29_code 104 = .ok (.ifCond .eq 28, 3) := by decide +kernel
theorem d_Mo_level_107 : decode prog_7_method_29_code 107 = .ok (.aload_n 0, 1) := by decide +kernel
theorem d_Mo_level_108 : decode prog_7_method_29_code 108 = .ok (.bipush 16, 2) := by decide +kernel
theorem d_Mo_level_110 : decode prog_7_method_29_code 110 = .ok (.iload_n 1, 1) := by decide +kernel
theorem d_Mo_level_111 : decode prog_7_method_29_code 111 = .ok (.imul, 1) := by decide +kernel
theorem d_Mo_level_112 : decode prog_7_method_29_code 112 = .ok (.iload 4, 2) := by decide +kernel
theorem d_Mo_level_114 : decode prog_7_method_29_code 114 = .ok (.iadd, 1) := by decide +kernel
theorem d_Mo_level_115 : decode prog_7_method_29_code 115 = .ok (.bipush 16, 2) := by decide +kernel
theorem d_Mo_level_117 : decode prog_7_method_29_code 117 = .ok (.iload_n 2, 1) := by decide +kernel
theorem d_Mo_level_118 : decode prog_7_method_29_code 118 = .ok (.imul, 1) := by decide +kernel
theorem d_Mo_level_119 : decode prog_7_method_29_code 119 = .ok (.iload 6, 2) := by decide +kernel
theorem d_Mo_level_121 : decode prog_7_method_29_code 121 = .ok (.iadd, 1) := by decide +kernel
theorem d_Mo_level_122 : decode prog_7_method_29_code 122 = .ok (.invokevirtual 104, 3) := by decide +kernel
theorem d_Mo_level_125 : decode prog_7_method_29_code 125 = .ok (.ifCond .eq 7, 3) := by decide +kernel
theorem d_Mo_level_128 : decode prog_7_method_29_code 128 = .ok (.iconst 1, 1) := by decide +kernel
theorem d_Mo_level_129 : decode prog_7_method_29_code 129 = .ok (.goto 4, 3) := by decide +kernel
theorem d_Mo_level_132 : decode prog_7_method_29_code 132 = .ok (.iconst 0, 1) := by decide +kernel
theorem d_Mo_level_133 : decode prog_7_method_29_code 133 = .ok (.istore 5, 2) := by decide +kernel
theorem d_Mo_level_135 : decode prog_7_method_29_code 135 = .ok (.iinc 6 1, 3) := by decide +kernel
theorem d_Mo_level_138 : decode prog_7_method_29_code 138 = .ok (.goto (-62), 3) := by decide +kernel
theorem d_Mo_level_141 : decode prog_7_method_29_code 141 = .ok (.iload 5, 2) := by decide +kernel
theorem d_Mo_level_143 : decode prog_7_method_29_code 143 = .ok (.istore_n 3, 1) := by decide +kernel
theorem d_Mo_level_144 : decode prog_7_method_29_code 144 = .ok (.iinc 4 1, 3) := by decide +kernel
theorem d_Mo_level_147 : decode prog_7_method_29_code 147 = .ok (.goto (-107), 3) := by decide +kernel
theorem d_Mo_level_150 : decode prog_7_method_29_code 150 = .ok (.iload_n 3, 1) := by decide +kernel
theorem d_Mo_level_151 : decode prog_7_method_29_code 151 = .ok (.ireturn, 1) := by decide +kernel
theorem d_Mo_alike_0 : decode prog_7_method_30_code 0 = .ok (.iconst 1, 1) := by decide +kernel
theorem d_Mo_alike_1 : decode prog_7_method_30_code 1 = .ok (.istore_n 3, 1) := by decide +kernel
theorem d_Mo_alike_2 : decode prog_7_method_30_code 2 = .ok (.iconst 0, 1) := by decide +kernel
theorem d_Mo_alike_3 : decode prog_7_method_30_code 3 = .ok (.istore 4, 2) := by decide +kernel
theorem d_Mo_alike_5 : decode prog_7_method_30_code 5 = .ok (.iload 4, 2) := by decide +kernel
theorem d_Mo_alike_7 : decode prog_7_method_30_code 7 = .ok (.bipush 6, 2) := by decide +kernel
theorem d_Mo_alike_9 : decode prog_7_method_30_code 9 = .ok (.aload_n 0, 1) := by decide +kernel
theorem d_Mo_alike_10 : decode prog_7_method_30_code 10 = .ok (.getfield 7, 3) := by decide +kernel
theorem d_Mo_alike_13 : decode prog_7_method_30_code 13 = .ok (.bipush 12, 2) := by decide +kernel
theorem d_Mo_alike_15 : decode prog_7_method_30_code 15 = .ok (.iload_n 1, 1) := by decide +kernel
theorem d_Mo_alike_16 : decode prog_7_method_30_code 16 = .ok (.imul, 1) := by decide +kernel
theorem d_Mo_alike_17 : decode prog_7_method_30_code 17 = .ok (.iconst 5, 1) := by decide +kernel
theorem d_Mo_alike_18 : decode prog_7_method_30_code 18 = .ok (.iadd, 1) := by decide +kernel
theorem d_Mo_alike_19 : decode prog_7_method_30_code 19 = .ok (.iaload, 1) := by decide +kernel
theorem d_Mo_alike_20 : decode prog_7_method_30_code 20 = .ok (.iadd, 1) := by decide +kernel
theorem d_Mo_alike_21 : decode prog_7_method_30_code 21 = .ok (.if_icmp .ge 46, 3) := by decide +kernel
theorem d_Mo_alike_24 : decode prog_7_method_30_code 24 = .ok (.iload_n 3, 1) := by decide +kernel
theorem d_Mo_alike_25 : decode prog_7_method_30_code 25 = .ok (.ifCond .eq 42, 3) := by decide +kernel
theorem d_Mo_alike_28 : decode prog_7_method_30_code 28 = .ok (.aload_n 0, 1) := by decide +kernel
theorem d_Mo_alike_29 : decode prog_7_method_30_code 29 = .ok (.getfield 7, 3) := by decide +kernel
theorem d_Mo_alike_32 : decode prog_7_method_30_code 32 = .ok (.bipush 12, 2) := by decide +kernel
theorem d_Mo_alike_34 : decode prog_7_method_30_code 34 = .ok (.iload_n 1, 1) := by decide +kernel
theorem d_Mo_alike_35 : decode prog_7_method_30_code 35 = .ok (.imul, 1) := by decide +kernel
theorem d_Mo_alike_36 : decode prog_7_method_30_code 36 = .ok (.iload 4, 2) := by decide +kernel
theorem d_Mo_alike_38 : decode prog_7_method_30_code 38 = .ok (.iadd, 1) := by decide +kernel
theorem d_Mo_alike_39 : decode prog_7_method_30_code 39 = .ok (.iaload, 1) := by decide +kernel
theorem d_Mo_alike_40 : decode prog_7_method_30_code 40 = .ok (.aload_n 0, 1) := by decide +kernel
theorem d_Mo_alike_41 : decode prog_7_method_30_code 41 = .ok (.getfield 7, 3) := by decide +kernel
theorem d_Mo_alike_44 : decode prog_7_method_30_code 44 = .ok (.bipush 12, 2) := by decide +kernel
theorem d_Mo_alike_46 : decode prog_7_method_30_code 46 = .ok (.iload_n 2, 1) := by decide +kernel
theorem d_Mo_alike_47 : decode prog_7_method_30_code 47 = .ok (.imul, 1) := by decide +kernel
theorem d_Mo_alike_48 : decode prog_7_method_30_code 48 = .ok (.iload 4, 2) := by decide +kernel
theorem d_Mo_alike_50 : decode prog_7_method_30_code 50 = .ok (.iadd, 1) := by decide +kernel
theorem d_Mo_alike_51 : decode prog_7_method_30_code 51 = .ok (.iaload, 1) := by decide +kernel
theorem d_Mo_alike_52 : decode prog_7_method_30_code 52 = .ok (.if_icmp .ne 7, 3) := by decide +kernel
theorem d_Mo_alike_55 : decode prog_7_method_30_code 55 = .ok (.iconst 1, 1) := by decide +kernel
theorem d_Mo_alike_56 : decode prog_7_method_30_code 56 = .ok (.goto 4, 3) := by decide +kernel
theorem d_Mo_alike_59 : decode prog_7_method_30_code 59 = .ok (.iconst 0, 1) := by decide +kernel
theorem d_Mo_alike_60 : decode prog_7_method_30_code 60 = .ok (.istore_n 3, 1) := by decide +kernel
theorem d_Mo_alike_61 : decode prog_7_method_30_code 61 = .ok (.iinc 4 1, 3) := by decide +kernel
theorem d_Mo_alike_64 : decode prog_7_method_30_code 64 = .ok (.goto (-59), 3) := by decide +kernel
theorem d_Mo_alike_67 : decode prog_7_method_30_code 67 = .ok (.iload_n 3, 1) := by decide +kernel
theorem d_Mo_alike_68 : decode prog_7_method_30_code 68 = .ok (.ireturn, 1) := by decide +kernel
theorem d_Mo_isEntry_0 : decode prog_7_method_31_code 0 = .ok (.aload_n 0, 1) := by decide +kernel
theorem d_Mo_isEntry_1 : decode prog_7_method_31_code 1 = .ok (.iload_n 1, 1) := by decide +kernel
theorem d_Mo_isEntry_2 : decode prog_7_method_31_code 2 = .ok (.invokevirtual 49, 3) := by decide +kernel
theorem d_Mo_isEntry_5 : decode prog_7_method_31_code 5 = .ok (.ifCond .eq 22, 3) := by decide +kernel
theorem d_Mo_isEntry_8 : decode prog_7_method_31_code 8 = .ok (.aload_n 0, 1) := by decide +kernel
theorem d_Mo_isEntry_9 : decode prog_7_method_31_code 9 = .ok (.getfield 29, 3) := by decide +kernel
theorem d_Mo_isEntry_12 : decode prog_7_method_31_code 12 = .ok (.iload_n 1, 1) := by decide +kernel
theorem d_Mo_isEntry_13 : decode prog_7_method_31_code 13 = .ok (.baload, 1) := by decide +kernel
theorem d_Mo_isEntry_14 : decode prog_7_method_31_code 14 = .ok (.ifCond .eq 13, 3) := by decide +kernel
theorem d_Mo_isEntry_17 : decode prog_7_method_31_code 17 = .ok (.aload_n 0, 1) := by decide +kernel
theorem d_Mo_isEntry_18 : decode prog_7_method_31_code 18 = .ok (.iload_n 1, 1) := by decide +kernel
theorem d_Mo_isEntry_19 : decode prog_7_method_31_code 19 = .ok (.iconst 1, 1) := by decide +kernel
theorem d_Mo_isEntry_20 : decode prog_7_method_31_code 20 = .ok (.invokevirtual 45, 3) := by decide +kernel
theorem d_Mo_isEntry_23 : decode prog_7_method_31_code 23 = .ok (.iconst 2, 1) := by decide +kernel
theorem d_Mo_isEntry_24 : decode prog_7_method_31_code 24 = .ok (.if_icmp .le 5, 3) := by decide +kernel
theorem d_Mo_isEntry_27 : decode prog_7_method_31_code 27 = .ok (.iconst 0, 1) := by decide +kernel
theorem d_Mo_isEntry_28 : decode prog_7_method_31_code 28 = .ok (.ireturn, 1) := by decide +kernel
theorem d_Mo_isEntry_29 : decode prog_7_method_31_code 29 = .ok (.iconst 1, 1) := by decide +kernel
theorem d_Mo_isEntry_30 : decode prog_7_method_31_code 30 = .ok (.istore_n 2, 1) := by decide +kernel
theorem d_Mo_isEntry_31 : decode prog_7_method_31_code 31 = .ok (.iconst 0, 1) := by decide +kernel
theorem d_Mo_isEntry_32 : decode prog_7_method_31_code 32 = .ok (.istore_n 3, 1) := by decide +kernel
theorem d_Mo_isEntry_33 : decode prog_7_method_31_code 33 = .ok (.iload_n 3, 1) := by decide +kernel
theorem d_Mo_isEntry_34 : decode prog_7_method_31_code 34 = .ok (.aload_n 0, 1) := by decide +kernel
theorem d_Mo_isEntry_35 : decode prog_7_method_31_code 35 = .ok (.getfield 13, 3) := by decide +kernel
theorem d_Mo_isEntry_38 : decode prog_7_method_31_code 38 = .ok (.aload_n 0, 1) := by decide +kernel
theorem d_Mo_isEntry_39 : decode prog_7_method_31_code 39 = .ok (.getfield 41, 3) := by decide +kernel
theorem d_Mo_isEntry_42 : decode prog_7_method_31_code 42 = .ok (.iaload, 1) := by decide +kernel
theorem d_Mo_isEntry_43 : decode prog_7_method_31_code 43 = .ok (.if_icmp .ge 112, 3) := by decide +kernel
theorem d_Mo_isEntry_46 : decode prog_7_method_31_code 46 = .ok (.aload_n 0, 1) := by decide +kernel
theorem d_Mo_isEntry_47 : decode prog_7_method_31_code 47 = .ok (.iload_n 3, 1) := by decide +kernel
theorem d_Mo_isEntry_48 : decode prog_7_method_31_code 48 = .ok (.iconst 1, 1) := by decide +kernel
theorem d_Mo_isEntry_49 : decode prog_7_method_31_code 49 = .ok (.invokevirtual 45, 3) := by decide +kernel
theorem d_Mo_isEntry_52 : decode prog_7_method_31_code 52 = .ok (.istore 4, 2) := by decide +kernel
theorem d_Mo_isEntry_54 : decode prog_7_method_31_code 54 = .ok (.aload_n 0, 1) := by decide +kernel
theorem d_Mo_isEntry_55 : decode prog_7_method_31_code 55 = .ok (.iload_n 3, 1) := by decide +kernel
theorem d_Mo_isEntry_56 : decode prog_7_method_31_code 56 = .ok (.invokevirtual 49, 3) := by decide +kernel
theorem d_Mo_isEntry_59 : decode prog_7_method_31_code 59 = .ok (.ifCond .eq 58, 3) := by decide +kernel
theorem d_Mo_isEntry_62 : decode prog_7_method_31_code 62 = .ok (.aload_n 0, 1) := by decide +kernel
theorem d_Mo_isEntry_63 : decode prog_7_method_31_code 63 = .ok (.getfield 29, 3) := by decide +kernel
theorem d_Mo_isEntry_66 : decode prog_7_method_31_code 66 = .ok (.iload_n 3, 1) := by decide +kernel
theorem d_Mo_isEntry_67 : decode prog_7_method_31_code 67 = .ok (.baload, 1) := by decide +kernel
theorem d_Mo_isEntry_68 : decode prog_7_method_31_code 68 = .ok (.ifCond .eq 49, 3) := by decide +kernel
theorem d_Mo_isEntry_71 : decode prog_7_method_31_code 71 = .ok (.iload 4, 2) := by decide +kernel
theorem d_Mo_isEntry_73 : decode prog_7_method_31_code 73 = .ok (.iconst 2, 1) := by decide +kernel
theorem d_Mo_isEntry_74 : decode prog_7_method_31_code 74 = .ok (.if_icmp .le 9, 3) := by decide +kernel
theorem d_Mo_isEntry_77 : decode prog_7_method_31_code 77 = .ok (.iload 4, 2) := by decide +kernel
theorem d_Mo_isEntry_79 : decode prog_7_method_31_code 79 = .ok (.iconst 5, 1) := by decide +kernel
theorem d_Mo_isEntry_80 : decode prog_7_method_31_code 80 = .ok (.if_icmp .ne 37, 3) := by decide +kernel
theorem d_Mo_isEntry_83 : decode prog_7_method_31_code 83 = .ok (.aload_n 0, 1) := by decide +kernel
theorem d_Mo_isEntry_84 : decode prog_7_method_31_code 84 = .ok (.iload_n 3, 1) := by decide +kernel
theorem d_Mo_isEntry_85 : decode prog_7_method_31_code 85 = .ok (.iconst 2, 1) := by decide +kernel
theorem d_Mo_isEntry_86 : decode prog_7_method_31_code 86 = .ok (.invokevirtual 45, 3) := by decide +kernel
theorem d_Mo_isEntry_89 : decode prog_7_method_31_code 89 = .ok (.aload_n 0, 1) := by decide +kernel
theorem d_Mo_isEntry_90 : decode prog_7_method_31_code 90 = .ok (.iload_n 1, 1) := by decide +kernel
theorem d_Mo_isEntry_91 : decode prog_7_method_31_code 91 = .ok (.iconst 2, 1) := by decide +kernel
theorem d_Mo_isEntry_92 : decode prog_7_method_31_code 92 = .ok (.invokevirtual 45, 3) := by decide +kernel
theorem d_Mo_isEntry_95 : decode prog_7_method_31_code 95 = .ok (.if_icmp .ne 22, 3) := by decide +kernel
theorem d_Mo_isEntry_98 : decode prog_7_method_31_code 98 = .ok (.aload_n 0, 1) := by decide +kernel
theorem d_Mo_isEntry_99 : decode prog_7_method_31_code 99 = .ok (.iload_n 3, 1) := by decide +kernel
theorem d_Mo_isEntry_100 : decode prog_7_method_31_code 100 = .ok (.iconst 3, 1) := by decide +kernel
theorem d_Mo_isEntry_101 : decode prog_7_method_31_code 101 = .ok (.invokevirtual 45, 3) := by decide +kernel
theorem d_Mo_isEntry_104 : decode prog_7_method_31_code 104 = .ok (.aload_n 0, 1) := by decide +kernel
theorem d_Mo_isEntry_105 : decode prog_7_method_31_code 105 = .ok (.iload_n 1, 1) := by decide +kernel
theorem d_Mo_isEntry_106 : decode prog_7_method_31_code 106 = .ok (.iconst 3, 1) := by decide +kernel
theorem d_Mo_isEntry_107 : decode prog_7_method_31_code 107 = .ok (.invokevirtual 45, 3) := by decide +kernel
theorem d_Mo_isEntry_110 : decode prog_7_method_31_code 110 = .ok (.if_icmp .ne 7, 3) := by decide +kernel
theorem d_Mo_isEntry_113 : decode prog_7_method_31_code 113 = .ok (.iconst 1, 1) := by decide +kernel
theorem d_Mo_isEntry_114 : decode prog_7_method_31_code 114 = .ok (.goto 4, 3) := by decide +kernel
theorem d_Mo_isEntry_117 : decode prog_7_method_31_code 117 = .ok (.iconst 0, 1) := by decide +kernel
theorem d_Mo_isEntry_118 : decode prog_7_method_31_code 118 = .ok (.istore 5, 2) := by decide +kernel
theorem d_Mo_isEntry_120 : decode prog_7_method_31_code 120 = .ok (.iload_n 2, 1) := by decide +kernel
theorem d_Mo_isEntry_121 : decode prog_7_method_31_code 121 = .ok (.ifCond .eq 26, 3) := by decide +kernel
theorem d_Mo_isEntry_124 : decode prog_7_method_31_code 124 = .ok (.iload 5, 2) := by decide +kernel
theorem d_Mo_isEntry_126 : decode prog_7_method_31_code 126 = .ok (.ifCond .eq 17, 3) := by decide +kernel
theorem d_Mo_isEntry_129 : decode prog_7_method_31_code 129 = .ok (.aload_n 0, 1) := by decide +kernel
theorem d_Mo_isEntry_130 : decode prog_7_method_31_code 130 = .ok (.getfield 32, 3) := by decide +kernel
theorem d_Mo_isEntry_133 : decode prog_7_method_31_code 133 = .ok (.iload_n 3, 1) := by decide +kernel
theorem d_Mo_isEntry_134 : decode prog_7_method_31_code 134 = .ok (.iaload, 1) := by decide +kernel
theorem d_Mo_isEntry_135 : decode prog_7_method_31_code 135 = .ok (.iload_n 1, 1) := by decide +kernel
theorem d_Mo_isEntry_136 : decode prog_7_method_31_code 136 = .ok (.ishr, 1) := by decide +kernel
theorem d_Mo_isEntry_137 : decode prog_7_method_31_code 137 = .ok (.iconst 1, 1) := by decide +kernel
theorem d_Mo_isEntry_138 : decode prog_7_method_31_code 138 = .ok (.iand, 1) := by decide +kernel
theorem d_Mo_isEntry_139 : decode prog_7_method_31_code 139 = .ok (.iconst 1, 1) := by decide +kernel
theorem d_Mo_isEntry_140 : decode prog_7_method_31_code 140 = .ok (.if_icmp .eq 7, 3) := by decide +kernel
theorem d_Mo_isEntry_143 : decode prog_7_method_31_code 143 = .ok (.iconst 1, 1) := by decide +kernel
theorem d_Mo_isEntry_144 : decode prog_7_method_31_code 144 = .ok (.goto 4, 3) := by decide +kernel
theorem d_Mo_isEntry_147 : decode prog_7_method_31_code 147 = .ok (.iconst 0, 1) := by decide +kernel
theorem d_Mo_isEntry_148 : decode prog_7_method_31_code 148 = .ok (.istore_n 2, 1) := by decide +kernel
theorem d_Mo_isEntry_149 : decode prog_7_method_31_code 149 = .ok (.iinc 3 1, 3) := by decide +kernel
theorem d_Mo_isEntry_152 : decode prog_7_method_31_code 152 = .ok (.goto (-119), 3) := by decide +kernel
theorem d_Mo_isEntry_155 : decode prog_7_method_31_code 155 = .ok (.iload_n 2, 1) := by decide +kernel
theorem d_Mo_isEntry_156 : decode prog_7_method_31_code 156 = .ok (.ireturn, 1) := by decide +kernel
theorem d_Mo_entryPlace_0 : decode prog_7_method_32_code 0 = .ok (.iconst 0, 1) := by decide +kernel
theorem d_Mo_entryPlace_1 : decode prog_7_method_32_code 1 = .ok (.istore 4, 2) := by decide +kernel
theorem d_Mo_entryPlace_3 : decode prog_7_method_32_code 3 = .ok (.iconst 4, 1) := by decide +kernel
theorem d_Mo_entryPlace_4 : decode prog_7_method_32_code 4 = .ok (.istore 5, 2) := by decide +kernel
theorem d_Mo_entryPlace_6 : decode prog_7_method_32_code 6 = .ok (.iload 5, 2) := by decide +kernel
theorem d_Mo_entryPlace_8 : decode prog_7_method_32_code 8 = .ok (.sipush 162, 3) := by decide +kernel
theorem d_Mo_entryPlace_11 : decode prog_7_method_32_code 11 = .ok (.if_icmp .gt 66, 3) := by decide +kernel
theorem d_Mo_entryPlace_14 : decode prog_7_method_32_code 14 = .ok (.aload_n 0, 1) := by decide +kernel
theorem d_Mo_entryPlace_15 : decode prog_7_method_32_code 15 = .ok (.iload 5, 2) := by decide +kernel
theorem d_Mo_entryPlace_17 : decode prog_7_method_32_code 17 = .ok (.iconst 1, 1) := by decide +kernel
theorem d_Mo_entryPlace_18 : decode prog_7_method_32_code 18 = .ok (.invokevirtual 53, 3) := by decide +kernel
theorem d_Mo_entryPlace_21 : decode prog_7_method_32_code 21 = .ok (.istore 6, 2) := by decide +kernel
theorem d_Mo_entryPlace_23 : decode prog_7_method_32_code 23 = .ok (.iload 6, 2) := by decide +kernel
theorem d_Mo_entryPlace_25 : decode prog_7_method_32_code 25 = .ok (.ifCond .lt 46, 3) := by decide +kernel
theorem d_Mo_entryPlace_28 : decode prog_7_method_32_code 28 = .ok (.aload_n 0, 1) := by decide +kernel
theorem d_Mo_entryPlace_29 : decode prog_7_method_32_code 29 = .ok (.iload 6, 2) := by decide +kernel
theorem d_Mo_entryPlace_31 : decode prog_7_method_32_code 31 = .ok (.iconst 2, 1) := by decide +kernel
theorem d_Mo_entryPlace_32 : decode prog_7_method_32_code 32 = .ok (.invokevirtual 45, 3) := by decide +kernel
theorem d_Mo_entryPlace_35 : decode prog_7_method_32_code 35 = .ok (.iload_n 1, 1) := by decide +kernel
theorem d_Mo_entryPlace_36 : decode prog_7_method_32_code 36 = .ok (.if_icmp .ne 35, 3) := by decide +kernel
theorem d_Mo_entryPlace_39 : decode prog_7_method_32_code 39 = .ok (.aload_n 0, 1) := by decide +kernel
theorem d_Mo_entryPlace_40 : decode prog_7_method_32_code 40 = .ok (.iload 6, 2) := by decide +kernel
theorem d_Mo_entryPlace_42 : decode prog_7_method_32_code 42 = .ok (.iconst 3, 1) := by decide +kernel
theorem d_Mo_entryPlace_43 : decode prog_7_method_32_code 43 = .ok (.invokevirtual 45, 3) := by decide +kernel
theorem d_Mo_entryPlace_46 : decode prog_7_method_32_code 46 = .ok (.iload_n 2, 1) := by decide +kernel
theorem d_Mo_entryPlace_47 : decode prog_7_method_32_code 47 = .ok (.if_icmp .ne 24, 3) := by decide +kernel
theorem d_Mo_entryPlace_50 : decode prog_7_method_32_code 50 = .ok (.aload_n 0, 1) := by decide +kernel
theorem d_Mo_entryPlace_51 : decode prog_7_method_32_code 51 = .ok (.iload 6, 2) := by decide +kernel
theorem d_Mo_entryPlace_53 : decode prog_7_method_32_code 53 = .ok (.invokevirtual 107, 3) := by decide +kernel
theorem d_Mo_entryPlace_56 : decode prog_7_method_32_code 56 = .ok (.ifCond .eq 15, 3) := by decide +kernel
theorem d_Mo_entryPlace_59 : decode prog_7_method_32_code 59 = .ok (.iload 4, 2) := by decide +kernel
theorem d_Mo_entryPlace_61 : decode prog_7_method_32_code 61 = .ok (.iload_n 3, 1) := by decide +kernel
theorem d_Mo_entryPlace_62 : decode prog_7_method_32_code 62 = .ok (.if_icmp .ne 6, 3) := by decide +kernel
theorem d_Mo_entryPlace_65 : decode prog_7_method_32_code 65 = .ok (.iload 6, 2) := by decide +kernel
theorem d_Mo_entryPlace_67 : decode prog_7_method_32_code 67 = .ok (.ireturn, 1) := by decide +kernel
theorem d_Mo_entryPlace_68 : decode prog_7_method_32_code 68 = .ok (.iinc 4 1, 3) := by decide +kernel
theorem d_Mo_entryPlace_71 : decode prog_7_method_32_code 71 = .ok (.iinc 5 1, 3) := by decide +kernel
theorem d_Mo_entryPlace_74 : decode prog_7_method_32_code 74 = .ok (.goto (-68), 3) := by decide +kernel
theorem d_Mo_entryPlace_77 : decode prog_7_method_32_code 77 = .ok (.iconst (-1), 1) := by decide +kernel
theorem d_Mo_entryPlace_78 : decode prog_7_method_32_code 78 = .ok (.iload 4, 2) := by decide +kernel
theorem d_Mo_entryPlace_80 : decode prog_7_method_32_code 80 = .ok (.isub, 1) := by decide +kernel
theorem d_Mo_entryPlace_81 : decode prog_7_method_32_code 81 = .ok (.ireturn, 1) := by decide +kernel
theorem d_Mo_isKind_0 : decode prog_7_method_33_code 0 = .ok (.aload_n 0, 1) := by decide +kernel
theorem d_Mo_isKind_1 : decode prog_7_method_33_code 1 = .ok (.iload_n 1, 1) := by decide +kernel
theorem d_Mo_isKind_2 : decode prog_7_method_33_code 2 = .ok (.iconst 1, 1) := by decide +kernel
theorem d_Mo_isKind_3 : decode prog_7_method_33_code 3 = .ok (.invokevirtual 53, 3) := by decide +kernel
theorem d_Mo_isKind_6 : decode prog_7_method_33_code 6 = .ok (.istore_n 3, 1) := by decide +kernel
theorem d_Mo_isKind_7 : decode prog_7_method_33_code 7 = .ok (.iload_n 3, 1) := by decide +kernel
theorem d_Mo_isKind_8 : decode prog_7_method_33_code 8 = .ok (.ifCond .lt 17, 3) := by decide +kernel
theorem d_Mo_isKind_11 : decode prog_7_method_33_code 11 = .ok (.aload_n 0, 1) := by decide +kernel
theorem d_Mo_isKind_12 : decode prog_7_method_33_code 12 = .ok (.iload_n 3, 1) := by decide +kernel
theorem d_Mo_isKind_13 : decode prog_7_method_33_code 13 = .ok (.iconst 1, 1) := by decide +kernel
theorem d_Mo_isKind_14 : decode prog_7_method_33_code 14 = .ok (.invokevirtual 45, 3) := by decide +kernel
theorem d_Mo_isKind_17 : decode prog_7_method_33_code 17 = .ok (.iload_n 2, 1) := by decide +kernel
theorem d_Mo_isKind_18 : decode prog_7_method_33_code 18 = .ok (.if_icmp .ne 7, 3) := by decide +kernel
theorem d_Mo_isKind_21 : decode prog_7_method_33_code 21 = .ok (.iconst 1, 1) := by decide +kernel
theorem d_Mo_isKind_22 : decode prog_7_method_33_code 22 = .ok (.goto 4, 3) := by decide +kernel
theorem d_Mo_isKind_25 : decode prog_7_method_33_code 25 = .ok (.iconst 0, 1) := by decide +kernel
theorem d_Mo_isKind_26 : decode prog_7_method_33_code 26 = .ok (.ireturn, 1) := by decide +kernel
theorem d_Mo_entry_0 : decode prog_7_method_34_code 0 = .ok (.iload_n 1, 1) := by decide +kernel
theorem d_Mo_entry_1 : decode prog_7_method_34_code 1 = .ok (.invokestatic 75, 3) := by decide +kernel
theorem d_Mo_entry_4 : decode prog_7_method_34_code 4 = .ok (.ifCond .eq 18, 3) := by decide +kernel
theorem d_Mo_entry_7 : decode prog_7_method_34_code 7 = .ok (.iload_n 3, 1) := by decide +kernel
theorem d_Mo_entry_8 : decode prog_7_method_34_code 8 = .ok (.ifCond .lt 14, 3) := by decide +kernel
theorem d_Mo_entry_11 : decode prog_7_method_34_code 11 = .ok (.iload_n 3, 1) := by decide +kernel
theorem d_Mo_entry_12 : decode prog_7_method_34_code 12 = .ok (.iconst 3, 1) := by decide +kernel
theorem d_Mo_entry_13 : decode prog_7_method_34_code 13 = .ok (.if_icmp .gt 9, 3) := by decide +kernel
theorem d_Mo_entry_16 : decode prog_7_method_34_code 16 = .ok (.iload 4, 2) := by decide +kernel
theorem d_Mo_entry_18 : decode prog_7_method_34_code 18 = .ok (.iconst (-1), 1) := by decide +kernel
theorem d_Mo_entry_19 : decode prog_7_method_34_code 19 = .ok (.if_icmp .ge 5, 3) := by decide +kernel
theorem d_Mo_entry_22 : decode prog_7_method_34_code 22 = .ok (.iconst (-1), 1) := by decide +kernel
theorem d_Mo_entry_23 : decode prog_7_method_34_code 23 = .ok (.ireturn, 1) := by decide +kernel
theorem d_Mo_entry_24 : decode prog_7_method_34_code 24 = .ok (.aload_n 0, 1) := by decide +kernel
theorem d_Mo_entry_25 : decode prog_7_method_34_code 25 = .ok (.iload_n 1, 1) := by decide +kernel
theorem d_Mo_entry_26 : decode prog_7_method_34_code 26 = .ok (.invokevirtual 78, 3) := by decide +kernel
theorem d_Mo_entry_29 : decode prog_7_method_34_code 29 = .ok (.iload_n 2, 1) := by decide +kernel
theorem d_Mo_entry_30 : decode prog_7_method_34_code 30 = .ok (.ifCond .eq 14, 3) := by decide +kernel
theorem d_Mo_entry_33 : decode prog_7_method_34_code 33 = .ok (.aload_n 0, 1) := by decide +kernel
theorem d_Mo_entry_34 : decode prog_7_method_34_code 34 = .ok (.iload_n 2, 1) := by decide +kernel
theorem d_Mo_entry_35 : decode prog_7_method_34_code 35 = .ok (.iconst 1, 1) := by decide +kernel
theorem d_Mo_entry_36 : decode prog_7_method_34_code 36 = .ok (.invokevirtual 110, 3) := by decide +kernel
theorem d_Mo_entry_39 : decode prog_7_method_34_code 39 = .ok (.ifCond .ne 5, 3) := by decide +kernel
theorem d_Mo_entry_42 : decode prog_7_method_34_code 42 = .ok (.iconst (-1), 1) := by decide +kernel
theorem d_Mo_entry_43 : decode prog_7_method_34_code 43 = .ok (.ireturn, 1) := by decide +kernel
theorem d_Mo_entry_44 : decode prog_7_method_34_code 44 = .ok (.aload_n 0, 1) := by decide +kernel
theorem d_Mo_entry_45 : decode prog_7_method_34_code 45 = .ok (.iload_n 2, 1) := by decide +kernel
theorem d_Mo_entry_46 : decode prog_7_method_34_code 46 = .ok (.iload_n 3, 1) := by decide +kernel
theorem d_Mo_entry_47 : decode prog_7_method_34_code 47 = .ok (.iload 4, 2) := by decide +kernel
theorem d_Mo_entry_49 : decode prog_7_method_34_code 49 = .ok (.invokevirtual 113, 3) := by decide +kernel
theorem d_Mo_entry_52 : decode prog_7_method_34_code 52 = .ok (.istore 5, 2) := by decide +kernel
theorem d_Mo_entry_54 : decode prog_7_method_34_code 54 = .ok (.iload 4, 2) := by decide +kernel
theorem d_Mo_entry_56 : decode prog_7_method_34_code 56 = .ok (.iconst (-1), 1) := by decide +kernel
theorem d_Mo_entry_57 : decode prog_7_method_34_code 57 = .ok (.if_icmp .ne 10, 3) := by decide +kernel
theorem d_Mo_entry_60 : decode prog_7_method_34_code 60 = .ok (.iconst (-1), 1) := by decide +kernel
theorem d_Mo_entry_61 : decode prog_7_method_34_code 61 = .ok (.iload 5, 2) := by decide +kernel
theorem d_Mo_entry_63 : decode prog_7_method_34_code 63 = .ok (.isub, 1) := by decide +kernel
theorem d_Mo_entry_64 : decode prog_7_method_34_code 64 = .ok (.goto 19, 3) := by decide +kernel
theorem d_Mo_entry_67 : decode prog_7_method_34_code 67 = .ok (.iload 5, 2) := by decide +kernel
theorem d_Mo_entry_69 : decode prog_7_method_34_code 69 = .ok (.ifCond .ge 7, 3) := by decide +kernel
theorem d_Mo_entry_72 : decode prog_7_method_34_code 72 = .ok (.iconst (-1), 1) := by decide +kernel
theorem d_Mo_entry_73 : decode prog_7_method_34_code 73 = .ok (.goto 10, 3) := by decide +kernel
theorem d_Mo_entry_76 : decode prog_7_method_34_code 76 = .ok (.aload_n 0, 1) := by decide +kernel
theorem d_Mo_entry_77 : decode prog_7_method_34_code 77 = .ok (.iload 5, 2) := by decide +kernel
theorem d_Mo_entry_79 : decode prog_7_method_34_code 79 = .ok (.iconst 0, 1) := by decide +kernel
theorem d_Mo_entry_80 : decode prog_7_method_34_code 80 = .ok (.invokevirtual 45, 3) := by decide +kernel
theorem d_Mo_entry_83 : decode prog_7_method_34_code 83 = .ok (.ireturn, 1) := by decide +kernel
theorem d_Mo_isElement_0 : decode prog_7_method_35_code 0 = .ok (.aload_n 0, 1) := by decide +kernel
theorem d_Mo_isElement_1 : decode prog_7_method_35_code 1 = .ok (.iload_n 1, 1) := by decide +kernel
theorem d_Mo_isElement_2 : decode prog_7_method_35_code 2 = .ok (.invokevirtual 49, 3) := by decide +kernel
theorem d_Mo_isElement_5 : decode prog_7_method_35_code 5 = .ok (.ifCond .eq 36, 3) := by decide +kernel
theorem d_Mo_isElement_8 : decode prog_7_method_35_code 8 = .ok (.aload_n 0, 1) := by decide +kernel
theorem d_Mo_isElement_9 : decode prog_7_method_35_code 9 = .ok (.getfield 29, 3) := by decide +kernel
theorem d_Mo_isElement_12 : decode prog_7_method_35_code 12 = .ok (.iload_n 1, 1) := by decide +kernel
theorem d_Mo_isElement_13 : decode prog_7_method_35_code 13 = .ok (.baload, 1) := by decide +kernel
theorem d_Mo_isElement_14 : decode prog_7_method_35_code 14 = .ok (.ifCond .eq 27, 3) := by decide +kernel
theorem d_Mo_isElement_17 : decode prog_7_method_35_code 17 = .ok (.aload_n 0, 1) := by decide +kernel
theorem d_Mo_isElement_18 : decode prog_7_method_35_code 18 = .ok (.iload_n 1, 1) := by decide +kernel
theorem d_Mo_isElement_19 : decode prog_7_method_35_code 19 = .ok (.iconst 1, 1) := by decide +kernel
theorem d_Mo_isElement_20 : decode prog_7_method_35_code 20 = .ok (.invokevirtual 45, 3) := by decide +kernel
theorem d_Mo_isElement_23 : decode prog_7_method_35_code 23 = .ok (.iconst 3, 1) := by decide +kernel
theorem d_Mo_isElement_24 : decode prog_7_method_35_code 24 = .ok (.if_icmp .ne 17, 3) := by decide +kernel
theorem d_Mo_isElement_27 : decode prog_7_method_35_code 27 = .ok (.aload_n 0, 1) := by decide +kernel
theorem d_Mo_isElement_28 : decode prog_7_method_35_code 28 = .ok (.iload_n 1, 1) := by decide +kernel
theorem d_Mo_isElement_29 : decode prog_7_method_35_code 29 = .ok (.iconst 2, 1) := by decide +kernel
theorem d_Mo_isElement_30 : decode prog_7_method_35_code 30 = .ok (.invokevirtual 45, 3) := by decide +kernel
theorem d_Mo_isElement_33 : decode prog_7_method_35_code 33 = .ok (.iload_n 2, 1) := by decide +kernel
theorem d_Mo_isElement_34 : decode prog_7_method_35_code 34 = .ok (.if_icmp .ne 7, 3) := by decide +kernel
theorem d_Mo_isElement_37 : decode prog_7_method_35_code 37 = .ok (.iconst 1, 1) := by decide +kernel
theorem d_Mo_isElement_38 : decode prog_7_method_35_code 38 = .ok (.goto 4, 3) := by decide +kernel
theorem d_Mo_isElement_41 : decode prog_7_method_35_code 41 = .ok (.iconst 0, 1) := by decide +kernel
theorem d_Mo_isElement_42 : decode prog_7_method_35_code 42 = .ok (.ireturn, 1) := by decide +kernel
theorem d_Mo_gone_0 : decode prog_7_method_36_code 0 = .ok (.iconst 0, 1) := by decide +kernel
theorem d_Mo_gone_1 : decode prog_7_method_36_code 1 = .ok (.istore_n 2, 1) := by decide +kernel
theorem d_Mo_gone_2 : decode prog_7_method_36_code 2 = .ok (.iconst 0, 1) := by decide +kernel
theorem d_Mo_gone_3 : decode prog_7_method_36_code 3 = .ok (.istore_n 3, 1) := by decide +kernel
theorem d_Mo_gone_4 : decode prog_7_method_36_code 4 = .ok (.iload_n 3, 1) := by decide +kernel
theorem d_Mo_gone_5 : decode prog_7_method_36_code 5 = .ok (.aload_n 0, 1) := by decide +kernel
theorem d_Mo_gone_6 : decode prog_7_method_36_code 6 = .ok (.getfield 13, 3) := by decide +kernel
theorem d_Mo_gone_9 : decode prog_7_method_36_code 9 = .ok (.aload_n 0, 1) := by decide +kernel
theorem d_Mo_gone_10 : decode prog_7_method_36_code 10 = .ok (.getfield 41, 3) := by decide +kernel
theorem d_Mo_gone_13 : decode prog_7_method_36_code 13 = .ok (.iaload, 1) := by decide +kernel
theorem d_Mo_gone_14 : decode prog_7_method_36_code 14 = .ok (.if_icmp .ge 61, 3) := by decide +kernel
theorem d_Mo_gone_17 : decode prog_7_method_36_code 17 = .ok (.iload_n 2, 1) := by decide +kernel
theorem d_Mo_gone_18 : decode prog_7_method_36_code 18 = .ok (.ifCond .ne 45, 3) := by decide +kernel
theorem d_Mo_gone_21 : decode prog_7_method_36_code 21 = .ok (.aload_n 0, 1) := by decide +kernel
theorem d_Mo_gone_22 : decode prog_7_method_36_code 22 = .ok (.iload_n 3, 1) := by decide +kernel
theorem d_Mo_gone_23 : decode prog_7_method_36_code 23 = .ok (.invokevirtual 49, 3) := by decide +kernel
theorem d_Mo_gone_26 : decode prog_7_method_36_code 26 = .ok (.ifCond .eq 41, 3) := by decide +kernel
theorem d_Mo_gone_29 : decode prog_7_method_36_code 29 = .ok (.aload_n 0, 1) := by decide +kernel
theorem d_Mo_gone_30 : decode prog_7_method_36_code 30 = .ok (.getfield 29, 3) := by decide +kernel
theorem d_Mo_gone_33 : decode prog_7_method_36_code 33 = .ok (.iload_n 3, 1) := by decide +kernel
theorem d_Mo_gone_34 : decode prog_7_method_36_code 34 = .ok (.baload, 1) := by decide +kernel
theorem d_Mo_gone_35 : decode prog_7_method_36_code 35 = .ok (.ifCond .eq 32, 3) := by decide +kernel
theorem d_Mo_gone_38 : decode prog_7_method_36_code 38 = .ok (.aload_n 0, 1) := by decide +kernel
theorem d_Mo_gone_39 : decode prog_7_method_36_code 39 = .ok (.iload_n 3, 1) := by decide +kernel
theorem d_Mo_gone_40 : decode prog_7_method_36_code 40 = .ok (.iconst 1, 1) := by decide +kernel
theorem d_Mo_gone_41 : decode prog_7_method_36_code 41 = .ok (.invokevirtual 45, 3) := by decide +kernel
theorem d_Mo_gone_44 : decode prog_7_method_36_code 44 = .ok (.iconst 4, 1) := by decide +kernel
theorem d_Mo_gone_45 : decode prog_7_method_36_code 45 = .ok (.if_icmp .ne 22, 3) := by decide +kernel
theorem d_Mo_gone_48 : decode prog_7_method_36_code 48 = .ok (.aload_n 0, 1) := by decide +kernel
theorem d_Mo_gone_49 : decode prog_7_method_36_code 49 = .ok (.iload_n 3, 1) := by decide +kernel
theorem d_Mo_gone_50 : decode prog_7_method_36_code 50 = .ok (.iconst 2, 1) := by decide +kernel
theorem d_Mo_gone_51 : decode prog_7_method_36_code 51 = .ok (.invokevirtual 45, 3) := by decide +kernel
theorem d_Mo_gone_54 : decode prog_7_method_36_code 54 = .ok (.aload_n 0, 1) := by decide +kernel
theorem d_Mo_gone_55 : decode prog_7_method_36_code 55 = .ok (.iload_n 1, 1) := by decide +kernel
theorem d_Mo_gone_56 : decode prog_7_method_36_code 56 = .ok (.iconst 0, 1) := by decide +kernel
theorem d_Mo_gone_57 : decode prog_7_method_36_code 57 = .ok (.invokevirtual 45, 3) := by decide +kernel
theorem d_Mo_gone_60 : decode prog_7_method_36_code 60 = .ok (.if_icmp .ne 7, 3) := by decide +kernel
theorem d_Mo_gone_63 : decode prog_7_method_36_code 63 = .ok (.iconst 1, 1) := by decide +kernel
theorem d_Mo_gone_64 : decode prog_7_method_36_code 64 = .ok (.goto 4, 3) := by decide +kernel
theorem d_Mo_gone_67 : decode prog_7_method_36_code 67 = .ok (.iconst 0, 1) := by decide +kernel
theorem d_Mo_gone_68 : decode prog_7_method_36_code 68 = .ok (.istore_n 2, 1) := by decide +kernel
theorem d_Mo_gone_69 : decode prog_7_method_36_code 69 = .ok (.iinc 3 1, 3) := by decide +kernel
theorem d_Mo_gone_72 : decode prog_7_method_36_code 72 = .ok (.goto (-68), 3) := by decide +kernel
theorem d_Mo_gone_75 : decode prog_7_method_36_code 75 = .ok (.iload_n 2, 1) := by decide +kernel
theorem d_Mo_gone_76 : decode prog_7_method_36_code 76 = .ok (.ireturn, 1) := by decide +kernel
theorem d_Mo_steps_0 : decode prog_7_method_37_code 0 = .ok (.iconst 0, 1) := by decide +kernel
theorem d_Mo_steps_1 : decode prog_7_method_37_code 1 = .ok (.istore_n 2, 1) := by decide +kernel
theorem d_Mo_steps_2 : decode prog_7_method_37_code 2 = .ok (.iload_n 1, 1) := by decide +kernel
theorem d_Mo_steps_3 : decode prog_7_method_37_code 3 = .ok (.istore_n 3, 1) := by decide +kernel
theorem d_Mo_steps_4 : decode prog_7_method_37_code 4 = .ok (.iconst 0, 1) := by decide +kernel
theorem d_Mo_steps_5 : decode prog_7_method_37_code 5 = .ok (.istore 4, 2) := by decide +kernel
theorem d_Mo_steps_7 : decode prog_7_method_37_code 7 = .ok (.iload 4, 2) := by decide +kernel
theorem d_Mo_steps_9 : decode prog_7_method_37_code 9 = .ok (.bipush 16, 2) := by decide +kernel
theorem d_Mo_steps_11 : decode prog_7_method_37_code 11 = .ok (.if_icmp .ge 33, 3) := by decide +kernel
theorem d_Mo_steps_14 : decode prog_7_method_37_code 14 = .ok (.aload_n 0, 1) := by decide +kernel
theorem d_Mo_steps_15 : decode prog_7_method_37_code 15 = .ok (.iload_n 3, 1) := by decide +kernel
theorem d_Mo_steps_16 : decode prog_7_method_37_code 16 = .ok (.iconst 3, 1) := by decide +kernel
theorem d_Mo_steps_17 : decode prog_7_method_37_code 17 = .ok (.invokevirtual 45, 3) := by decide +kernel
theorem d_Mo_steps_20 : decode prog_7_method_37_code 20 = .ok (.ifCond .eq 24, 3) := by decide +kernel
theorem d_Mo_steps_23 : decode prog_7_method_37_code 23 = .ok (.aload_n 0, 1) := by decide +kernel
theorem d_Mo_steps_24 : decode prog_7_method_37_code 24 = .ok (.aload_n 0, 1) := by decide +kernel
theorem d_Mo_steps_25 : decode prog_7_method_37_code 25 = .ok (.iload_n 3, 1) := by decide +kernel
theorem d_Mo_steps_26 : decode prog_7_method_37_code 26 = .ok (.iconst 3, 1) := by decide +kernel
theorem d_Mo_steps_27 : decode prog_7_method_37_code 27 = .ok (.invokevirtual 45, 3) := by decide +kernel
theorem d_Mo_steps_30 : decode prog_7_method_37_code 30 = .ok (.iconst 1, 1) := by decide +kernel
theorem d_Mo_steps_31 : decode prog_7_method_37_code 31 = .ok (.invokevirtual 53, 3) := by decide +kernel
theorem d_Mo_steps_34 : decode prog_7_method_37_code 34 = .ok (.istore_n 3, 1) := by decide +kernel
theorem d_Mo_steps_35 : decode prog_7_method_37_code 35 = .ok (.iinc 2 1, 3) := by decide +kernel
theorem d_Mo_steps_38 : decode prog_7_method_37_code 38 = .ok (.iinc 4 1, 3) := by decide +kernel
theorem d_Mo_steps_41 : decode prog_7_method_37_code 41 = .ok (.goto (-34), 3) := by decide +kernel
theorem d_Mo_steps_44 : decode prog_7_method_37_code 44 = .ok (.iload_n 2, 1) := by decide +kernel
theorem d_Mo_steps_45 : decode prog_7_method_37_code 45 = .ok (.ireturn, 1) := by decide +kernel
theorem d_Mo_up_0 : decode prog_7_method_38_code 0 = .ok (.iload_n 1, 1) := by decide +kernel
theorem d_Mo_up_1 : decode prog_7_method_38_code 1 = .ok (.istore_n 3, 1) := by decide +kernel
theorem d_Mo_up_2 : decode prog_7_method_38_code 2 = .ok (.iconst 0, 1) := by decide +kernel
theorem d_Mo_up_3 : decode prog_7_method_38_code 3 = .ok (.istore 4, 2) := by decide +kernel
theorem d_Mo_up_5 : decode prog_7_method_38_code 5 = .ok (.iload 4, 2) := by decide +kernel
theorem d_Mo_up_7 : decode prog_7_method_38_code 7 = .ok (.iload_n 2, 1) := by decide +kernel
theorem d_Mo_up_8 : decode prog_7_method_38_code 8 = .ok (.if_icmp .ge 21, 3) := by decide +kernel
theorem d_Mo_up_11 : decode prog_7_method_38_code 11 = .ok (.aload_n 0, 1) := by decide +kernel
theorem d_Mo_up_12 : decode prog_7_method_38_code 12 = .ok (.aload_n 0, 1) := by decide +kernel
theorem d_Mo_up_13 : decode prog_7_method_38_code 13 = .ok (.iload_n 3, 1) := by decide +kernel
theorem d_Mo_up_14 : decode prog_7_method_38_code 14 = .ok (.iconst 3, 1) := by decide +kernel
theorem d_Mo_up_15 : decode prog_7_method_38_code 15 = .ok (.invokevirtual 45, 3) := by decide +kernel
theorem d_Mo_up_18 : decode prog_7_method_38_code 18 = .ok (.iconst 1, 1) := by decide +kernel
theorem d_Mo_up_19 : decode prog_7_method_38_code 19 = .ok (.invokevirtual 53, 3) := by decide +kernel
theorem d_Mo_up_22 : decode prog_7_method_38_code 22 = .ok (.istore_n 3, 1) := by decide +kernel
theorem d_Mo_up_23 : decode prog_7_method_38_code 23 = .ok (.iinc 4 1, 3) := by decide +kernel
theorem d_Mo_up_26 : decode prog_7_method_38_code 26 = .ok (.goto (-21), 3) := by decide +kernel
theorem d_Mo_up_29 : decode prog_7_method_38_code 29 = .ok (.iload_n 3, 1) := by decide +kernel
theorem d_Mo_up_30 : decode prog_7_method_38_code 30 = .ok (.ireturn, 1) := by decide +kernel
theorem d_Mo_ahead_0 : decode prog_7_method_39_code 0 = .ok (.aload_n 0, 1) := by decide +kernel
theorem d_Mo_ahead_1 : decode prog_7_method_39_code 1 = .ok (.iload_n 1, 1) := by decide +kernel
theorem d_Mo_ahead_2 : decode prog_7_method_39_code 2 = .ok (.invokevirtual 117, 3) := by decide +kernel
theorem d_Mo_ahead_5 : decode prog_7_method_39_code 5 = .ok (.istore_n 3, 1) := by decide +kernel
theorem d_Mo_ahead_6 : decode prog_7_method_39_code 6 = .ok (.aload_n 0, 1) := by decide +kernel
theorem d_Mo_ahead_7 : decode prog_7_method_39_code 7 = .ok (.iload_n 2, 1) := by decide +kernel
theorem d_Mo_ahead_8 : decode prog_7_method_39_code 8 = .ok (.invokevirtual 117, 3) := by decide +kernel
theorem d_Mo_ahead_11 : decode prog_7_method_39_code 11 = .ok (.istore 4, 2) := by decide +kernel
theorem d_Mo_ahead_13 : decode prog_7_method_39_code 13 = .ok (.iload_n 3, 1) := by decide +kernel
theorem d_Mo_ahead_14 : decode prog_7_method_39_code 14 = .ok (.iload 4, 2) := by decide +kernel
theorem d_Mo_ahead_16 : decode prog_7_method_39_code 16 = .ok (.if_icmp .le 15, 3) := by decide +kernel
theorem d_Mo_ahead_19 : decode prog_7_method_39_code 19 = .ok (.aload_n 0, 1) := by decide +kernel
theorem d_Mo_ahead_20 : decode prog_7_method_39_code 20 = .ok (.iload_n 1, 1) := by decide +kernel
theorem d_Mo_ahead_21 : decode prog_7_method_39_code 21 = .ok (.iload_n 3, 1) := by decide +kernel
theorem d_Mo_ahead_22 : decode prog_7_method_39_code 22 = .ok (.iload 4, 2) := by decide +kernel
theorem d_Mo_ahead_24 : decode prog_7_method_39_code 24 = .ok (.isub, 1) := by decide +kernel
theorem d_Mo_ahead_25 : decode prog_7_method_39_code 25 = .ok (.invokevirtual 121, 3) := by decide +kernel
theorem d_Mo_ahead_28 : decode prog_7_method_39_code 28 = .ok (.goto 4, 3) := by decide +kernel
theorem d_Mo_ahead_31 : decode prog_7_method_39_code 31 = .ok (.iload_n 1, 1) := by decide +kernel
theorem d_Mo_ahead_32 : decode prog_7_method_39_code 32 = .ok (.istore 5, 2) := by decide +kernel
theorem d_Mo_ahead_34 : decode prog_7_method_39_code 34 = .ok (.iload 4, 2) := by decide +kernel
theorem d_Mo_ahead_36 : decode prog_7_method_39_code 36 = .ok (.iload_n 3, 1) := by decide +kernel
theorem d_Mo_ahead_37 : decode prog_7_method_39_code 37 = .ok (.if_icmp .le 15, 3) := by decide +kernel
theorem d_Mo_ahead_40 : decode prog_7_method_39_code 40 = .ok (.aload_n 0, 1) := by decide +kernel
theorem d_Mo_ahead_41 : decode prog_7_method_39_code 41 = .ok (.iload_n 2, 1) := by decide +kernel
theorem d_Mo_ahead_42 : decode prog_7_method_39_code 42 = .ok (.iload 4, 2) := by decide +kernel
theorem d_Mo_ahead_44 : decode prog_7_method_39_code 44 = .ok (.iload_n 3, 1) := by decide +kernel
theorem d_Mo_ahead_45 : decode prog_7_method_39_code 45 = .ok (.isub, 1) := by decide +kernel
theorem d_Mo_ahead_46 : decode prog_7_method_39_code 46 = .ok (.invokevirtual 121, 3) := by decide +kernel
theorem d_Mo_ahead_49 : decode prog_7_method_39_code 49 = .ok (.goto 4, 3) := by decide +kernel
theorem d_Mo_ahead_52 : decode prog_7_method_39_code 52 = .ok (.iload_n 2, 1) := by decide +kernel
theorem d_Mo_ahead_53 : decode prog_7_method_39_code 53 = .ok (.istore 6, 2) := by decide +kernel
theorem d_Mo_ahead_55 : decode prog_7_method_39_code 55 = .ok (.iload 5, 2) := by decide +kernel
