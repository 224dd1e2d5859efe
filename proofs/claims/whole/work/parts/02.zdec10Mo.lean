/-! decode rows -/
theorem d_Mo_wellFormed_125 : decode prog_7_method_20_code 125 = .ok (.iload_n 1, 1) := by decide +kernel
theorem d_Mo_wellFormed_126 : decode prog_7_method_20_code 126 = .ok (.iconst 3, 1) := by decide +kernel
theorem d_Mo_wellFormed_127 : decode prog_7_method_20_code 127 = .ok (.if_icmp .ne 7, 3) := by decide +kernel
theorem d_Mo_wellFormed_130 : decode prog_7_method_20_code 130 = .ok (.iconst 1, 1) := by decide +kernel
theorem d_Mo_wellFormed_131 : decode prog_7_method_20_code 131 = .ok (.goto 4, 3) := by decide +kernel
theorem d_Mo_wellFormed_134 : decode prog_7_method_20_code 134 = .ok (.iconst 0, 1) := by decide +kernel
theorem d_Mo_wellFormed_135 : decode prog_7_method_20_code 135 = .ok (.istore_n 2, 1) := by decide +kernel
theorem d_Mo_wellFormed_136 : decode prog_7_method_20_code 136 = .ok (.aload_n 0, 1) := by decide +kernel
theorem d_Mo_wellFormed_137 : decode prog_7_method_20_code 137 = .ok (.getfield 26, 3) := by decide +kernel
theorem d_Mo_wellFormed_140 : decode prog_7_method_20_code 140 = .ok (.iconst 4, 1) := by decide +kernel
theorem d_Mo_wellFormed_141 : decode prog_7_method_20_code 141 = .ok (.iaload, 1) := by decide +kernel
theorem d_Mo_wellFormed_142 : decode prog_7_method_20_code 142 = .ok (.iload_n 2, 1) := by decide +kernel
theorem d_Mo_wellFormed_143 : decode prog_7_method_20_code 143 = .ok (.ifCond .eq 8, 3) := by decide +kernel
theorem d_Mo_wellFormed_146 : decode prog_7_method_20_code 146 = .ok (.bipush 99, 2) := by decide +kernel
theorem d_Mo_wellFormed_148 : decode prog_7_method_20_code 148 = .ok (.goto 4, 3) := by decide +kernel
theorem d_Mo_wellFormed_151 : decode prog_7_method_20_code 151 = .ok (.iconst 0, 1) := by decide +kernel
theorem d_Mo_wellFormed_152 : decode prog_7_method_20_code 152 = .ok (.if_icmp .le 5, 3) := by decide +kernel
theorem d_Mo_wellFormed_155 : decode prog_7_method_20_code 155 = .ok (.iconst 0, 1) := by decide +kernel
theorem d_Mo_wellFormed_156 : decode prog_7_method_20_code 156 = .ok (.ireturn, 1) := by decide +kernel
theorem d_Mo_wellFormed_157 : decode prog_7_method_20_code 157 = .ok (.iload_n 1, 1) := by decide +kernel
theorem d_Mo_wellFormed_158 : decode prog_7_method_20_code 158 = .ok (.iconst 3, 1) := by decide +kernel
theorem d_Mo_wellFormed_159 : decode prog_7_method_20_code 159 = .ok (.if_icmp .ne 42, 3) := by decide +kernel
theorem d_Mo_wellFormed_162 : decode prog_7_method_20_code 162 = .ok (.aload_n 0, 1) := by decide +kernel
theorem d_Mo_wellFormed_163 : decode prog_7_method_20_code 163 = .ok (.getfield 26, 3) := by decide +kernel
theorem d_Mo_wellFormed_166 : decode prog_7_method_20_code 166 = .ok (.iconst 2, 1) := by decide +kernel
theorem d_Mo_wellFormed_167 : decode prog_7_method_20_code 167 = .ok (.iaload, 1) := by decide +kernel
theorem d_Mo_wellFormed_168 : decode prog_7_method_20_code 168 = .ok (.invokestatic 91, 3) := by decide +kernel
theorem d_Mo_wellFormed_171 : decode prog_7_method_20_code 171 = .ok (.ifCond .eq 28, 3) := by decide +kernel
theorem d_Mo_wellFormed_174 : decode prog_7_method_20_code 174 = .ok (.aload_n 0, 1) := by decide +kernel
theorem d_Mo_wellFormed_175 : decode prog_7_method_20_code 175 = .ok (.getfield 26, 3) := by decide +kernel
theorem d_Mo_wellFormed_178 : decode prog_7_method_20_code 178 = .ok (.iconst 3, 1) := by decide +kernel
theorem d_Mo_wellFormed_179 : decode prog_7_method_20_code 179 = .ok (.iaload, 1) := by decide +kernel
theorem d_Mo_wellFormed_180 : decode prog_7_method_20_code 180 = .ok (.ifCond .eq 15, 3) := by decide +kernel
theorem d_Mo_wellFormed_183 : decode prog_7_method_20_code 183 = .ok (.aload_n 0, 1) := by decide +kernel
theorem d_Mo_wellFormed_184 : decode prog_7_method_20_code 184 = .ok (.getfield 26, 3) := by decide +kernel
theorem d_Mo_wellFormed_187 : decode prog_7_method_20_code 187 = .ok (.iconst 3, 1) := by decide +kernel
theorem d_Mo_wellFormed_188 : decode prog_7_method_20_code 188 = .ok (.iaload, 1) := by decide +kernel
theorem d_Mo_wellFormed_189 : decode prog_7_method_20_code 189 = .ok (.invokestatic 91, 3) := by decide +kernel
theorem d_Mo_wellFormed_192 : decode prog_7_method_20_code 192 = .ok (.ifCond .eq 7, 3) := by decide +kernel
theorem d_Mo_wellFormed_195 : decode prog_7_method_20_code 195 = .ok (.iconst 1, 1) := by decide +kernel
theorem d_Mo_wellFormed_196 : decode prog_7_method_20_code 196 = .ok (.goto 4, 3) := by decide +kernel
theorem d_Mo_wellFormed_199 : decode prog_7_method_20_code 199 = .ok (.iconst 0, 1) := by decide +kernel
theorem d_Mo_wellFormed_200 : decode prog_7_method_20_code 200 = .ok (.ireturn, 1) := by decide +kernel
theorem d_Mo_wellFormed_201 : decode prog_7_method_20_code 201 = .ok (.iload_n 1, 1) := by decide +kernel
theorem d_Mo_wellFormed_202 : decode prog_7_method_20_code 202 = .ok (.iconst 4, 1) := by decide +kernel
theorem d_Mo_wellFormed_203 : decode prog_7_method_20_code 203 = .ok (.if_icmp .ne 30, 3) := by decide +kernel
theorem d_Mo_wellFormed_206 : decode prog_7_method_20_code 206 = .ok (.aload_n 0, 1) := by decide +kernel
theorem d_Mo_wellFormed_207 : decode prog_7_method_20_code 207 = .ok (.getfield 26, 3) := by decide +kernel
theorem d_Mo_wellFormed_210 : decode prog_7_method_20_code 210 = .ok (.iconst 2, 1) := by decide +kernel
theorem d_Mo_wellFormed_211 : decode prog_7_method_20_code 211 = .ok (.iaload, 1) := by decide +kernel
theorem d_Mo_wellFormed_212 : decode prog_7_method_20_code 212 = .ok (.invokestatic 91, 3) := by decide +kernel
theorem d_Mo_wellFormed_215 : decode prog_7_method_20_code 215 = .ok (.ifCond .eq 16, 3) := by decide +kernel
theorem d_Mo_wellFormed_218 : decode prog_7_method_20_code 218 = .ok (.aload_n 0, 1) := by decide +kernel
theorem d_Mo_wellFormed_219 : decode prog_7_method_20_code 219 = .ok (.getfield 26, 3) := by decide +kernel
theorem d_Mo_wellFormed_222 : decode prog_7_method_20_code 222 = .ok (.iconst 3, 1) := by decide +kernel
theorem d_Mo_wellFormed_223 : decode prog_7_method_20_code 223 = .ok (.iaload, 1) := by decide +kernel
theorem d_Mo_wellFormed_224 : decode prog_7_method_20_code 224 = .ok (.ifCond .ne 7, 3) := by decide +kernel
theorem d_Mo_wellFormed_227 : decode prog_7_method_20_code 227 = .ok (.iconst 1, 1) := by decide +kernel
theorem d_Mo_wellFormed_228 : decode prog_7_method_20_code 228 = .ok (.goto 4, 3) := by decide +kernel
theorem d_Mo_wellFormed_231 : decode prog_7_method_20_code 231 = .ok (.iconst 0, 1) := by decide +kernel
theorem d_Mo_wellFormed_232 : decode prog_7_method_20_code 232 = .ok (.ireturn, 1) := by decide +kernel
theorem d_Mo_wellFormed_233 : decode prog_7_method_20_code 233 = .ok (.aload_n 0, 1) := by decide +kernel
theorem d_Mo_wellFormed_234 : decode prog_7_method_20_code 234 = .ok (.getfield 26, 3) := by decide +kernel
theorem d_Mo_wellFormed_237 : decode prog_7_method_20_code 237 = .ok (.iconst 2, 1) := by decide +kernel
theorem d_Mo_wellFormed_238 : decode prog_7_method_20_code 238 = .ok (.iaload, 1) := by decide +kernel
theorem d_Mo_wellFormed_239 : decode prog_7_method_20_code 239 = .ok (.ifCond .eq 15, 3) := by decide +kernel
theorem d_Mo_wellFormed_242 : decode prog_7_method_20_code 242 = .ok (.aload_n 0, 1) := by decide +kernel
theorem d_Mo_wellFormed_243 : decode prog_7_method_20_code 243 = .ok (.getfield 26, 3) := by decide +kernel
theorem d_Mo_wellFormed_246 : decode prog_7_method_20_code 246 = .ok (.iconst 2, 1) := by decide +kernel
theorem d_Mo_wellFormed_247 : decode prog_7_method_20_code 247 = .ok (.iaload, 1) := by decide +kernel
theorem d_Mo_wellFormed_248 : decode prog_7_method_20_code 248 = .ok (.invokestatic 91, 3) := by decide +kernel
theorem d_Mo_wellFormed_251 : decode prog_7_method_20_code 251 = .ok (.ifCond .eq 17, 3) := by decide +kernel
theorem d_Mo_wellFormed_254 : decode prog_7_method_20_code 254 = .ok (.aload_n 0, 1) := by decide +kernel
theorem d_Mo_wellFormed_255 : decode prog_7_method_20_code 255 = .ok (.getfield 26, 3) := by decide +kernel
theorem d_Mo_wellFormed_258 : decode prog_7_method_20_code 258 = .ok (.iconst 3, 1) := by decide +kernel
theorem d_Mo_wellFormed_259 : decode prog_7_method_20_code 259 = .ok (.iaload, 1) := by decide +kernel
theorem d_Mo_wellFormed_260 : decode prog_7_method_20_code 260 = .ok (.iconst 3, 1) := by decide +kernel
theorem d_Mo_wellFormed_261 : decode prog_7_method_20_code 261 = .ok (.if_icmp .gt 7, 3) := by decide +kernel
theorem d_Mo_wellFormed_264 : decode prog_7_method_20_code 264 = .ok (.iconst 1, 1) := by decide +kernel
theorem d_Mo_wellFormed_265 : decode prog_7_method_20_code 265 = .ok (.goto 4, 3) := by decide +kernel
theorem d_Mo_wellFormed_268 : decode prog_7_method_20_code 268 = .ok (.iconst 0, 1) := by decide +kernel
theorem d_Mo_wellFormed_269 : decode prog_7_method_20_code 269 = .ok (.ireturn, 1) := by decide +kernel
theorem d_Mo_says_0 : decode prog_7_method_21_code 0 = .ok (.iload_n 1, 1) := by decide +kernel
theorem d_Mo_says_1 : decode prog_7_method_21_code 1 = .ok (.ifCond .ne 7, 3) := by decide +kernel
theorem d_Mo_says_4 : decode prog_7_method_21_code 4 = .ok (.iconst 1, 1) := by decide +kernel
theorem d_Mo_says_5 : decode prog_7_method_21_code 5 = .ok (.goto 4, 3) := by decide +kernel
theorem d_Mo_says_8 : decode prog_7_method_21_code 8 = .ok (.iconst 0, 1) := by decide +kernel
theorem d_Mo_says_9 : decode prog_7_method_21_code 9 = .ok (.istore_n 2, 1) := by decide +kernel
theorem d_Mo_says_10 : decode prog_7_method_21_code 10 = .ok (.bipush 6, 2) := by decide +kernel
theorem d_Mo_says_12 : decode prog_7_method_21_code 12 = .ok (.istore_n 3, 1) := by decide +kernel
theorem d_Mo_says_13 : decode prog_7_method_21_code 13 = .ok (.iload_n 3, 1) := by decide +kernel
theorem d_Mo_says_14 : decode prog_7_method_21_code 14 = .ok (.aload_n 0, 1) := by decide +kernel
theorem d_Mo_says_15 : decode prog_7_method_21_code 15 = .ok (.getfield 88, 3) := by decide +kernel
theorem d_Mo_says_18 : decode prog_7_method_21_code 18 = .ok (.if_icmp .ge 29, 3) := by decide +kernel
theorem d_Mo_says_21 : decode prog_7_method_21_code 21 = .ok (.iload_n 2, 1) := by decide +kernel
theorem d_Mo_says_22 : decode prog_7_method_21_code 22 = .ok (.ifCond .ne 13, 3) := by decide +kernel
theorem d_Mo_says_25 : decode prog_7_method_21_code 25 = .ok (.aload_n 0, 1) := by decide +kernel
theorem d_Mo_says_26 : decode prog_7_method_21_code 26 = .ok (.getfield 26, 3) := by decide +kernel
theorem d_Mo_says_29 : decode prog_7_method_21_code 29 = .ok (.iload_n 3, 1) := by decide +kernel
theorem d_Mo_says_30 : decode prog_7_method_21_code 30 = .ok (.iaload, 1) := by decide +kernel
theorem d_Mo_says_31 : decode prog_7_method_21_code 31 = .ok (.iload_n 1, 1) := by decide +kernel
theorem d_Mo_says_32 : decode prog_7_method_21_code 32 = .ok (.if_icmp .ne 7, 3) := by decide +kernel
theorem d_Mo_says_35 : decode prog_7_method_21_code 35 = .ok (.iconst 1, 1) := by decide +kernel
theorem d_Mo_says_36 : decode prog_7_method_21_code 36 = .ok (.goto 4, 3) := by decide +kernel
theorem d_Mo_says_39 : decode prog_7_method_21_code 39 = .ok (.iconst 0, 1) := by decide +kernel
theorem d_Mo_says_40 : decode prog_7_method_21_code 40 = .ok (.istore_n 2, 1) := by decide +kernel
theorem d_Mo_says_41 : decode prog_7_method_21_code 41 = .ok (.iinc 3 1, 3) := by decide +kernel
theorem d_Mo_says_44 : decode prog_7_method_21_code 44 = .ok (.goto (-31), 3) := by decide +kernel
theorem d_Mo_says_47 : decode prog_7_method_21_code 47 = .ok (.iload_n 2, 1) := by decide +kernel
theorem d_Mo_says_48 : decode prog_7_method_21_code 48 = .ok (.ireturn, 1) := by decide +kernel
theorem d_Mo_sameAsLine_0 : decode prog_7_method_22_code 0 = .ok (.aload_n 0, 1) := by decide +kernel
theorem d_Mo_sameAsLine_1 : decode prog_7_method_22_code 1 = .ok (.iload_n 1, 1) := by decide +kernel
theorem d_Mo_sameAsLine_2 : decode prog_7_method_22_code 2 = .ok (.iconst 5, 1) := by decide +kernel
theorem d_Mo_sameAsLine_3 : decode prog_7_method_22_code 3 = .ok (.invokevirtual 45, 3) := by decide +kernel
theorem d_Mo_sameAsLine_6 : decode prog_7_method_22_code 6 = .ok (.aload_n 0, 1) := by decide +kernel
theorem d_Mo_sameAsLine_7 : decode prog_7_method_22_code 7 = .ok (.getfield 26, 3) := by decide +kernel
theorem d_Mo_sameAsLine_10 : decode prog_7_method_22_code 10 = .ok (.iconst 5, 1) := by decide +kernel
theorem d_Mo_sameAsLine_11 : decode prog_7_method_22_code 11 = .ok (.iaload, 1) := by decide +kernel
theorem d_Mo_sameAsLine_12 : decode prog_7_method_22_code 12 = .ok (.if_icmp .ne 7, 3) := by decide +kernel
theorem d_Mo_sameAsLine_15 : decode prog_7_method_22_code 15 = .ok (.iconst 1, 1) := by decide +kernel
theorem d_Mo_sameAsLine_16 : decode prog_7_method_22_code 16 = .ok (.goto 4, 3) := by decide +kernel
theorem d_Mo_sameAsLine_19 : decode prog_7_method_22_code 19 = .ok (.iconst 0, 1) := by decide +kernel
theorem d_Mo_sameAsLine_20 : decode prog_7_method_22_code 20 = .ok (.istore_n 2, 1) := by decide +kernel
theorem d_Mo_sameAsLine_21 : decode prog_7_method_22_code 21 = .ok (.iconst 0, 1) := by decide +kernel
theorem d_Mo_sameAsLine_22 : decode prog_7_method_22_code 22 = .ok (.istore_n 3, 1) := by decide +kernel
theorem d_Mo_sameAsLine_23 : decode prog_7_method_22_code 23 = .ok (.iload_n 3, 1) := by decide +kernel
theorem d_Mo_sameAsLine_24 : decode prog_7_method_22_code 24 = .ok (.aload_n 0, 1) := by decide +kernel
theorem d_Mo_sameAsLine_25 : decode prog_7_method_22_code 25 = .ok (.getfield 88, 3) := by decide +kernel
theorem d_Mo_sameAsLine_28 : decode prog_7_method_22_code 28 = .ok (.if_icmp .ge 34, 3) := by decide +kernel
theorem d_Mo_sameAsLine_31 : decode prog_7_method_22_code 31 = .ok (.iload_n 2, 1) := by decide +kernel
theorem d_Mo_sameAsLine_32 : decode prog_7_method_22_code 32 = .ok (.ifCond .eq 30, 3) := by decide +kernel
theorem d_Mo_sameAsLine_35 : decode prog_7_method_22_code 35 = .ok (.aload_n 0, 1) := by decide +kernel
theorem d_Mo_sameAsLine_36 : decode prog_7_method_22_code 36 = .ok (.iload_n 1, 1) := by decide +kernel
theorem d_Mo_sameAsLine_37 : decode prog_7_method_22_code 37 = .ok (.iload_n 3, 1) := by decide +kernel
theorem d_Mo_sameAsLine_38 : decode prog_7_method_22_code 38 = .ok (.invokevirtual 45, 3) := by decide +kernel
theorem d_Mo_sameAsLine_41 : decode prog_7_method_22_code 41 = .ok (.aload_n 0, 1) := by decide +kernel
theorem d_Mo_sameAsLine_42 : decode prog_7_method_22_code 42 = .ok (.getfield 26, 3) := by decide +kernel
theorem d_Mo_sameAsLine_45 : decode prog_7_method_22_code 45 = .ok (.iload_n 3, 1) := by decide +kernel
theorem d_Mo_sameAsLine_46 : decode prog_7_method_22_code 46 = .ok (.iaload, 1) := by decide +kernel
theorem d_Mo_sameAsLine_47 : decode prog_7_method_22_code 47 = .ok (.if_icmp .ne 7, 3) := by decide +kernel
theorem d_Mo_sameAsLine_50 : decode prog_7_method_22_code 50 = .ok (.iconst 1, 1) := by decide +kernel
theorem d_Mo_sameAsLine_51 : decode prog_7_method_22_code 51 = .ok (.goto 4, 3) := by decide +kernel
theorem d_Mo_sameAsLine_54 : decode prog_7_method_22_code 54 = .ok (.iconst 0, 1) := by decide +kernel
theorem d_Mo_sameAsLine_55 : decode prog_7_method_22_code 55 = .ok (.istore_n 2, 1) := by decide +kernel
theorem d_Mo_sameAsLine_56 : decode prog_7_method_22_code 56 = .ok (.iinc 3 1, 3) := by decide +kernel
theorem d_Mo_sameAsLine_59 : decode prog_7_method_22_code 59 = .ok (.goto (-36), 3) := by decide +kernel
theorem d_Mo_sameAsLine_62 : decode prog_7_method_22_code 62 = .ok (.iload_n 2, 1) := by decide +kernel
theorem d_Mo_sameAsLine_63 : decode prog_7_method_22_code 63 = .ok (.ireturn, 1) := by decide +kernel
theorem d_Mo_receive_0 : decode prog_7_method_23_code 0 = .ok (.iload_n 1, 1) := by decide +kernel
theorem d_Mo_receive_1 : decode prog_7_method_23_code 1 = .ok (.invokestatic 75, 3) := by decide +kernel
theorem d_Mo_receive_4 : decode prog_7_method_23_code 4 = .ok (.ifCond .ne 5, 3) := by decide +kernel
theorem d_Mo_receive_7 : decode prog_7_method_23_code 7 = .ok (.iconst (-1), 1) := by decide +kernel
theorem d_Mo_receive_8 : decode prog_7_method_23_code 8 = .ok (.ireturn, 1) := by decide +kernel
theorem d_Mo_receive_9 : decode prog_7_method_23_code 9 = .ok (.aload_n 0, 1) := by decide +kernel
theorem d_Mo_receive_10 : decode prog_7_method_23_code 10 = .ok (.invokevirtual 94, 3) := by decide +kernel
theorem d_Mo_receive_13 : decode prog_7_method_23_code 13 = .ok (.ifCond .ne 6, 3) := by decide +kernel
theorem d_Mo_receive_16 : decode prog_7_method_23_code 16 = .ok (.bipush (-2), 2) := by decide +kernel
theorem d_Mo_receive_18 : decode prog_7_method_23_code 18 = .ok (.ireturn, 1) := by decide +kernel
theorem d_Mo_receive_19 : decode prog_7_method_23_code 19 = .ok (.aload_n 0, 1) := by decide +kernel
theorem d_Mo_receive_20 : decode prog_7_method_23_code 20 = .ok (.iload_n 1, 1) := by decide +kernel
theorem d_Mo_receive_21 : decode prog_7_method_23_code 21 = .ok (.putfield 41, 3) := by decide +kernel
theorem d_Mo_receive_24 : decode prog_7_method_23_code 24 = .ok (.aload_n 0, 1) := by decide +kernel
theorem d_Mo_receive_25 : decode prog_7_method_23_code 25 = .ok (.aload_n 0, 1) := by decide +kernel
theorem d_Mo_receive_26 : decode prog_7_method_23_code 26 = .ok (.getfield 26, 3) := by decide +kernel
theorem d_Mo_receive_29 : decode prog_7_method_23_code 29 = .ok (.iconst 0, 1) := by decide +kernel
theorem d_Mo_receive_30 : decode prog_7_method_23_code 30 = .ok (.iaload, 1) := by decide +kernel
theorem d_Mo_receive_31 : decode prog_7_method_23_code 31 = .ok (.iconst 0, 1) := by decide +kernel
theorem d_Mo_receive_32 : decode prog_7_method_23_code 32 = .ok (.invokevirtual 53, 3) := by decide +kernel
theorem d_Mo_receive_35 : decode prog_7_method_23_code 35 = .ok (.istore_n 2, 1) := by decide +kernel
theorem d_Mo_receive_36 : decode prog_7_method_23_code 36 = .ok (.iload_n 2, 1) := by decide +kernel
theorem d_Mo_receive_37 : decode prog_7_method_23_code 37 = .ok (.ifCond .lt 19, 3) := by decide +kernel
theorem d_Mo_receive_40 : decode prog_7_method_23_code 40 = .ok (.aload_n 0, 1) := by decide +kernel
theorem d_Mo_receive_41 : decode prog_7_method_23_code 41 = .ok (.iload_n 2, 1) := by decide +kernel
theorem d_Mo_receive_42 : decode prog_7_method_23_code 42 = .ok (.invokevirtual 98, 3) := by decide +kernel
theorem d_Mo_receive_45 : decode prog_7_method_23_code 45 = .ok (.ifCond .eq 8, 3) := by decide +kernel
theorem d_Mo_receive_48 : decode prog_7_method_23_code 48 = .ok (.bipush (-8), 2) := by decide +kernel
theorem d_Mo_receive_50 : decode prog_7_method_23_code 50 = .ok (.goto 5, 3) := by decide +kernel
theorem d_Mo_receive_53 : decode prog_7_method_23_code 53 = .ok (.bipush (-3), 2) := by decide +kernel
theorem d_Mo_receive_55 : decode prog_7_method_23_code 55 = .ok (.ireturn, 1) := by decide +kernel
theorem d_Mo_receive_56 : decode prog_7_method_23_code 56 = .ok (.aload_n 0, 1) := by decide +kernel
theorem d_Mo_receive_57 : decode prog_7_method_23_code 57 = .ok (.getfield 26, 3) := by decide +kernel
theorem d_Mo_receive_60 : decode prog_7_method_23_code 60 = .ok (.iconst 0, 1) := by decide +kernel
theorem d_Mo_receive_61 : decode prog_7_method_23_code 61 = .ok (.iaload, 1) := by decide +kernel
theorem d_Mo_receive_62 : decode prog_7_method_23_code 62 = .ok (.iconst 4, 1) := by decide +kernel
theorem d_Mo_receive_63 : decode prog_7_method_23_code 63 = .ok (.irem, 1) := by decide +kernel
theorem d_Mo_receive_64 : decode prog_7_method_23_code 64 = .ok (.iload_n 1, 1) := by decide +kernel
theorem d_Mo_receive_65 : decode prog_7_method_23_code 65 = .ok (.if_icmp .ne 6, 3) := by decide +kernel
theorem d_Mo_receive_68 : decode prog_7_method_23_code 68 = .ok (.bipush (-4), 2) := by decide +kernel
theorem d_Mo_receive_70 : decode prog_7_method_23_code 70 = .ok (.ireturn, 1) := by decide +kernel
theorem d_Mo_receive_71 : decode prog_7_method_23_code 71 = .ok (.aload_n 0, 1) := by decide +kernel
theorem d_Mo_receive_72 : decode prog_7_method_23_code 72 = .ok (.aload_n 0, 1) := by decide +kernel
theorem d_Mo_receive_73 : decode prog_7_method_23_code 73 = .ok (.getfield 26, 3) := by decide +kernel
theorem d_Mo_receive_76 : decode prog_7_method_23_code 76 = .ok (.iconst 2, 1) := by decide +kernel
theorem d_Mo_receive_77 : decode prog_7_method_23_code 77 = .ok (.iaload, 1) := by decide +kernel
theorem d_Mo_receive_78 : decode prog_7_method_23_code 78 = .ok (.invokevirtual 101, 3) := by decide +kernel
theorem d_Mo_receive_81 : decode prog_7_method_23_code 81 = .ok (.ifCond .eq 26, 3) := by decide +kernel
theorem d_Mo_receive_84 : decode prog_7_method_23_code 84 = .ok (.aload_n 0, 1) := by decide +kernel
theorem d_Mo_receive_85 : decode prog_7_method_23_code 85 = .ok (.getfield 26, 3) := by decide +kernel
theorem d_Mo_receive_88 : decode prog_7_method_23_code 88 = .ok (.iconst 1, 1) := by decide +kernel
theorem d_Mo_receive_89 : decode prog_7_method_23_code 89 = .ok (.iaload, 1) := by decide +kernel
theorem d_Mo_receive_90 : decode prog_7_method_23_code 90 = .ok (.iconst 3, 1) := by decide +kernel
theorem d_Mo_receive_91 : decode prog_7_method_23_code 91 = .ok (.if_icmp .ne 19, 3) := by decide +kernel
theorem d_Mo_receive_94 : decode prog_7_method_23_code 94 = .ok (.aload_n 0, 1) := by decide +kernel
theorem d_Mo_receive_95 : decode prog_7_method_23_code 95 = .ok (.aload_n 0, 1) := by decide +kernel
theorem d_Mo_receive_96 : decode prog_7_method_23_code 96 = .ok (.getfield 26, 3) := by decide +kernel
theorem d_Mo_receive_99 : decode prog_7_method_23_code 99 = .ok (.iconst 3, 1) := by decide +kernel
theorem d_Mo_receive_100 : decode prog_7_method_23_code 100 = .ok (.iaload, 1) := by decide +kernel
theorem d_Mo_receive_101 : decode prog_7_method_23_code 101 = .ok (.invokevirtual 101, 3) := by decide +kernel
theorem d_Mo_receive_104 : decode prog_7_method_23_code 104 = .ok (.ifCond .ne 6, 3) := by decide +kernel
theorem d_Mo_receive_107 : decode prog_7_method_23_code 107 = .ok (.bipush (-5), 2) := by decide +kernel
theorem d_Mo_receive_109 : decode prog_7_method_23_code 109 = .ok (.ireturn, 1) := by decide +kernel
theorem d_Mo_receive_110 : decode prog_7_method_23_code 110 = .ok (.aload_n 0, 1) := by decide +kernel
theorem d_Mo_receive_111 : decode prog_7_method_23_code 111 = .ok (.getfield 88, 3) := by decide +kernel
theorem d_Mo_receive_114 : decode prog_7_method_23_code 114 = .ok (.bipush 6, 2) := by decide +kernel
theorem d_Mo_receive_116 : decode prog_7_method_23_code 116 = .ok (.if_icmp .le 26, 3) := by decide +kernel
theorem d_Mo_receive_119 : decode prog_7_method_23_code 119 = .ok (.aload_n 0, 1) := by decide +kernel
theorem d_Mo_receive_120 : decode prog_7_method_23_code 120 = .ok (.getfield 26, 3) := by decide +kernel
theorem d_Mo_receive_123 : decode prog_7_method_23_code 123 = .ok (.aload_n 0, 1) := by decide +kernel
theorem d_Mo_receive_124 : decode prog_7_method_23_code 124 = .ok (.getfield 88, 3) := by decide +kernel
theorem d_Mo_receive_127 : decode prog_7_method_23_code 127 = .ok (.iconst 1, 1) := by decide +kernel
theorem d_Mo_receive_128 : decode prog_7_method_23_code 128 = .ok (.isub, 1) := by decide +kernel
theorem d_Mo_receive_129 : decode prog_7_method_23_code 129 = .ok (.iaload, 1) := by decide +kernel
theorem d_Mo_receive_130 : decode prog_7_method_23_code 130 = .ok (.aload_n 0, 1) := by decide +kernel
theorem d_Mo_receive_131 : decode prog_7_method_23_code 131 = .ok (.getfield 26, 3) := by decide +kernel
theorem d_Mo_receive_134 : decode prog_7_method_23_code 134 = .ok (.iconst 0, 1) := by decide +kernel
theorem d_Mo_receive_135 : decode prog_7_method_23_code 135 = .ok (.iaload, 1) := by decide +kernel
theorem d_Mo_receive_136 : decode prog_7_method_23_code 136 = .ok (.if_icmp .lt 6, 3) := by decide +kernel
theorem d_Mo_receive_139 : decode prog_7_method_23_code 139 = .ok (.bipush (-6), 2) := by decide +kernel
theorem d_Mo_receive_141 : decode prog_7_method_23_code 141 = .ok (.ireturn, 1) := by decide +kernel
theorem d_Mo_receive_142 : decode prog_7_method_23_code 142 = .ok (.aload_n 0, 1) := by decide +kernel
theorem d_Mo_receive_143 : decode prog_7_method_23_code 143 = .ok (.getfield 13, 3) := by decide +kernel
theorem d_Mo_receive_146 : decode prog_7_method_23_code 146 = .ok (.iload_n 1, 1) := by decide +kernel
theorem d_Mo_receive_147 : decode prog_7_method_23_code 147 = .ok (.iaload, 1) := by decide +kernel
theorem d_Mo_receive_148 : decode prog_7_method_23_code 148 = .ok (.bipush 16, 2) := by decide +kernel
theorem d_Mo_receive_150 : decode prog_7_method_23_code 150 = .ok (.if_icmp .lt 6, 3) := by decide +kernel
theorem d_Mo_receive_153 : decode prog_7_method_23_code 153 = .ok (.bipush (-7), 2) := by decide +kernel
theorem d_Mo_receive_155 : decode prog_7_method_23_code 155 = .ok (.ireturn, 1) := by decide +kernel
theorem d_Mo_receive_156 : decode prog_7_method_23_code 156 = .ok (.iconst 0, 1) := by decide +kernel
theorem d_Mo_receive_157 : decode prog_7_method_23_code 157 = .ok (.istore_n 3, 1) := by decide +kernel
theorem d_Mo_receive_158 : decode prog_7_method_23_code 158 = .ok (.iload_n 3, 1) := by decide +kernel
theorem d_Mo_receive_159 : decode prog_7_method_23_code 159 = .ok (.aload_n 0, 1) := by decide +kernel
theorem d_Mo_receive_160 : decode prog_7_method_23_code 160 = .ok (.getfield 88, 3) := by decide +kernel
theorem d_Mo_receive_163 : decode prog_7_method_23_code 163 = .ok (.if_icmp .ge 36, 3) := by decide +kernel
theorem d_Mo_receive_166 : decode prog_7_method_23_code 166 = .ok (.aload_n 0, 1) := by decide +kernel
theorem d_Mo_receive_167 : decode prog_7_method_23_code 167 = .ok (.getfield 7, 3) := by decide +kernel
theorem d_Mo_receive_170 : decode prog_7_method_23_code 170 = .ok (.bipush 12, 2) := by decide +kernel
theorem d_Mo_receive_172 : decode prog_7_method_23_code 172 = .ok (.bipush 16, 2) := by decide +kernel
theorem d_Mo_receive_174 : decode prog_7_method_23_code 174 = .ok (.iload_n 1, 1) := by decide +kernel
theorem d_Mo_receive_175 : decode prog_7_method_23_code 175 = .ok (.imul, 1) := by decide +kernel
theorem d_Mo_receive_176 : decode prog_7_method_23_code 176 = .ok (.aload_n 0, 1) := by decide +kernel
theorem d_Mo_receive_177 : decode prog_7_method_23_code 177 = .ok (.getfield 13, 3) := by decide +kernel
theorem d_Mo_receive_180 : decode prog_7_method_23_code 180 = .ok (.iload_n 1, 1) := by decide +kernel
theorem d_Mo_receive_181 : decode prog_7_method_23_code 181 = .ok (.iaload, 1) := by decide +kernel
theorem d_Mo_receive_182 : decode prog_7_method_23_code 182 = .ok (.iadd, 1) := by decide +kernel
theorem d_Mo_receive_183 : decode prog_7_method_23_code 183 = .ok (.imul, 1) := by decide +kernel
theorem d_Mo_receive_184 : decode prog_7_method_23_code 184 = .ok (.iload_n 3, 1) := by decide +kernel
theorem d_Mo_receive_185 : decode prog_7_method_23_code 185 = .ok (.iadd, 1) := by decide +kernel
theorem d_Mo_receive_186 : decode prog_7_method_23_code 186 = .ok (.aload_n 0, 1) := by decide +kernel
theorem d_Mo_receive_187 : decode prog_7_method_23_code 187 = .ok (.getfield 26, 3) := by decide +kernel
theorem d_Mo_receive_190 : decode prog_7_method_23_code 190 = .ok (.iload_n 3, 1) := by decide +kernel
theorem d_Mo_receive_191 : decode prog_7_method_23_code 191 = .ok (.iaload, 1) := by decide +kernel
theorem d_Mo_receive_192 : decode prog_7_method_23_code 192 = .ok (.iastore, 1) := by decide +kernel
theorem d_Mo_receive_193 : decode prog_7_method_23_code 193 = .ok (.iinc 3 1, 3) := by decide +kernel
theorem d_Mo_receive_196 : decode prog_7_method_23_code 196 = .ok (.goto (-38), 3) := by decide +kernel
theorem d_Mo_receive_199 : decode prog_7_method_23_code 199 = .ok (.aload_n 0, 1) := by decide +kernel
theorem d_Mo_receive_200 : decode prog_7_method_23_code 200 = .ok (.getfield 16, 3) := by decide +kernel
theorem d_Mo_receive_203 : decode prog_7_method_23_code 203 = .ok (.bipush 16, 2) := by decide +kernel
theorem d_Mo_receive_205 : decode prog_7_method_23_code 205 = .ok (.iload_n 1, 1) := by decide +kernel
theorem d_Mo_receive_206 : decode prog_7_method_23_code 206 = .ok (.imul, 1) := by decide +kernel
theorem d_Mo_receive_207 : decode prog_7_method_23_code 207 = .ok (.aload_n 0, 1) := by decide +kernel
theorem d_Mo_receive_208 : decode prog_7_method_23_code 208 = .ok (.getfield 13, 3) := by decide +kernel
theorem d_Mo_receive_211 : decode prog_7_method_23_code 211 = .ok (.iload_n 1, 1) := by decide +kernel
theorem d_Mo_receive_212 : decode prog_7_method_23_code 212 = .ok (.iaload, 1) := by decide +kernel
theorem d_Mo_receive_213 : decode prog_7_method_23_code 213 = .ok (.iadd, 1) := by decide +kernel
theorem d_Mo_receive_214 : decode prog_7_method_23_code 214 = .ok (.iconst 0, 1) := by decide +kernel
theorem d_Mo_receive_215 : decode prog_7_method_23_code 215 = .ok (.bastore, 1) := by decide +kernel
theorem d_Mo_receive_216 : decode prog_7_method_23_code 216 = .ok (.aload_n 0, 1) := by decide +kernel
theorem d_Mo_receive_217 : decode prog_7_method_23_code 217 = .ok (.getfield 13, 3) := by decide +kernel
theorem d_Mo_receive_220 : decode prog_7_method_23_code 220 = .ok (.iload_n 1, 1) := by decide +kernel
theorem d_Mo_receive_221 : decode prog_7_method_23_code 221 = .ok (.dup2, 1) := by decide +kernel
theorem d_Mo_receive_222 : decode prog_7_method_23_code 222 = .ok (.iaload, 1) := by decide +kernel
theorem d_Mo_receive_223 : decode prog_7_method_23_code 223 = .ok (.iconst 1, 1) := by decide +kernel
theorem d_Mo_receive_224 : decode prog_7_method_23_code 224 = .ok (.iadd, 1) := by decide +kernel
theorem d_Mo_receive_225 : decode prog_7_method_23_code 225 = .ok (.iastore, 1) := by decide +kernel
theorem d_Mo_receive_226 : decode prog_7_method_23_code 226 = .ok (.aload_n 0, 1) := by decide +kernel
theorem d_Mo_receive_227 : decode prog_7_method_23_code 227 = .ok (.invokevirtual 84, 3) := by decide +kernel
theorem d_Mo_receive_230 : decode prog_7_method_23_code 230 = .ok (.ireturn, 1) := by decide +kernel
theorem d_Mo_held_0 : decode prog_7_method_24_code 0 = .ok (.iload_n 1, 1) := by decide +kernel
theorem d_Mo_held_1 : decode prog_7_method_24_code 1 = .ok (.invokestatic 75, 3) := by decide +kernel
theorem d_Mo_held_4 : decode prog_7_method_24_code 4 = .ok (.ifCond .eq 12, 3) := by decide +kernel
theorem d_Mo_held_7 : decode prog_7_method_24_code 7 = .ok (.aload_n 0, 1) := by decide +kernel
theorem d_Mo_held_8 : decode prog_7_method_24_code 8 = .ok (.getfield 13, 3) := by decide +kernel
theorem d_Mo_held_11 : decode prog_7_method_24_code 11 = .ok (.iload_n 1, 1) := by decide +kernel
theorem d_Mo_held_12 : decode prog_7_method_24_code 12 = .ok (.iaload, 1) := by decide +kernel
theorem d_Mo_held_13 : decode prog_7_method_24_code 13 = .ok (.goto 4, 3) := by decide +kernel
theorem d_Mo_held_16 : decode prog_7_method_24_code 16 = .ok (.iconst (-1), 1) := by decide +kernel
theorem d_Mo_held_17 : decode prog_7_method_24_code 17 = .ok (.ireturn, 1) := by decide +kernel
theorem d_Mo_log_0 : decode prog_7_method_25_code 0 = .ok (.iload_n 1, 1) := by decide +kernel
theorem d_Mo_log_1 : decode prog_7_method_25_code 1 = .ok (.invokestatic 75, 3) := by decide +kernel
theorem d_Mo_log_4 : decode prog_7_method_25_code 4 = .ok (.ifCond .eq 18, 3) := by decide +kernel
theorem d_Mo_log_7 : decode prog_7_method_25_code 7 = .ok (.iload_n 2, 1) := by decide +kernel
theorem d_Mo_log_8 : decode prog_7_method_25_code 8 = .ok (.iconst (-1), 1) := by decide +kernel
theorem d_Mo_log_9 : decode prog_7_method_25_code 9 = .ok (.if_icmp .lt 13, 3) := by decide +kernel
theorem d_Mo_log_12 : decode prog_7_method_25_code 12 = .ok (.iload_n 2, 1) := by decide +kernel
theorem d_Mo_log_13 : decode prog_7_method_25_code 13 = .ok (.aload_n 0, 1) := by decide +kernel
theorem d_Mo_log_14 : decode prog_7_method_25_code 14 = .ok (.getfield 23, 3) := by decide +kernel
theorem d_Mo_log_17 : decode prog_7_method_25_code 17 = .ok (.iload_n 1, 1) := by decide +kernel
theorem d_Mo_log_18 : decode prog_7_method_25_code 18 = .ok (.iaload, 1) := by decide +kernel
theorem d_Mo_log_19 : decode prog_7_method_25_code 19 = .ok (.if_icmp .lt 5, 3) := by decide +kernel
theorem d_Mo_log_22 : decode prog_7_method_25_code 22 = .ok (.iconst (-1), 1) := by decide +kernel
theorem d_Mo_log_23 : decode prog_7_method_25_code 23 = .ok (.ireturn, 1) := by decide +kernel
theorem d_Mo_log_24 : decode prog_7_method_25_code 24 = .ok (.aload_n 0, 1) := by decide +kernel
theorem d_Mo_log_25 : decode prog_7_method_25_code 25 = .ok (.iload_n 1, 1) := by decide +kernel
theorem d_Mo_log_26 : decode prog_7_method_25_code 26 = .ok (.putfield 41, 3) := by decide +kernel
theorem d_Mo_log_29 : decode prog_7_method_25_code 29 = .ok (.iload_n 2, 1) := by decide +kernel
theorem d_Mo_log_30 : decode prog_7_method_25_code 30 = .ok (.iconst (-1), 1) := by decide +kernel
theorem d_Mo_log_31 : decode prog_7_method_25_code 31 = .ok (.if_icmp .ne 12, 3) := by decide +kernel
theorem d_Mo_log_34 : decode prog_7_method_25_code 34 = .ok (.aload_n 0, 1) := by decide +kernel
theorem d_Mo_log_35 : decode prog_7_method_25_code 35 = .ok (.getfield 23, 3) := by decide +kernel
theorem d_Mo_log_38 : decode prog_7_method_25_code 38 = .ok (.iload_n 1, 1) := by decide +kernel
theorem d_Mo_log_39 : decode prog_7_method_25_code 39 = .ok (.iaload, 1) := by decide +kernel
theorem d_Mo_log_40 : decode prog_7_method_25_code 40 = .ok (.goto 19, 3) := by decide +kernel
theorem d_Mo_log_43 : decode prog_7_method_25_code 43 = .ok (.aload_n 0, 1) := by decide +kernel
theorem d_Mo_log_44 : decode prog_7_method_25_code 44 = .ok (.aload_n 0, 1) := by decide +kernel
theorem d_Mo_log_45 : decode prog_7_method_25_code 45 = .ok (.getfield 20, 3) := by decide +kernel
theorem d_Mo_log_48 : decode prog_7_method_25_code 48 = .ok (.bipush 16, 2) := by decide +kernel
theorem d_Mo_log_50 : decode prog_7_method_25_code 50 = .ok (.iload_n 1, 1) := by decide +kernel
theorem d_Mo_log_51 : decode prog_7_method_25_code 51 = .ok (.imul, 1) := by decide +kernel
theorem d_Mo_log_52 : decode prog_7_method_25_code 52 = .ok (.iload_n 2, 1) := by decide +kernel
theorem d_Mo_log_53 : decode prog_7_method_25_code 53 = .ok (.iadd, 1) := by decide +kernel
theorem d_Mo_log_54 : decode prog_7_method_25_code 54 = .ok (.iaload, 1) := by decide +kernel
theorem d_Mo_log_55 : decode prog_7_method_25_code 55 = .ok (.iconst 0, 1) := by decide +kernel
theorem d_Mo_log_56 : decode prog_7_method_25_code 56 = .ok (.invokevirtual 45, 3) := by decide +kernel
theorem d_Mo_log_59 : decode prog_7_method_25_code 59 = .ok (.ireturn, 1) := by decide +kernel
theorem d_Mo_past_0 : decode prog_7_method_26_code 0 = .ok (.iload_n 1, 1) := by decide +kernel
theorem d_Mo_past_1 : decode prog_7_method_26_code 1 = .ok (.invokestatic 75, 3) := by decide +kernel
theorem d_Mo_past_4 : decode prog_7_method_26_code 4 = .ok (.ifCond .ne 5, 3) := by decide +kernel
theorem d_Mo_past_7 : decode prog_7_method_26_code 7 = .ok (.iconst 0, 1) := by decide +kernel
theorem d_Mo_past_8 : decode prog_7_method_26_code 8 = .ok (.ireturn, 1) := by decide +kernel
theorem d_Mo_past_9 : decode prog_7_method_26_code 9 = .ok (.aload_n 0, 1) := by decide +kernel
theorem d_Mo_past_10 : decode prog_7_method_26_code 10 = .ok (.iload_n 1, 1) := by decide +kernel
theorem d_Mo_past_11 : decode prog_7_method_26_code 11 = .ok (.invokevirtual 78, 3) := by decide +kernel
theorem d_Mo_past_14 : decode prog_7_method_26_code 14 = .ok (.aload_n 0, 1) := by decide +kernel
theorem d_Mo_past_15 : decode prog_7_method_26_code 15 = .ok (.iload_n 2, 1) := by decide +kernel
theorem d_Mo_past_16 : decode prog_7_method_26_code 16 = .ok (.iconst 1, 1) := by decide +kernel
theorem d_Mo_past_17 : decode prog_7_method_26_code 17 = .ok (.invokevirtual 53, 3) := by decide +kernel
theorem d_Mo_past_20 : decode prog_7_method_26_code 20 = .ok (.istore 4, 2) := by decide +kernel
theorem d_Mo_past_22 : decode prog_7_method_26_code 22 = .ok (.aload_n 0, 1) := by decide +kernel
theorem d_Mo_past_23 : decode prog_7_method_26_code 23 = .ok (.iload_n 3, 1) := by decide +kernel
theorem d_Mo_past_24 : decode prog_7_method_26_code 24 = .ok (.iconst 1, 1) := by decide +kernel
theorem d_Mo_past_25 : decode prog_7_method_26_code 25 = .ok (.invokevirtual 53, 3) := by decide +kernel
theorem d_Mo_past_28 : decode prog_7_method_26_code 28 = .ok (.istore 5, 2) := by decide +kernel
theorem d_Mo_past_30 : decode prog_7_method_26_code 30 = .ok (.iload 4, 2) := by decide +kernel
theorem d_Mo_past_32 : decode prog_7_method_26_code 32 = .ok (.ifCond .lt 28, 3) := by decide +kernel
theorem d_Mo_past_35 : decode prog_7_method_26_code 35 = .ok (.iload 5, 2) := by decide +kernel
theorem d_Mo_past_37 : decode prog_7_method_26_code 37 = .ok (.ifCond .lt 23, 3) := by decide +kernel
theorem d_Mo_past_40 : decode prog_7_method_26_code 40 = .ok (.aload_n 0, 1) := by decide +kernel
theorem d_Mo_past_41 : decode prog_7_method_26_code 41 = .ok (.getfield 32, 3) := by decide +kernel
theorem d_Mo_past_44 : decode prog_7_method_26_code 44 = .ok (.iload 5, 2) := by decide +kernel
theorem d_Mo_past_46 : decode prog_7_method_26_code 46 = .ok (.iaload, 1) := by decide +kernel
theorem d_Mo_past_47 : decode prog_7_method_26_code 47 = .ok (.iload 4, 2) := by decide +kernel
theorem d_Mo_past_49 : decode prog_7_method_26_code 49 = .ok (.ishr, 1) := by decide +kernel
theorem d_Mo_past_50 : decode prog_7_method_26_code 50 = .ok (.iconst 1, 1) := by decide +kernel
theorem d_Mo_past_51 : decode prog_7_method_26_code 51 = .ok (.iand, 1) := by decide +kernel
theorem d_Mo_past_52 : decode prog_7_method_26_code 52 = .ok (.iconst 1, 1) := by decide +kernel
theorem d_Mo_past_53 : decode prog_7_method_26_code 53 = .ok (.if_icmp .ne 7, 3) := by decide +kernel
theorem d_Mo_past_56 : decode prog_7_method_26_code 56 = .ok (.iconst 1, 1) := by decide +kernel
theorem d_Mo_past_57 : decode prog_7_method_26_code 57 = .ok (.goto 4, 3) := by decide +kernel
theorem d_Mo_past_60 : decode prog_7_method_26_code 60 = .ok (.iconst 0, 1) := by decide +kernel
theorem d_Mo_past_61 : decode prog_7_method_26_code 61 = .ok (.ireturn, 1) := by decide +kernel
theorem d_Mo_heads_0 : decode prog_7_method_27_code 0 = .ok (.iload_n 1, 1) := by decide +kernel
theorem d_Mo_heads_1 : decode prog_7_method_27_code 1 = .ok (.invokestatic 75, 3) := by decide +kernel
theorem d_Mo_heads_4 : decode prog_7_method_27_code 4 = .ok (.ifCond .ne 5, 3) := by decide +kernel
theorem d_Mo_heads_7 : decode prog_7_method_27_code 7 = .ok (.iconst (-1), 1) := by decide +kernel
theorem d_Mo_heads_8 : decode prog_7_method_27_code 8 = .ok (.ireturn, 1) := by decide +kernel
theorem d_Mo_heads_9 : decode prog_7_method_27_code 9 = .ok (.aload_n 0, 1) := by decide +kernel
theorem d_Mo_heads_10 : decode prog_7_method_27_code 10 = .ok (.iload_n 1, 1) := by decide +kernel
theorem d_Mo_heads_11 : decode prog_7_method_27_code 11 = .ok (.putfield 41, 3) := by decide +kernel
theorem d_Mo_heads_14 : decode prog_7_method_27_code 14 = .ok (.iconst 0, 1) := by decide +kernel
theorem d_Mo_heads_15 : decode prog_7_method_27_code 15 = .ok (.istore_n 2, 1) := by decide +kernel
theorem d_Mo_heads_16 : decode prog_7_method_27_code 16 = .ok (.iconst 0, 1) := by decide +kernel
theorem d_Mo_heads_17 : decode prog_7_method_27_code 17 = .ok (.istore_n 3, 1) := by decide +kernel
theorem d_Mo_heads_18 : decode prog_7_method_27_code 18 = .ok (.iload_n 3, 1) := by decide +kernel
theorem d_Mo_heads_19 : decode prog_7_method_27_code 19 = .ok (.aload_n 0, 1) := by decide +kernel
theorem d_Mo_heads_20 : decode prog_7_method_27_code 20 = .ok (.getfield 13, 3) := by decide +kernel
theorem d_Mo_heads_23 : decode prog_7_method_27_code 23 = .ok (.iload_n 1, 1) := by decide +kernel
theorem d_Mo_heads_24 : decode prog_7_method_27_code 24 = .ok (.iaload, 1) := by decide +kernel
theorem d_Mo_heads_25 : decode prog_7_method_27_code 25 = .ok (.if_icmp .ge 25, 3) := by decide +kernel
theorem d_Mo_heads_28 : decode prog_7_method_27_code 28 = .ok (.iload_n 2, 1) := by decide +kernel
theorem d_Mo_heads_29 : decode prog_7_method_27_code 29 = .ok (.aload_n 0, 1) := by decide +kernel
theorem d_Mo_heads_30 : decode prog_7_method_27_code 30 = .ok (.iload_n 3, 1) := by decide +kernel
theorem d_Mo_heads_31 : decode prog_7_method_27_code 31 = .ok (.invokevirtual 81, 3) := by decide +kernel
theorem d_Mo_heads_34 : decode prog_7_method_27_code 34 = .ok (.ifCond .eq 7, 3) := by decide +kernel
theorem d_Mo_heads_37 : decode prog_7_method_27_code 37 = .ok (.iconst 1, 1) := by decide +kernel
theorem d_Mo_heads_38 : decode prog_7_method_27_code 38 = .ok (.goto 4, 3) := by decide +kernel
theorem d_Mo_heads_41 : decode prog_7_method_27_code 41 = .ok (.iconst 0, 1) := by decide +kernel
theorem d_Mo_heads_42 : decode prog_7_method_27_code 42 = .ok (.iadd, 1) := by decide +kernel
theorem d_Mo_heads_43 : decode prog_7_method_27_code 43 = .ok (.istore_n 2, 1) := by decide +kernel
theorem d_Mo_heads_44 : decode prog_7_method_27_code 44 = .ok (.iinc 3 1, 3) := by decide +kernel
theorem d_Mo_heads_47 : decode prog_7_method_27_code 47 = .ok (.goto (-29), 3) := by decide +kernel
theorem d_Mo_heads_50 : decode prog_7_method_27_code 50 = .ok (.iload_n 2, 1) := by decide +kernel
theorem d_Mo_heads_51 : decode prog_7_method_27_code 51 = .ok (.ireturn, 1) := by decide +kernel
theorem d_Mo_value_0 : decode prog_7_method_28_code 0 = .ok (.iload_n 1, 1) := by decide +kernel
theorem d_Mo_value_1 : decode prog_7_method_28_code 1 = .ok (.invokestatic 75, 3) := by decide +kernel
theorem d_Mo_value_4 : decode prog_7_method_28_code 4 = .ok (.ifCond .ne 5, 3) := by decide +kernel
theorem d_Mo_value_7 : decode prog_7_method_28_code 7 = .ok (.iconst (-1), 1) := by decide +kernel
theorem d_Mo_value_8 : decode prog_7_method_28_code 8 = .ok (.ireturn, 1) := by decide +kernel
theorem d_Mo_value_9 : decode prog_7_method_28_code 9 = .ok (.aload_n 0, 1) := by decide +kernel
theorem d_Mo_value_10 : decode prog_7_method_28_code 10 = .ok (.iload_n 1, 1) := by decide +kernel
theorem d_Mo_value_11 : decode prog_7_method_28_code 11 = .ok (.putfield 41, 3) := by decide +kernel
theorem d_Mo_value_14 : decode prog_7_method_28_code 14 = .ok (.aload_n 0, 1) := by decide +kernel
theorem d_Mo_value_15 : decode prog_7_method_28_code 15 = .ok (.iload_n 2, 1) := by decide +kernel
theorem d_Mo_value_16 : decode prog_7_method_28_code 16 = .ok (.iconst 1, 1) := by decide +kernel
theorem d_Mo_value_17 : decode prog_7_method_28_code 17 = .ok (.invokevirtual 53, 3) := by decide +kernel
theorem d_Mo_value_20 : decode prog_7_method_28_code 20 = .ok (.istore_n 3, 1) := by decide +kernel
theorem d_Mo_value_21 : decode prog_7_method_28_code 21 = .ok (.iload_n 3, 1) := by decide +kernel
theorem d_Mo_value_22 : decode prog_7_method_28_code 22 = .ok (.ifCond .ge 7, 3) := by decide +kernel
theorem d_Mo_value_25 : decode prog_7_method_28_code 25 = .ok (.iconst (-1), 1) := by decide +kernel
theorem d_Mo_value_26 : decode prog_7_method_28_code 26 = .ok (.goto 9, 3) := by decide +kernel
theorem d_Mo_value_29 : decode prog_7_method_28_code 29 = .ok (.aload_n 0, 1) := by decide +kernel
theorem d_Mo_value_30 : decode prog_7_method_28_code 30 = .ok (.iload_n 3, 1) := by decide +kernel
theorem d_Mo_value_31 : decode prog_7_method_28_code 31 = .ok (.iconst 4, 1) := by decide +kernel
theorem d_Mo_value_32 : decode prog_7_method_28_code 32 = .ok (.invokevirtual 45, 3) := by decide +kernel
theorem d_Mo_value_35 : decode prog_7_method_28_code 35 = .ok (.ireturn, 1) := by decide +kernel
theorem d_Mo_level_0 : decode prog_7_method_29_code 0 = .ok (.iload_n 1, 1) := by decide +kernel
theorem d_Mo_level_1 : decode prog_7_method_29_code 1 = .ok (.invokestatic 75, 3) := by decide +kernel
theorem d_Mo_level_4 : decode prog_7_method_29_code 4 = .ok (.ifCond .eq 10, 3) := by decide +kernel
theorem d_Mo_level_7 : decode prog_7_method_29_code 7 = .ok (.iload_n 2, 1) := by decide +kernel
theorem d_Mo_level_8 : decode prog_7_method_29_code 8 = .ok (.invokestatic 75, 3) := by decide +kernel
theorem d_Mo_level_11 : decode prog_7_method_29_code 11 = .ok (.ifCond .ne 5, 3) := by decide +kernel
theorem d_Mo_level_14 : decode prog_7_method_29_code 14 = .ok (.iconst 0, 1) := by decide +kernel
theorem d_Mo_level_15 : decode prog_7_method_29_code 15 = .ok (.ireturn, 1) := by decide +kernel
theorem d_Mo_level_16 : decode prog_7_method_29_code 16 = .ok (.aload_n 0, 1) := by decide +kernel
theorem d_Mo_level_17 : decode prog_7_method_29_code 17 = .ok (.getfield 23, 3) := by decide +kernel
theorem d_Mo_level_20 : decode prog_7_method_29_code 20 = .ok (.iload_n 1, 1) := by decide +kernel
theorem d_Mo_level_21 : decode prog_7_method_29_code 21 = .ok (.iaload, 1) := by decide +kernel
theorem d_Mo_level_22 : decode prog_7_method_29_code 22 = .ok (.aload_n 0, 1) := by decide +kernel
theorem d_Mo_level_23 : decode prog_7_method_29_code 23 = .ok (.getfield 23, 3) := by decide +kernel
theorem d_Mo_level_26 : decode prog_7_method_29_code 26 = .ok (.iload_n 2, 1) := by decide +kernel
theorem d_Mo_level_27 : decode prog_7_method_29_code 27 = .ok (.iaload, 1) := by decide +kernel
theorem d_Mo_level_28 : decode prog_7_method_29_code 28 = .ok (.if_icmp .ne 7, 3) := by decide +kernel
theorem d_Mo_level_31 : decode prog_7_method_29_code 31 = .ok (.iconst 1, 1) := by decide +kernel
theorem d_Mo_level_32 : decode prog_7_method_29_code 32 = .ok (.goto 4, 3) := by decide +kernel
theorem d_Mo_level_35 : decode prog_7_method_29_code 35 = .ok (.iconst 0, 1) := by decide +kernel
theorem d_Mo_level_36 : decode prog_7_method_29_code 36 = .ok (.istore_n 3, 1) := by decide +kernel
theorem d_Mo_level_37 : decode prog_7_method_29_code 37 = .ok (.iconst 0, 1) := by decide +kernel
theorem d_Mo_level_38 : decode prog_7_method_29_code 38 = .ok (.istore 4, 2) := by decide +kernel
theorem d_Mo_level_40 : decode prog_7_method_29_code 40 = .ok (.iload 4, 2) := by decide +kernel
theorem d_Mo_level_42 : decode prog_7_method_29_code 42 = .ok (.aload_n 0, 1) := by decide +kernel
theorem d_Mo_level_43 : decode prog_7_method_29_code 43 = .ok (.getfield 13, 3) := by decide +kernel
