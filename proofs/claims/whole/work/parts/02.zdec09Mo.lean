/-! decode rows -/
theorem d_Mo_settle_25 : decode prog_7_method_14_code 25 = .ok (.iaload, 1) := by decide +kernel
theorem d_Mo_settle_26 : decode prog_7_method_14_code 26 = .ok (.if_icmp .ge 50, 3) := by decide +kernel
theorem d_Mo_settle_29 : decode prog_7_method_14_code 29 = .ok (.aload_n 0, 1) := by decide +kernel
theorem d_Mo_settle_30 : decode prog_7_method_14_code 30 = .ok (.iload 4, 2) := by decide +kernel
theorem d_Mo_settle_32 : decode prog_7_method_14_code 32 = .ok (.invokevirtual 49, 3) := by decide +kernel
theorem d_Mo_settle_35 : decode prog_7_method_14_code 35 = .ok (.ifCond .ne 35, 3) := by decide +kernel
theorem d_Mo_settle_38 : decode prog_7_method_14_code 38 = .ok (.aload_n 0, 1) := by decide +kernel
theorem d_Mo_settle_39 : decode prog_7_method_14_code 39 = .ok (.iload 4, 2) := by decide +kernel
theorem d_Mo_settle_41 : decode prog_7_method_14_code 41 = .ok (.invokevirtual 69, 3) := by decide +kernel
theorem d_Mo_settle_44 : decode prog_7_method_14_code 44 = .ok (.ifCond .eq 26, 3) := by decide +kernel
theorem d_Mo_settle_47 : decode prog_7_method_14_code 47 = .ok (.iload_n 3, 1) := by decide +kernel
theorem d_Mo_settle_48 : decode prog_7_method_14_code 48 = .ok (.ifCond .lt 19, 3) := by decide +kernel
theorem d_Mo_settle_51 : decode prog_7_method_14_code 51 = .ok (.aload_n 0, 1) := by decide +kernel
theorem d_Mo_settle_52 : decode prog_7_method_14_code 52 = .ok (.iload 4, 2) := by decide +kernel
theorem d_Mo_settle_54 : decode prog_7_method_14_code 54 = .ok (.iconst 0, 1) := by decide +kernel
theorem d_Mo_settle_55 : decode prog_7_method_14_code 55 = .ok (.invokevirtual 45, 3) := by decide +kernel
theorem d_Mo_settle_58 : decode prog_7_method_14_code 58 = .ok (.aload_n 0, 1) := by decide +kernel
theorem d_Mo_settle_59 : decode prog_7_method_14_code 59 = .ok (.iload_n 3, 1) := by decide +kernel
theorem d_Mo_settle_60 : decode prog_7_method_14_code 60 = .ok (.iconst 0, 1) := by decide +kernel
theorem d_Mo_settle_61 : decode prog_7_method_14_code 61 = .ok (.invokevirtual 45, 3) := by decide +kernel
theorem d_Mo_settle_64 : decode prog_7_method_14_code 64 = .ok (.if_icmp .ge 6, 3) := by decide +kernel
theorem d_Mo_settle_67 : decode prog_7_method_14_code 67 = .ok (.iload 4, 2) := by decide +kernel
theorem d_Mo_settle_69 : decode prog_7_method_14_code 69 = .ok (.istore_n 3, 1) := by decide +kernel
theorem d_Mo_settle_70 : decode prog_7_method_14_code 70 = .ok (.iinc 4 1, 3) := by decide +kernel
theorem d_Mo_settle_73 : decode prog_7_method_14_code 73 = .ok (.goto (-58), 3) := by decide +kernel
theorem d_Mo_settle_76 : decode prog_7_method_14_code 76 = .ok (.iload_n 3, 1) := by decide +kernel
theorem d_Mo_settle_77 : decode prog_7_method_14_code 77 = .ok (.ifCond .lt 11, 3) := by decide +kernel
theorem d_Mo_settle_80 : decode prog_7_method_14_code 80 = .ok (.aload_n 0, 1) := by decide +kernel
theorem d_Mo_settle_81 : decode prog_7_method_14_code 81 = .ok (.iload_n 3, 1) := by decide +kernel
theorem d_Mo_settle_82 : decode prog_7_method_14_code 82 = .ok (.invokevirtual 72, 3) := by decide +kernel
theorem d_Mo_settle_85 : decode prog_7_method_14_code 85 = .ok (.iinc 1 1, 3) := by decide +kernel
theorem d_Mo_settle_88 : decode prog_7_method_14_code 88 = .ok (.iinc 2 1, 3) := by decide +kernel
theorem d_Mo_settle_91 : decode prog_7_method_14_code 91 = .ok (.goto (-87), 3) := by decide +kernel
theorem d_Mo_settle_94 : decode prog_7_method_14_code 94 = .ok (.iload_n 1, 1) := by decide +kernel
theorem d_Mo_settle_95 : decode prog_7_method_14_code 95 = .ok (.ireturn, 1) := by decide +kernel
theorem d_Mo_edit_0 : decode prog_7_method_15_code 0 = .ok (.iload_n 1, 1) := by decide +kernel
theorem d_Mo_edit_1 : decode prog_7_method_15_code 1 = .ok (.invokestatic 75, 3) := by decide +kernel
theorem d_Mo_edit_4 : decode prog_7_method_15_code 4 = .ok (.ifCond .eq 12, 3) := by decide +kernel
theorem d_Mo_edit_7 : decode prog_7_method_15_code 7 = .ok (.iload_n 2, 1) := by decide +kernel
theorem d_Mo_edit_8 : decode prog_7_method_15_code 8 = .ok (.ifCond .lt 8, 3) := by decide +kernel
theorem d_Mo_edit_11 : decode prog_7_method_15_code 11 = .ok (.iload_n 2, 1) := by decide +kernel
theorem d_Mo_edit_12 : decode prog_7_method_15_code 12 = .ok (.iconst 5, 1) := by decide +kernel
theorem d_Mo_edit_13 : decode prog_7_method_15_code 13 = .ok (.if_icmp .le 5, 3) := by decide +kernel
theorem d_Mo_edit_16 : decode prog_7_method_15_code 16 = .ok (.iconst (-1), 1) := by decide +kernel
theorem d_Mo_edit_17 : decode prog_7_method_15_code 17 = .ok (.ireturn, 1) := by decide +kernel
theorem d_Mo_edit_18 : decode prog_7_method_15_code 18 = .ok (.aload_n 0, 1) := by decide +kernel
theorem d_Mo_edit_19 : decode prog_7_method_15_code 19 = .ok (.iload_n 1, 1) := by decide +kernel
theorem d_Mo_edit_20 : decode prog_7_method_15_code 20 = .ok (.invokevirtual 78, 3) := by decide +kernel
theorem d_Mo_edit_23 : decode prog_7_method_15_code 23 = .ok (.iload_n 2, 1) := by decide +kernel
theorem d_Mo_edit_24 : decode prog_7_method_15_code 24 = .ok (.iconst 3, 1) := by decide +kernel
theorem d_Mo_edit_25 : decode prog_7_method_15_code 25 = .ok (.if_icmp .eq 12, 3) := by decide +kernel
theorem d_Mo_edit_28 : decode prog_7_method_15_code 28 = .ok (.iload_n 2, 1) := by decide +kernel
theorem d_Mo_edit_29 : decode prog_7_method_15_code 29 = .ok (.iconst 4, 1) := by decide +kernel
theorem d_Mo_edit_30 : decode prog_7_method_15_code 30 = .ok (.if_icmp .eq 7, 3) := by decide +kernel
theorem d_Mo_edit_33 : decode prog_7_method_15_code 33 = .ok (.iconst 1, 1) := by decide +kernel
theorem d_Mo_edit_34 : decode prog_7_method_15_code 34 = .ok (.goto 4, 3) := by decide +kernel
theorem d_Mo_edit_37 : decode prog_7_method_15_code 37 = .ok (.iconst 0, 1) := by decide +kernel
theorem d_Mo_edit_38 : decode prog_7_method_15_code 38 = .ok (.istore 6, 2) := by decide +kernel
theorem d_Mo_edit_40 : decode prog_7_method_15_code 40 = .ok (.iload_n 2, 1) := by decide +kernel
theorem d_Mo_edit_41 : decode prog_7_method_15_code 41 = .ok (.ifCond .eq 8, 3) := by decide +kernel
theorem d_Mo_edit_44 : decode prog_7_method_15_code 44 = .ok (.iload_n 2, 1) := by decide +kernel
theorem d_Mo_edit_45 : decode prog_7_method_15_code 45 = .ok (.iconst 3, 1) := by decide +kernel
theorem d_Mo_edit_46 : decode prog_7_method_15_code 46 = .ok (.if_icmp .ne 7, 3) := by decide +kernel
theorem d_Mo_edit_49 : decode prog_7_method_15_code 49 = .ok (.iconst 1, 1) := by decide +kernel
theorem d_Mo_edit_50 : decode prog_7_method_15_code 50 = .ok (.goto 4, 3) := by decide +kernel
theorem d_Mo_edit_53 : decode prog_7_method_15_code 53 = .ok (.iconst 0, 1) := by decide +kernel
theorem d_Mo_edit_54 : decode prog_7_method_15_code 54 = .ok (.istore 7, 2) := by decide +kernel
theorem d_Mo_edit_56 : decode prog_7_method_15_code 56 = .ok (.iload 6, 2) := by decide +kernel
theorem d_Mo_edit_58 : decode prog_7_method_15_code 58 = .ok (.ifCond .eq 14, 3) := by decide +kernel
theorem d_Mo_edit_61 : decode prog_7_method_15_code 61 = .ok (.iload 4, 2) := by decide +kernel
theorem d_Mo_edit_63 : decode prog_7_method_15_code 63 = .ok (.ifCond .lt 51, 3) := by decide +kernel
theorem d_Mo_edit_66 : decode prog_7_method_15_code 66 = .ok (.iload 4, 2) := by decide +kernel
theorem d_Mo_edit_68 : decode prog_7_method_15_code 68 = .ok (.iconst 3, 1) := by decide +kernel
theorem d_Mo_edit_69 : decode prog_7_method_15_code 69 = .ok (.if_icmp .gt 45, 3) := by decide +kernel
theorem d_Mo_edit_72 : decode prog_7_method_15_code 72 = .ok (.iload_n 2, 1) := by decide +kernel
theorem d_Mo_edit_73 : decode prog_7_method_15_code 73 = .ok (.iconst 4, 1) := by decide +kernel
theorem d_Mo_edit_74 : decode prog_7_method_15_code 74 = .ok (.if_icmp .ne 8, 3) := by decide +kernel
theorem d_Mo_edit_77 : decode prog_7_method_15_code 77 = .ok (.iload 4, 2) := by decide +kernel
theorem d_Mo_edit_79 : decode prog_7_method_15_code 79 = .ok (.ifCond .ne 35, 3) := by decide +kernel
theorem d_Mo_edit_82 : decode prog_7_method_15_code 82 = .ok (.iload 5, 2) := by decide +kernel
theorem d_Mo_edit_84 : decode prog_7_method_15_code 84 = .ok (.ifCond .lt 30, 3) := by decide +kernel
theorem d_Mo_edit_87 : decode prog_7_method_15_code 87 = .ok (.iload 5, 2) := by decide +kernel
theorem d_Mo_edit_89 : decode prog_7_method_15_code 89 = .ok (.iload 7, 2) := by decide +kernel
theorem d_Mo_edit_91 : decode prog_7_method_15_code 91 = .ok (.ifCond .eq 8, 3) := by decide +kernel
theorem d_Mo_edit_94 : decode prog_7_method_15_code 94 = .ok (.bipush 99, 2) := by decide +kernel
theorem d_Mo_edit_96 : decode prog_7_method_15_code 96 = .ok (.goto 4, 3) := by decide +kernel
theorem d_Mo_edit_99 : decode prog_7_method_15_code 99 = .ok (.iconst 0, 1) := by decide +kernel
theorem d_Mo_edit_100 : decode prog_7_method_15_code 100 = .ok (.if_icmp .gt 14, 3) := by decide +kernel
theorem d_Mo_edit_103 : decode prog_7_method_15_code 103 = .ok (.aload_n 0, 1) := by decide +kernel
theorem d_Mo_edit_104 : decode prog_7_method_15_code 104 = .ok (.iload_n 2, 1) := by decide +kernel
theorem d_Mo_edit_105 : decode prog_7_method_15_code 105 = .ok (.iload_n 3, 1) := by decide +kernel
theorem d_Mo_edit_106 : decode prog_7_method_15_code 106 = .ok (.iload 4, 2) := by decide +kernel
theorem d_Mo_edit_108 : decode prog_7_method_15_code 108 = .ok (.invokevirtual 57, 3) := by decide +kernel
theorem d_Mo_edit_111 : decode prog_7_method_15_code 111 = .ok (.ifCond .ne 5, 3) := by decide +kernel
theorem d_Mo_edit_114 : decode prog_7_method_15_code 114 = .ok (.iconst (-1), 1) := by decide +kernel
theorem d_Mo_edit_115 : decode prog_7_method_15_code 115 = .ok (.ireturn, 1) := by decide +kernel
theorem d_Mo_edit_116 : decode prog_7_method_15_code 116 = .ok (.iconst 1, 1) := by decide +kernel
theorem d_Mo_edit_117 : decode prog_7_method_15_code 117 = .ok (.istore 8, 2) := by decide +kernel
theorem d_Mo_edit_119 : decode prog_7_method_15_code 119 = .ok (.iconst 0, 1) := by decide +kernel
theorem d_Mo_edit_120 : decode prog_7_method_15_code 120 = .ok (.istore 9, 2) := by decide +kernel
theorem d_Mo_edit_122 : decode prog_7_method_15_code 122 = .ok (.iconst 4, 1) := by decide +kernel
theorem d_Mo_edit_123 : decode prog_7_method_15_code 123 = .ok (.istore 10, 2) := by decide +kernel
theorem d_Mo_edit_125 : decode prog_7_method_15_code 125 = .ok (.iload 10, 2) := by decide +kernel
theorem d_Mo_edit_127 : decode prog_7_method_15_code 127 = .ok (.sipush 162, 3) := by decide +kernel
theorem d_Mo_edit_130 : decode prog_7_method_15_code 130 = .ok (.if_icmp .gt 73, 3) := by decide +kernel
theorem d_Mo_edit_133 : decode prog_7_method_15_code 133 = .ok (.aload_n 0, 1) := by decide +kernel
theorem d_Mo_edit_134 : decode prog_7_method_15_code 134 = .ok (.iload 10, 2) := by decide +kernel
theorem d_Mo_edit_136 : decode prog_7_method_15_code 136 = .ok (.iconst 1, 1) := by decide +kernel
theorem d_Mo_edit_137 : decode prog_7_method_15_code 137 = .ok (.invokevirtual 53, 3) := by decide +kernel
theorem d_Mo_edit_140 : decode prog_7_method_15_code 140 = .ok (.istore 11, 2) := by decide +kernel
theorem d_Mo_edit_142 : decode prog_7_method_15_code 142 = .ok (.iload 11, 2) := by decide +kernel
theorem d_Mo_edit_144 : decode prog_7_method_15_code 144 = .ok (.ifCond .lt 53, 3) := by decide +kernel
theorem d_Mo_edit_147 : decode prog_7_method_15_code 147 = .ok (.iload 10, 2) := by decide +kernel
theorem d_Mo_edit_149 : decode prog_7_method_15_code 149 = .ok (.iconst 4, 1) := by decide +kernel
theorem d_Mo_edit_150 : decode prog_7_method_15_code 150 = .ok (.idiv, 1) := by decide +kernel
theorem d_Mo_edit_151 : decode prog_7_method_15_code 151 = .ok (.iconst 1, 1) := by decide +kernel
theorem d_Mo_edit_152 : decode prog_7_method_15_code 152 = .ok (.iadd, 1) := by decide +kernel
theorem d_Mo_edit_153 : decode prog_7_method_15_code 153 = .ok (.istore 8, 2) := by decide +kernel
theorem d_Mo_edit_155 : decode prog_7_method_15_code 155 = .ok (.aload_n 0, 1) := by decide +kernel
theorem d_Mo_edit_156 : decode prog_7_method_15_code 156 = .ok (.iload 11, 2) := by decide +kernel
theorem d_Mo_edit_158 : decode prog_7_method_15_code 158 = .ok (.invokevirtual 81, 3) := by decide +kernel
theorem d_Mo_edit_161 : decode prog_7_method_15_code 161 = .ok (.ifCond .ne 21, 3) := by decide +kernel
theorem d_Mo_edit_164 : decode prog_7_method_15_code 164 = .ok (.iload 10, 2) := by decide +kernel
theorem d_Mo_edit_166 : decode prog_7_method_15_code 166 = .ok (.iload_n 3, 1) := by decide +kernel
theorem d_Mo_edit_167 : decode prog_7_method_15_code 167 = .ok (.if_icmp .eq 15, 3) := by decide +kernel
theorem d_Mo_edit_170 : decode prog_7_method_15_code 170 = .ok (.iload_n 2, 1) := by decide +kernel
theorem d_Mo_edit_171 : decode prog_7_method_15_code 171 = .ok (.iconst 3, 1) := by decide +kernel
theorem d_Mo_edit_172 : decode prog_7_method_15_code 172 = .ok (.if_icmp .ne 25, 3) := by decide +kernel
theorem d_Mo_edit_175 : decode prog_7_method_15_code 175 = .ok (.iload 10, 2) := by decide +kernel
theorem d_Mo_edit_177 : decode prog_7_method_15_code 177 = .ok (.iload 4, 2) := by decide +kernel
theorem d_Mo_edit_179 : decode prog_7_method_15_code 179 = .ok (.if_icmp .ne 18, 3) := by decide +kernel
theorem d_Mo_edit_182 : decode prog_7_method_15_code 182 = .ok (.aload_n 0, 1) := by decide +kernel
theorem d_Mo_edit_183 : decode prog_7_method_15_code 183 = .ok (.getfield 38, 3) := by decide +kernel
theorem d_Mo_edit_186 : decode prog_7_method_15_code 186 = .ok (.bipush 6, 2) := by decide +kernel
theorem d_Mo_edit_188 : decode prog_7_method_15_code 188 = .ok (.iload 9, 2) := by decide +kernel
theorem d_Mo_edit_190 : decode prog_7_method_15_code 190 = .ok (.iadd, 1) := by decide +kernel
theorem d_Mo_edit_191 : decode prog_7_method_15_code 191 = .ok (.iload 10, 2) := by decide +kernel
theorem d_Mo_edit_193 : decode prog_7_method_15_code 193 = .ok (.iastore, 1) := by decide +kernel
theorem d_Mo_edit_194 : decode prog_7_method_15_code 194 = .ok (.iinc 9 1, 3) := by decide +kernel
theorem d_Mo_edit_197 : decode prog_7_method_15_code 197 = .ok (.iinc 10 1, 3) := by decide +kernel
theorem d_Mo_edit_200 : decode prog_7_method_15_code 200 = .ok (.goto (-75), 3) := by decide +kernel
theorem d_Mo_edit_203 : decode prog_7_method_15_code 203 = .ok (.aload_n 0, 1) := by decide +kernel
theorem d_Mo_edit_204 : decode prog_7_method_15_code 204 = .ok (.getfield 13, 3) := by decide +kernel
theorem d_Mo_edit_207 : decode prog_7_method_15_code 207 = .ok (.iload_n 1, 1) := by decide +kernel
theorem d_Mo_edit_208 : decode prog_7_method_15_code 208 = .ok (.iaload, 1) := by decide +kernel
theorem d_Mo_edit_209 : decode prog_7_method_15_code 209 = .ok (.bipush 16, 2) := by decide +kernel
theorem d_Mo_edit_211 : decode prog_7_method_15_code 211 = .ok (.if_icmp .ge 17, 3) := by decide +kernel
theorem d_Mo_edit_214 : decode prog_7_method_15_code 214 = .ok (.iload 9, 2) := by decide +kernel
theorem d_Mo_edit_216 : decode prog_7_method_15_code 216 = .ok (.bipush 6, 2) := by decide +kernel
theorem d_Mo_edit_218 : decode prog_7_method_15_code 218 = .ok (.if_icmp .gt 10, 3) := by decide +kernel
theorem d_Mo_edit_221 : decode prog_7_method_15_code 221 = .ok (.iload 8, 2) := by decide +kernel
theorem d_Mo_edit_223 : decode prog_7_method_15_code 223 = .ok (.bipush 40, 2) := by decide +kernel
theorem d_Mo_edit_225 : decode prog_7_method_15_code 225 = .ok (.if_icmp .le 6, 3) := by decide +kernel
theorem d_Mo_edit_228 : decode prog_7_method_15_code 228 = .ok (.bipush (-7), 2) := by decide +kernel
theorem d_Mo_edit_230 : decode prog_7_method_15_code 230 = .ok (.ireturn, 1) := by decide +kernel
theorem d_Mo_edit_231 : decode prog_7_method_15_code 231 = .ok (.bipush 12, 2) := by decide +kernel
theorem d_Mo_edit_233 : decode prog_7_method_15_code 233 = .ok (.bipush 16, 2) := by decide +kernel
theorem d_Mo_edit_235 : decode prog_7_method_15_code 235 = .ok (.iload_n 1, 1) := by decide +kernel
theorem d_Mo_edit_236 : decode prog_7_method_15_code 236 = .ok (.imul, 1) := by decide +kernel
theorem d_Mo_edit_237 : decode prog_7_method_15_code 237 = .ok (.aload_n 0, 1) := by decide +kernel
theorem d_Mo_edit_238 : decode prog_7_method_15_code 238 = .ok (.getfield 13, 3) := by decide +kernel
theorem d_Mo_edit_241 : decode prog_7_method_15_code 241 = .ok (.iload_n 1, 1) := by decide +kernel
theorem d_Mo_edit_242 : decode prog_7_method_15_code 242 = .ok (.iaload, 1) := by decide +kernel
theorem d_Mo_edit_243 : decode prog_7_method_15_code 243 = .ok (.iadd, 1) := by decide +kernel
theorem d_Mo_edit_244 : decode prog_7_method_15_code 244 = .ok (.imul, 1) := by decide +kernel
theorem d_Mo_edit_245 : decode prog_7_method_15_code 245 = .ok (.istore 10, 2) := by decide +kernel
theorem d_Mo_edit_247 : decode prog_7_method_15_code 247 = .ok (.aload_n 0, 1) := by decide +kernel
theorem d_Mo_edit_248 : decode prog_7_method_15_code 248 = .ok (.getfield 7, 3) := by decide +kernel
theorem d_Mo_edit_251 : decode prog_7_method_15_code 251 = .ok (.iload 10, 2) := by decide +kernel
theorem d_Mo_edit_253 : decode prog_7_method_15_code 253 = .ok (.iconst 4, 1) := by decide +kernel
theorem d_Mo_edit_254 : decode prog_7_method_15_code 254 = .ok (.iload 8, 2) := by decide +kernel
theorem d_Mo_edit_256 : decode prog_7_method_15_code 256 = .ok (.imul, 1) := by decide +kernel
theorem d_Mo_edit_257 : decode prog_7_method_15_code 257 = .ok (.iload_n 1, 1) := by decide +kernel
theorem d_Mo_edit_258 : decode prog_7_method_15_code 258 = .ok (.iadd, 1) := by decide +kernel
theorem d_Mo_edit_259 : decode prog_7_method_15_code 259 = .ok (.iastore, 1) := by decide +kernel
theorem d_Mo_edit_260 : decode prog_7_method_15_code 260 = .ok (.aload_n 0, 1) := by decide +kernel
theorem d_Mo_edit_261 : decode prog_7_method_15_code 261 = .ok (.getfield 7, 3) := by decide +kernel
theorem d_Mo_edit_264 : decode prog_7_method_15_code 264 = .ok (.iload 10, 2) := by decide +kernel
theorem d_Mo_edit_266 : decode prog_7_method_15_code 266 = .ok (.iconst 1, 1) := by decide +kernel
theorem d_Mo_edit_267 : decode prog_7_method_15_code 267 = .ok (.iadd, 1) := by decide +kernel
theorem d_Mo_edit_268 : decode prog_7_method_15_code 268 = .ok (.iload_n 2, 1) := by decide +kernel
theorem d_Mo_edit_269 : decode prog_7_method_15_code 269 = .ok (.iastore, 1) := by decide +kernel
theorem d_Mo_edit_270 : decode prog_7_method_15_code 270 = .ok (.aload_n 0, 1) := by decide +kernel
theorem d_Mo_edit_271 : decode prog_7_method_15_code 271 = .ok (.getfield 7, 3) := by decide +kernel
theorem d_Mo_edit_274 : decode prog_7_method_15_code 274 = .ok (.iload 10, 2) := by decide +kernel
theorem d_Mo_edit_276 : decode prog_7_method_15_code 276 = .ok (.iconst 2, 1) := by decide +kernel
theorem d_Mo_edit_277 : decode prog_7_method_15_code 277 = .ok (.iadd, 1) := by decide +kernel
theorem d_Mo_edit_278 : decode prog_7_method_15_code 278 = .ok (.iload_n 3, 1) := by decide +kernel
theorem d_Mo_edit_279 : decode prog_7_method_15_code 279 = .ok (.iastore, 1) := by decide +kernel
theorem d_Mo_edit_280 : decode prog_7_method_15_code 280 = .ok (.aload_n 0, 1) := by decide +kernel
theorem d_Mo_edit_281 : decode prog_7_method_15_code 281 = .ok (.getfield 7, 3) := by decide +kernel
theorem d_Mo_edit_284 : decode prog_7_method_15_code 284 = .ok (.iload 10, 2) := by decide +kernel
theorem d_Mo_edit_286 : decode prog_7_method_15_code 286 = .ok (.iconst 3, 1) := by decide +kernel
theorem d_Mo_edit_287 : decode prog_7_method_15_code 287 = .ok (.iadd, 1) := by decide +kernel
theorem d_Mo_edit_288 : decode prog_7_method_15_code 288 = .ok (.iload 4, 2) := by decide +kernel
theorem d_Mo_edit_290 : decode prog_7_method_15_code 290 = .ok (.iastore, 1) := by decide +kernel
theorem d_Mo_edit_291 : decode prog_7_method_15_code 291 = .ok (.aload_n 0, 1) := by decide +kernel
theorem d_Mo_edit_292 : decode prog_7_method_15_code 292 = .ok (.getfield 7, 3) := by decide +kernel
theorem d_Mo_edit_295 : decode prog_7_method_15_code 295 = .ok (.iload 10, 2) := by decide +kernel
theorem d_Mo_edit_297 : decode prog_7_method_15_code 297 = .ok (.iconst 4, 1) := by decide +kernel
theorem d_Mo_edit_298 : decode prog_7_method_15_code 298 = .ok (.iadd, 1) := by decide +kernel
theorem d_Mo_edit_299 : decode prog_7_method_15_code 299 = .ok (.iload 5, 2) := by decide +kernel
theorem d_Mo_edit_301 : decode prog_7_method_15_code 301 = .ok (.iastore, 1) := by decide +kernel
theorem d_Mo_edit_302 : decode prog_7_method_15_code 302 = .ok (.aload_n 0, 1) := by decide +kernel
theorem d_Mo_edit_303 : decode prog_7_method_15_code 303 = .ok (.getfield 7, 3) := by decide +kernel
theorem d_Mo_edit_306 : decode prog_7_method_15_code 306 = .ok (.iload 10, 2) := by decide +kernel
theorem d_Mo_edit_308 : decode prog_7_method_15_code 308 = .ok (.iconst 5, 1) := by decide +kernel
theorem d_Mo_edit_309 : decode prog_7_method_15_code 309 = .ok (.iadd, 1) := by decide +kernel
theorem d_Mo_edit_310 : decode prog_7_method_15_code 310 = .ok (.iload 9, 2) := by decide +kernel
theorem d_Mo_edit_312 : decode prog_7_method_15_code 312 = .ok (.iastore, 1) := by decide +kernel
theorem d_Mo_edit_313 : decode prog_7_method_15_code 313 = .ok (.iconst 0, 1) := by decide +kernel
theorem d_Mo_edit_314 : decode prog_7_method_15_code 314 = .ok (.istore 11, 2) := by decide +kernel
theorem d_Mo_edit_316 : decode prog_7_method_15_code 316 = .ok (.iload 11, 2) := by decide +kernel
theorem d_Mo_edit_318 : decode prog_7_method_15_code 318 = .ok (.iload 9, 2) := by decide +kernel
theorem d_Mo_edit_320 : decode prog_7_method_15_code 320 = .ok (.if_icmp .ge 32, 3) := by decide +kernel
theorem d_Mo_edit_323 : decode prog_7_method_15_code 323 = .ok (.aload_n 0, 1) := by decide +kernel
theorem d_Mo_edit_324 : decode prog_7_method_15_code 324 = .ok (.getfield 7, 3) := by decide +kernel
theorem d_Mo_edit_327 : decode prog_7_method_15_code 327 = .ok (.iload 10, 2) := by decide +kernel
theorem d_Mo_edit_329 : decode prog_7_method_15_code 329 = .ok (.bipush 6, 2) := by decide +kernel
theorem d_Mo_edit_331 : decode prog_7_method_15_code 331 = .ok (.iadd, 1) := by decide +kernel
theorem d_Mo_edit_332 : decode prog_7_method_15_code 332 = .ok (.iload 11, 2) := by decide +kernel
theorem d_Mo_edit_334 : decode prog_7_method_15_code 334 = .ok (.iadd, 1) := by decide +kernel
theorem d_Mo_edit_335 : decode prog_7_method_15_code 335 = .ok (.aload_n 0, 1) := by decide +kernel
theorem d_Mo_edit_336 : decode prog_7_method_15_code 336 = .ok (.getfield 38, 3) := by decide +kernel
theorem d_Mo_edit_339 : decode prog_7_method_15_code 339 = .ok (.bipush 6, 2) := by decide +kernel
theorem d_Mo_edit_341 : decode prog_7_method_15_code 341 = .ok (.iload 11, 2) := by decide +kernel
theorem d_Mo_edit_343 : decode prog_7_method_15_code 343 = .ok (.iadd, 1) := by decide +kernel
theorem d_Mo_edit_344 : decode prog_7_method_15_code 344 = .ok (.iaload, 1) := by decide +kernel
theorem d_Mo_edit_345 : decode prog_7_method_15_code 345 = .ok (.iastore, 1) := by decide +kernel
theorem d_Mo_edit_346 : decode prog_7_method_15_code 346 = .ok (.iinc 11 1, 3) := by decide +kernel
theorem d_Mo_edit_349 : decode prog_7_method_15_code 349 = .ok (.goto (-33), 3) := by decide +kernel
theorem d_Mo_edit_352 : decode prog_7_method_15_code 352 = .ok (.aload_n 0, 1) := by decide +kernel
theorem d_Mo_edit_353 : decode prog_7_method_15_code 353 = .ok (.getfield 16, 3) := by decide +kernel
theorem d_Mo_edit_356 : decode prog_7_method_15_code 356 = .ok (.bipush 16, 2) := by decide +kernel
theorem d_Mo_edit_358 : decode prog_7_method_15_code 358 = .ok (.iload_n 1, 1) := by decide +kernel
theorem d_Mo_edit_359 : decode prog_7_method_15_code 359 = .ok (.imul, 1) := by decide +kernel
theorem d_Mo_edit_360 : decode prog_7_method_15_code 360 = .ok (.aload_n 0, 1) := by decide +kernel
theorem d_Mo_edit_361 : decode prog_7_method_15_code 361 = .ok (.getfield 13, 3) := by decide +kernel
theorem d_Mo_edit_364 : decode prog_7_method_15_code 364 = .ok (.iload_n 1, 1) := by decide +kernel
theorem d_Mo_edit_365 : decode prog_7_method_15_code 365 = .ok (.iaload, 1) := by decide +kernel
theorem d_Mo_edit_366 : decode prog_7_method_15_code 366 = .ok (.iadd, 1) := by decide +kernel
theorem d_Mo_edit_367 : decode prog_7_method_15_code 367 = .ok (.iconst 0, 1) := by decide +kernel
theorem d_Mo_edit_368 : decode prog_7_method_15_code 368 = .ok (.bastore, 1) := by decide +kernel
theorem d_Mo_edit_369 : decode prog_7_method_15_code 369 = .ok (.aload_n 0, 1) := by decide +kernel
theorem d_Mo_edit_370 : decode prog_7_method_15_code 370 = .ok (.getfield 13, 3) := by decide +kernel
theorem d_Mo_edit_373 : decode prog_7_method_15_code 373 = .ok (.iload_n 1, 1) := by decide +kernel
theorem d_Mo_edit_374 : decode prog_7_method_15_code 374 = .ok (.dup2, 1) := by decide +kernel
theorem d_Mo_edit_375 : decode prog_7_method_15_code 375 = .ok (.iaload, 1) := by decide +kernel
theorem d_Mo_edit_376 : decode prog_7_method_15_code 376 = .ok (.iconst 1, 1) := by decide +kernel
theorem d_Mo_edit_377 : decode prog_7_method_15_code 377 = .ok (.iadd, 1) := by decide +kernel
theorem d_Mo_edit_378 : decode prog_7_method_15_code 378 = .ok (.iastore, 1) := by decide +kernel
theorem d_Mo_edit_379 : decode prog_7_method_15_code 379 = .ok (.aload_n 0, 1) := by decide +kernel
theorem d_Mo_edit_380 : decode prog_7_method_15_code 380 = .ok (.aload_n 0, 1) := by decide +kernel
theorem d_Mo_edit_381 : decode prog_7_method_15_code 381 = .ok (.getfield 13, 3) := by decide +kernel
theorem d_Mo_edit_384 : decode prog_7_method_15_code 384 = .ok (.iload_n 1, 1) := by decide +kernel
theorem d_Mo_edit_385 : decode prog_7_method_15_code 385 = .ok (.iaload, 1) := by decide +kernel
theorem d_Mo_edit_386 : decode prog_7_method_15_code 386 = .ok (.iconst 1, 1) := by decide +kernel
theorem d_Mo_edit_387 : decode prog_7_method_15_code 387 = .ok (.isub, 1) := by decide +kernel
theorem d_Mo_edit_388 : decode prog_7_method_15_code 388 = .ok (.invokevirtual 72, 3) := by decide +kernel
theorem d_Mo_edit_391 : decode prog_7_method_15_code 391 = .ok (.aload_n 0, 1) := by decide +kernel
theorem d_Mo_edit_392 : decode prog_7_method_15_code 392 = .ok (.invokevirtual 84, 3) := by decide +kernel
theorem d_Mo_edit_395 : decode prog_7_method_15_code 395 = .ok (.pop, 1) := by decide +kernel
theorem d_Mo_edit_396 : decode prog_7_method_15_code 396 = .ok (.iconst 4, 1) := by decide +kernel
theorem d_Mo_edit_397 : decode prog_7_method_15_code 397 = .ok (.iload 8, 2) := by decide +kernel
theorem d_Mo_edit_399 : decode prog_7_method_15_code 399 = .ok (.imul, 1) := by decide +kernel
theorem d_Mo_edit_400 : decode prog_7_method_15_code 400 = .ok (.iload_n 1, 1) := by decide +kernel
theorem d_Mo_edit_401 : decode prog_7_method_15_code 401 = .ok (.iadd, 1) := by decide +kernel
theorem d_Mo_edit_402 : decode prog_7_method_15_code 402 = .ok (.ireturn, 1) := by decide +kernel
theorem d_Mo_emit_0 : decode prog_7_method_16_code 0 = .ok (.iload_n 1, 1) := by decide +kernel
theorem d_Mo_emit_1 : decode prog_7_method_16_code 1 = .ok (.invokestatic 75, 3) := by decide +kernel
theorem d_Mo_emit_4 : decode prog_7_method_16_code 4 = .ok (.ifCond .ne 5, 3) := by decide +kernel
theorem d_Mo_emit_7 : decode prog_7_method_16_code 7 = .ok (.iconst (-1), 1) := by decide +kernel
theorem d_Mo_emit_8 : decode prog_7_method_16_code 8 = .ok (.ireturn, 1) := by decide +kernel
theorem d_Mo_emit_9 : decode prog_7_method_16_code 9 = .ok (.aload_n 0, 1) := by decide +kernel
theorem d_Mo_emit_10 : decode prog_7_method_16_code 10 = .ok (.iload_n 1, 1) := by decide +kernel
theorem d_Mo_emit_11 : decode prog_7_method_16_code 11 = .ok (.putfield 41, 3) := by decide +kernel
theorem d_Mo_emit_14 : decode prog_7_method_16_code 14 = .ok (.aload_n 0, 1) := by decide +kernel
theorem d_Mo_emit_15 : decode prog_7_method_16_code 15 = .ok (.iload_n 2, 1) := by decide +kernel
theorem d_Mo_emit_16 : decode prog_7_method_16_code 16 = .ok (.iconst 0, 1) := by decide +kernel
theorem d_Mo_emit_17 : decode prog_7_method_16_code 17 = .ok (.invokevirtual 53, 3) := by decide +kernel
theorem d_Mo_emit_20 : decode prog_7_method_16_code 20 = .ok (.istore_n 3, 1) := by decide +kernel
theorem d_Mo_emit_21 : decode prog_7_method_16_code 21 = .ok (.iload_n 3, 1) := by decide +kernel
theorem d_Mo_emit_22 : decode prog_7_method_16_code 22 = .ok (.ifCond .ge 5, 3) := by decide +kernel
theorem d_Mo_emit_25 : decode prog_7_method_16_code 25 = .ok (.iconst (-1), 1) := by decide +kernel
theorem d_Mo_emit_26 : decode prog_7_method_16_code 26 = .ok (.ireturn, 1) := by decide +kernel
theorem d_Mo_emit_27 : decode prog_7_method_16_code 27 = .ok (.aload_n 0, 1) := by decide +kernel
theorem d_Mo_emit_28 : decode prog_7_method_16_code 28 = .ok (.bipush 6, 2) := by decide +kernel
theorem d_Mo_emit_30 : decode prog_7_method_16_code 30 = .ok (.aload_n 0, 1) := by decide +kernel
theorem d_Mo_emit_31 : decode prog_7_method_16_code 31 = .ok (.iload_n 3, 1) := by decide +kernel
theorem d_Mo_emit_32 : decode prog_7_method_16_code 32 = .ok (.iconst 5, 1) := by decide +kernel
theorem d_Mo_emit_33 : decode prog_7_method_16_code 33 = .ok (.invokevirtual 45, 3) := by decide +kernel
theorem d_Mo_emit_36 : decode prog_7_method_16_code 36 = .ok (.iadd, 1) := by decide +kernel
theorem d_Mo_emit_37 : decode prog_7_method_16_code 37 = .ok (.putfield 88, 3) := by decide +kernel
theorem d_Mo_emit_40 : decode prog_7_method_16_code 40 = .ok (.iconst 0, 1) := by decide +kernel
theorem d_Mo_emit_41 : decode prog_7_method_16_code 41 = .ok (.istore 4, 2) := by decide +kernel
theorem d_Mo_emit_43 : decode prog_7_method_16_code 43 = .ok (.iload 4, 2) := by decide +kernel
theorem d_Mo_emit_45 : decode prog_7_method_16_code 45 = .ok (.aload_n 0, 1) := by decide +kernel
theorem d_Mo_emit_46 : decode prog_7_method_16_code 46 = .ok (.getfield 88, 3) := by decide +kernel
theorem d_Mo_emit_49 : decode prog_7_method_16_code 49 = .ok (.if_icmp .ge 23, 3) := by decide +kernel
theorem d_Mo_emit_52 : decode prog_7_method_16_code 52 = .ok (.aload_n 0, 1) := by decide +kernel
theorem d_Mo_emit_53 : decode prog_7_method_16_code 53 = .ok (.getfield 26, 3) := by decide +kernel
theorem d_Mo_emit_56 : decode prog_7_method_16_code 56 = .ok (.iload 4, 2) := by decide +kernel
theorem d_Mo_emit_58 : decode prog_7_method_16_code 58 = .ok (.aload_n 0, 1) := by decide +kernel
theorem d_Mo_emit_59 : decode prog_7_method_16_code 59 = .ok (.iload_n 3, 1) := by decide +kernel
theorem d_Mo_emit_60 : decode prog_7_method_16_code 60 = .ok (.iload 4, 2) := by decide +kernel
theorem d_Mo_emit_62 : decode prog_7_method_16_code 62 = .ok (.invokevirtual 45, 3) := by decide +kernel
theorem d_Mo_emit_65 : decode prog_7_method_16_code 65 = .ok (.iastore, 1) := by decide +kernel
theorem d_Mo_emit_66 : decode prog_7_method_16_code 66 = .ok (.iinc 4 1, 3) := by decide +kernel
theorem d_Mo_emit_69 : decode prog_7_method_16_code 69 = .ok (.goto (-26), 3) := by decide +kernel
theorem d_Mo_emit_72 : decode prog_7_method_16_code 72 = .ok (.aload_n 0, 1) := by decide +kernel
theorem d_Mo_emit_73 : decode prog_7_method_16_code 73 = .ok (.getfield 88, 3) := by decide +kernel
theorem d_Mo_emit_76 : decode prog_7_method_16_code 76 = .ok (.ireturn, 1) := by decide +kernel
theorem d_Mo_wire_0 : decode prog_7_method_17_code 0 = .ok (.iload_n 1, 1) := by decide +kernel
theorem d_Mo_wire_1 : decode prog_7_method_17_code 1 = .ok (.iconst (-1), 1) := by decide +kernel
theorem d_Mo_wire_2 : decode prog_7_method_17_code 2 = .ok (.if_icmp .ne 10, 3) := by decide +kernel
theorem d_Mo_wire_5 : decode prog_7_method_17_code 5 = .ok (.aload_n 0, 1) := by decide +kernel
theorem d_Mo_wire_6 : decode prog_7_method_17_code 6 = .ok (.getfield 88, 3) := by decide +kernel
theorem d_Mo_wire_9 : decode prog_7_method_17_code 9 = .ok (.goto 25, 3) := by decide +kernel
theorem d_Mo_wire_12 : decode prog_7_method_17_code 12 = .ok (.iload_n 1, 1) := by decide +kernel
theorem d_Mo_wire_13 : decode prog_7_method_17_code 13 = .ok (.ifCond .lt 20, 3) := by decide +kernel
theorem d_Mo_wire_16 : decode prog_7_method_17_code 16 = .ok (.iload_n 1, 1) := by decide +kernel
theorem d_Mo_wire_17 : decode prog_7_method_17_code 17 = .ok (.aload_n 0, 1) := by decide +kernel
theorem d_Mo_wire_18 : decode prog_7_method_17_code 18 = .ok (.getfield 88, 3) := by decide +kernel
theorem d_Mo_wire_21 : decode prog_7_method_17_code 21 = .ok (.if_icmp .ge 12, 3) := by decide +kernel
theorem d_Mo_wire_24 : decode prog_7_method_17_code 24 = .ok (.aload_n 0, 1) := by decide +kernel
theorem d_Mo_wire_25 : decode prog_7_method_17_code 25 = .ok (.getfield 26, 3) := by decide +kernel
theorem d_Mo_wire_28 : decode prog_7_method_17_code 28 = .ok (.iload_n 1, 1) := by decide +kernel
theorem d_Mo_wire_29 : decode prog_7_method_17_code 29 = .ok (.iaload, 1) := by decide +kernel
theorem d_Mo_wire_30 : decode prog_7_method_17_code 30 = .ok (.goto 4, 3) := by decide +kernel
theorem d_Mo_wire_33 : decode prog_7_method_17_code 33 = .ok (.iconst (-1), 1) := by decide +kernel
theorem d_Mo_wire_34 : decode prog_7_method_17_code 34 = .ok (.ireturn, 1) := by decide +kernel
theorem d_Mo_alter_0 : decode prog_7_method_18_code 0 = .ok (.iload_n 1, 1) := by decide +kernel
theorem d_Mo_alter_1 : decode prog_7_method_18_code 1 = .ok (.ifCond .lt 28, 3) := by decide +kernel
theorem d_Mo_alter_4 : decode prog_7_method_18_code 4 = .ok (.iload_n 1, 1) := by decide +kernel
theorem d_Mo_alter_5 : decode prog_7_method_18_code 5 = .ok (.aload_n 0, 1) := by decide +kernel
theorem d_Mo_alter_6 : decode prog_7_method_18_code 6 = .ok (.getfield 88, 3) := by decide +kernel
theorem d_Mo_alter_9 : decode prog_7_method_18_code 9 = .ok (.if_icmp .gt 20, 3) := by decide +kernel
theorem d_Mo_alter_12 : decode prog_7_method_18_code 12 = .ok (.iload_n 1, 1) := by decide +kernel
theorem d_Mo_alter_13 : decode prog_7_method_18_code 13 = .ok (.bipush 16, 2) := by decide +kernel
theorem d_Mo_alter_15 : decode prog_7_method_18_code 15 = .ok (.if_icmp .ge 14, 3) := by decide +kernel
theorem d_Mo_alter_18 : decode prog_7_method_18_code 18 = .ok (.iload_n 2, 1) := by decide +kernel
theorem d_Mo_alter_19 : decode prog_7_method_18_code 19 = .ok (.ifCond .lt 10, 3) := by decide +kernel
theorem d_Mo_alter_22 : decode prog_7_method_18_code 22 = .ok (.iload_n 2, 1) := by decide +kernel
theorem d_Mo_alter_23 : decode prog_7_method_18_code 23 = .ok (.sipush 255, 3) := by decide +kernel
theorem d_Mo_alter_26 : decode prog_7_method_18_code 26 = .ok (.if_icmp .le 5, 3) := by decide +kernel
theorem d_Mo_alter_29 : decode prog_7_method_18_code 29 = .ok (.iconst 0, 1) := by decide +kernel
theorem d_Mo_alter_30 : decode prog_7_method_18_code 30 = .ok (.ireturn, 1) := by decide +kernel
theorem d_Mo_alter_31 : decode prog_7_method_18_code 31 = .ok (.aload_n 0, 1) := by decide +kernel
theorem d_Mo_alter_32 : decode prog_7_method_18_code 32 = .ok (.getfield 26, 3) := by decide +kernel
theorem d_Mo_alter_35 : decode prog_7_method_18_code 35 = .ok (.iload_n 1, 1) := by decide +kernel
theorem d_Mo_alter_36 : decode prog_7_method_18_code 36 = .ok (.iload_n 2, 1) := by decide +kernel
theorem d_Mo_alter_37 : decode prog_7_method_18_code 37 = .ok (.iastore, 1) := by decide +kernel
theorem d_Mo_alter_38 : decode prog_7_method_18_code 38 = .ok (.aload_n 0, 1) := by decide +kernel
theorem d_Mo_alter_39 : decode prog_7_method_18_code 39 = .ok (.iload_n 1, 1) := by decide +kernel
theorem d_Mo_alter_40 : decode prog_7_method_18_code 40 = .ok (.aload_n 0, 1) := by decide +kernel
theorem d_Mo_alter_41 : decode prog_7_method_18_code 41 = .ok (.getfield 88, 3) := by decide +kernel
theorem d_Mo_alter_44 : decode prog_7_method_18_code 44 = .ok (.if_icmp .ne 12, 3) := by decide +kernel
theorem d_Mo_alter_47 : decode prog_7_method_18_code 47 = .ok (.aload_n 0, 1) := by decide +kernel
theorem d_Mo_alter_48 : decode prog_7_method_18_code 48 = .ok (.getfield 88, 3) := by decide +kernel
theorem d_Mo_alter_51 : decode prog_7_method_18_code 51 = .ok (.iconst 1, 1) := by decide +kernel
theorem d_Mo_alter_52 : decode prog_7_method_18_code 52 = .ok (.iadd, 1) := by decide +kernel
theorem d_Mo_alter_53 : decode prog_7_method_18_code 53 = .ok (.goto 7, 3) := by decide +kernel
theorem d_Mo_alter_56 : decode prog_7_method_18_code 56 = .ok (.aload_n 0, 1) := by decide +kernel
theorem d_Mo_alter_57 : decode prog_7_method_18_code 57 = .ok (.getfield 88, 3) := by decide +kernel
theorem d_Mo_alter_60 : decode prog_7_method_18_code 60 = .ok (.putfield 88, 3) := by decide +kernel
theorem d_Mo_alter_63 : decode prog_7_method_18_code 63 = .ok (.iconst 1, 1) := by decide +kernel
theorem d_Mo_alter_64 : decode prog_7_method_18_code 64 = .ok (.ireturn, 1) := by decide +kernel
theorem d_Mo_cut_0 : decode prog_7_method_19_code 0 = .ok (.iload_n 1, 1) := by decide +kernel
theorem d_Mo_cut_1 : decode prog_7_method_19_code 1 = .ok (.ifCond .lt 11, 3) := by decide +kernel
theorem d_Mo_cut_4 : decode prog_7_method_19_code 4 = .ok (.iload_n 1, 1) := by decide +kernel
theorem d_Mo_cut_5 : decode prog_7_method_19_code 5 = .ok (.aload_n 0, 1) := by decide +kernel
theorem d_Mo_cut_6 : decode prog_7_method_19_code 6 = .ok (.getfield 88, 3) := by decide +kernel
theorem d_Mo_cut_9 : decode prog_7_method_19_code 9 = .ok (.if_icmp .le 5, 3) := by decide +kernel
theorem d_Mo_cut_12 : decode prog_7_method_19_code 12 = .ok (.iconst 0, 1) := by decide +kernel
theorem d_Mo_cut_13 : decode prog_7_method_19_code 13 = .ok (.ireturn, 1) := by decide +kernel
theorem d_Mo_cut_14 : decode prog_7_method_19_code 14 = .ok (.aload_n 0, 1) := by decide +kernel
theorem d_Mo_cut_15 : decode prog_7_method_19_code 15 = .ok (.iload_n 1, 1) := by decide +kernel
theorem d_Mo_cut_16 : decode prog_7_method_19_code 16 = .ok (.putfield 88, 3) := by decide +kernel
theorem d_Mo_cut_19 : decode prog_7_method_19_code 19 = .ok (.iconst 1, 1) := by decide +kernel
theorem d_Mo_cut_20 : decode prog_7_method_19_code 20 = .ok (.ireturn, 1) := by decide +kernel
theorem d_Mo_wellFormed_0 : decode prog_7_method_20_code 0 = .ok (.aload_n 0, 1) := by decide +kernel
theorem d_Mo_wellFormed_1 : decode prog_7_method_20_code 1 = .ok (.getfield 88, 3) := by decide +kernel
theorem d_Mo_wellFormed_4 : decode prog_7_method_20_code 4 = .ok (.bipush 6, 2) := by decide +kernel
theorem d_Mo_wellFormed_6 : decode prog_7_method_20_code 6 = .ok (.if_icmp .lt 52, 3) := by decide +kernel
theorem d_Mo_wellFormed_9 : decode prog_7_method_20_code 9 = .ok (.aload_n 0, 1) := by decide +kernel
theorem d_Mo_wellFormed_10 : decode prog_7_method_20_code 10 = .ok (.getfield 26, 3) := by decide +kernel
theorem d_Mo_wellFormed_13 : decode prog_7_method_20_code 13 = .ok (.iconst 5, 1) := by decide +kernel
theorem d_Mo_wellFormed_14 : decode prog_7_method_20_code 14 = .ok (.iaload, 1) := by decide +kernel
theorem d_Mo_wellFormed_15 : decode prog_7_method_20_code 15 = .ok (.bipush 6, 2) := by decide +kernel
theorem d_Mo_wellFormed_17 : decode prog_7_method_20_code 17 = .ok (.if_icmp .gt 41, 3) := by decide +kernel
theorem d_Mo_wellFormed_20 : decode prog_7_method_20_code 20 = .ok (.aload_n 0, 1) := by decide +kernel
theorem d_Mo_wellFormed_21 : decode prog_7_method_20_code 21 = .ok (.getfield 88, 3) := by decide +kernel
theorem d_Mo_wellFormed_24 : decode prog_7_method_20_code 24 = .ok (.bipush 6, 2) := by decide +kernel
theorem d_Mo_wellFormed_26 : decode prog_7_method_20_code 26 = .ok (.aload_n 0, 1) := by decide +kernel
theorem d_Mo_wellFormed_27 : decode prog_7_method_20_code 27 = .ok (.getfield 26, 3) := by decide +kernel
theorem d_Mo_wellFormed_30 : decode prog_7_method_20_code 30 = .ok (.iconst 5, 1) := by decide +kernel
theorem d_Mo_wellFormed_31 : decode prog_7_method_20_code 31 = .ok (.iaload, 1) := by decide +kernel
theorem d_Mo_wellFormed_32 : decode prog_7_method_20_code 32 = .ok (.iadd, 1) := by decide +kernel
theorem d_Mo_wellFormed_33 : decode prog_7_method_20_code 33 = .ok (.if_icmp .ne 25, 3) := by decide +kernel
theorem d_Mo_wellFormed_36 : decode prog_7_method_20_code 36 = .ok (.aload_n 0, 1) := by decide +kernel
theorem d_Mo_wellFormed_37 : decode prog_7_method_20_code 37 = .ok (.getfield 26, 3) := by decide +kernel
theorem d_Mo_wellFormed_40 : decode prog_7_method_20_code 40 = .ok (.iconst 0, 1) := by decide +kernel
theorem d_Mo_wellFormed_41 : decode prog_7_method_20_code 41 = .ok (.iaload, 1) := by decide +kernel
theorem d_Mo_wellFormed_42 : decode prog_7_method_20_code 42 = .ok (.invokestatic 91, 3) := by decide +kernel
theorem d_Mo_wellFormed_45 : decode prog_7_method_20_code 45 = .ok (.ifCond .eq 13, 3) := by decide +kernel
theorem d_Mo_wellFormed_48 : decode prog_7_method_20_code 48 = .ok (.aload_n 0, 1) := by decide +kernel
theorem d_Mo_wellFormed_49 : decode prog_7_method_20_code 49 = .ok (.getfield 26, 3) := by decide +kernel
theorem d_Mo_wellFormed_52 : decode prog_7_method_20_code 52 = .ok (.iconst 1, 1) := by decide +kernel
theorem d_Mo_wellFormed_53 : decode prog_7_method_20_code 53 = .ok (.iaload, 1) := by decide +kernel
theorem d_Mo_wellFormed_54 : decode prog_7_method_20_code 54 = .ok (.iconst 5, 1) := by decide +kernel
theorem d_Mo_wellFormed_55 : decode prog_7_method_20_code 55 = .ok (.if_icmp .le 5, 3) := by decide +kernel
theorem d_Mo_wellFormed_58 : decode prog_7_method_20_code 58 = .ok (.iconst 0, 1) := by decide +kernel
theorem d_Mo_wellFormed_59 : decode prog_7_method_20_code 59 = .ok (.ireturn, 1) := by decide +kernel
theorem d_Mo_wellFormed_60 : decode prog_7_method_20_code 60 = .ok (.bipush 6, 2) := by decide +kernel
theorem d_Mo_wellFormed_62 : decode prog_7_method_20_code 62 = .ok (.istore_n 1, 1) := by decide +kernel
theorem d_Mo_wellFormed_63 : decode prog_7_method_20_code 63 = .ok (.iload_n 1, 1) := by decide +kernel
theorem d_Mo_wellFormed_64 : decode prog_7_method_20_code 64 = .ok (.aload_n 0, 1) := by decide +kernel
theorem d_Mo_wellFormed_65 : decode prog_7_method_20_code 65 = .ok (.getfield 88, 3) := by decide +kernel
theorem d_Mo_wellFormed_68 : decode prog_7_method_20_code 68 = .ok (.if_icmp .ge 46, 3) := by decide +kernel
theorem d_Mo_wellFormed_71 : decode prog_7_method_20_code 71 = .ok (.aload_n 0, 1) := by decide +kernel
theorem d_Mo_wellFormed_72 : decode prog_7_method_20_code 72 = .ok (.getfield 26, 3) := by decide +kernel
theorem d_Mo_wellFormed_75 : decode prog_7_method_20_code 75 = .ok (.iload_n 1, 1) := by decide +kernel
theorem d_Mo_wellFormed_76 : decode prog_7_method_20_code 76 = .ok (.iaload, 1) := by decide +kernel
theorem d_Mo_wellFormed_77 : decode prog_7_method_20_code 77 = .ok (.invokestatic 91, 3) := by decide +kernel
theorem d_Mo_wellFormed_80 : decode prog_7_method_20_code 80 = .ok (.ifCond .eq 26, 3) := by decide +kernel
theorem d_Mo_wellFormed_83 : decode prog_7_method_20_code 83 = .ok (.iload_n 1, 1) := by decide +kernel
theorem d_Mo_wellFormed_84 : decode prog_7_method_20_code 84 = .ok (.bipush 6, 2) := by decide +kernel
theorem d_Mo_wellFormed_86 : decode prog_7_method_20_code 86 = .ok (.if_icmp .le 22, 3) := by decide +kernel
theorem d_Mo_wellFormed_89 : decode prog_7_method_20_code 89 = .ok (.aload_n 0, 1) := by decide +kernel
theorem d_Mo_wellFormed_90 : decode prog_7_method_20_code 90 = .ok (.getfield 26, 3) := by decide +kernel
theorem d_Mo_wellFormed_93 : decode prog_7_method_20_code 93 = .ok (.iload_n 1, 1) := by decide +kernel
theorem d_Mo_wellFormed_94 : decode prog_7_method_20_code 94 = .ok (.iaload, 1) := by decide +kernel
theorem d_Mo_wellFormed_95 : decode prog_7_method_20_code 95 = .ok (.aload_n 0, 1) := by decide +kernel
theorem d_Mo_wellFormed_96 : decode prog_7_method_20_code 96 = .ok (.getfield 26, 3) := by decide +kernel
theorem d_Mo_wellFormed_99 : decode prog_7_method_20_code 99 = .ok (.iload_n 1, 1) := by decide +kernel
theorem d_Mo_wellFormed_100 : decode prog_7_method_20_code 100 = .ok (.iconst 1, 1) := by decide +kernel
theorem d_Mo_wellFormed_101 : decode prog_7_method_20_code 101 = .ok (.isub, 1) := by decide +kernel
theorem d_Mo_wellFormed_102 : decode prog_7_method_20_code 102 = .ok (.iaload, 1) := by decide +kernel
theorem d_Mo_wellFormed_103 : decode prog_7_method_20_code 103 = .ok (.if_icmp .gt 5, 3) := by decide +kernel
theorem d_Mo_wellFormed_106 : decode prog_7_method_20_code 106 = .ok (.iconst 0, 1) := by decide +kernel
theorem d_Mo_wellFormed_107 : decode prog_7_method_20_code 107 = .ok (.ireturn, 1) := by decide +kernel
theorem d_Mo_wellFormed_108 : decode prog_7_method_20_code 108 = .ok (.iinc 1 1, 3) := by decide +kernel
theorem d_Mo_wellFormed_111 : decode prog_7_method_20_code 111 = .ok (.goto (-48), 3) := by decide +kernel
theorem d_Mo_wellFormed_114 : decode prog_7_method_20_code 114 = .ok (.aload_n 0, 1) := by decide +kernel
theorem d_Mo_wellFormed_115 : decode prog_7_method_20_code 115 = .ok (.getfield 26, 3) := by decide +kernel
theorem d_Mo_wellFormed_118 : decode prog_7_method_20_code 118 = .ok (.iconst 1, 1) := by decide +kernel
theorem d_Mo_wellFormed_119 : decode prog_7_method_20_code 119 = .ok (.iaload, 1) := by decide +kernel
theorem d_Mo_wellFormed_120 : decode prog_7_method_20_code 120 = .ok (.istore_n 1, 1) := by decide +kernel
theorem d_Mo_wellFormed_121 : decode prog_7_method_20_code 121 = .ok (.iload_n 1, 1) := by decide +kernel
theorem d_Mo_wellFormed_122 : decode prog_7_method_20_code 122 = .ok (.ifCond .eq 8, 3) := by decide +kernel
