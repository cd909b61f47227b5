theorem dX7_back_150 : decode cX7_back 150 = .ok (.aload_n 0, 1) := by decide +kernel
theorem dX7_back_151 : decode cX7_back 151 = .ok (.getfield 16, 3) := by decide +kernel
theorem dX7_back_154 : decode cX7_back 154 = .ok (.if_icmp .ge 34, 3) := by decide +kernel
theorem dX7_back_157 : decode cX7_back 157 = .ok (.iconst 1, 1) := by decide +kernel
theorem dX7_back_158 : decode cX7_back 158 = .ok (.aload_n 0, 1) := by decide +kernel
theorem dX7_back_159 : decode cX7_back 159 = .ok (.getfield 52, 3) := by decide +kernel
theorem dX7_back_162 : decode cX7_back 162 = .ok (.iload_n 2, 1) := by decide +kernel
theorem dX7_back_163 : decode cX7_back 163 = .ok (.iconst 4, 1) := by decide +kernel
theorem dX7_back_164 : decode cX7_back 164 = .ok (.iload 4, 2) := by decide +kernel
theorem dX7_back_166 : decode cX7_back 166 = .ok (.isub, 1) := by decide +kernel
theorem dX7_back_167 : decode cX7_back 167 = .ok (.iconst 1, 1) := by decide +kernel
theorem dX7_back_168 : decode cX7_back 168 = .ok (.iload 5, 2) := by decide +kernel
theorem dX7_back_170 : decode cX7_back 170 = .ok (.iadd, 1) := by decide +kernel
theorem dX7_back_171 : decode cX7_back 171 = .ok (.invokestatic 176, 3) := by decide +kernel
theorem dX7_back_174 : decode cX7_back 174 = .ok (.imul, 1) := by decide +kernel
theorem dX7_back_175 : decode cX7_back 175 = .ok (.iadd, 1) := by decide +kernel
theorem dX7_back_176 : decode cX7_back 176 = .ok (.iaload, 1) := by decide +kernel
theorem dX7_back_177 : decode cX7_back 177 = .ok (.iadd, 1) := by decide +kernel
theorem dX7_back_178 : decode cX7_back 178 = .ok (.iload_n 3, 1) := by decide +kernel
theorem dX7_back_179 : decode cX7_back 179 = .ok (.if_icmp .ne 9, 3) := by decide +kernel
theorem dX7_back_182 : decode cX7_back 182 = .ok (.bipush 10, 2) := by decide +kernel
theorem dX7_back_184 : decode cX7_back 184 = .ok (.iload 5, 2) := by decide +kernel
theorem dX7_back_186 : decode cX7_back 186 = .ok (.iadd, 1) := by decide +kernel
theorem dX7_back_187 : decode cX7_back 187 = .ok (.ireturn, 1) := by decide +kernel
theorem dX7_back_188 : decode cX7_back 188 = .ok (.iinc 5 1, 3) := by decide +kernel
theorem dX7_back_191 : decode cX7_back 191 = .ok (.goto (-78), 3) := by decide +kernel
theorem dX7_back_194 : decode cX7_back 194 = .ok (.iconst 0, 1) := by decide +kernel
theorem dX7_back_195 : decode cX7_back 195 = .ok (.istore 5, 2) := by decide +kernel
theorem dX7_back_197 : decode cX7_back 197 = .ok (.iload 5, 2) := by decide +kernel
theorem dX7_back_199 : decode cX7_back 199 = .ok (.aload_n 0, 1) := by decide +kernel
theorem dX7_back_200 : decode cX7_back 200 = .ok (.getfield 68, 3) := by decide +kernel
theorem dX7_back_203 : decode cX7_back 203 = .ok (.if_icmp .ge 59, 3) := by decide +kernel
theorem dX7_back_206 : decode cX7_back 206 = .ok (.iload 4, 2) := by decide +kernel
theorem dX7_back_208 : decode cX7_back 208 = .ok (.iconst 4, 1) := by decide +kernel
theorem dX7_back_209 : decode cX7_back 209 = .ok (.if_icmp .eq 47, 3) := by decide +kernel
theorem dX7_back_212 : decode cX7_back 212 = .ok (.aload_n 0, 1) := by decide +kernel
theorem dX7_back_213 : decode cX7_back 213 = .ok (.getfield 23, 3) := by decide +kernel
theorem dX7_back_216 : decode cX7_back 216 = .ok (.iconst 2, 1) := by decide +kernel
theorem dX7_back_217 : decode cX7_back 217 = .ok (.iload 5, 2) := by decide +kernel
theorem dX7_back_219 : decode cX7_back 219 = .ok (.iadd, 1) := by decide +kernel
theorem dX7_back_220 : decode cX7_back 220 = .ok (.iaload, 1) := by decide +kernel
theorem dX7_back_221 : decode cX7_back 221 = .ok (.iconst 4, 1) := by decide +kernel
theorem dX7_back_222 : decode cX7_back 222 = .ok (.if_icmp .ne 34, 3) := by decide +kernel
theorem dX7_back_225 : decode cX7_back 225 = .ok (.iconst 1, 1) := by decide +kernel
theorem dX7_back_226 : decode cX7_back 226 = .ok (.aload_n 0, 1) := by decide +kernel
theorem dX7_back_227 : decode cX7_back 227 = .ok (.getfield 52, 3) := by decide +kernel
theorem dX7_back_230 : decode cX7_back 230 = .ok (.iload_n 2, 1) := by decide +kernel
theorem dX7_back_231 : decode cX7_back 231 = .ok (.iconst 4, 1) := by decide +kernel
theorem dX7_back_232 : decode cX7_back 232 = .ok (.iload 4, 2) := by decide +kernel
theorem dX7_back_234 : decode cX7_back 234 = .ok (.isub, 1) := by decide +kernel
theorem dX7_back_235 : decode cX7_back 235 = .ok (.iconst 1, 1) := by decide +kernel
theorem dX7_back_236 : decode cX7_back 236 = .ok (.iload 5, 2) := by decide +kernel
theorem dX7_back_238 : decode cX7_back 238 = .ok (.iadd, 1) := by decide +kernel
theorem dX7_back_239 : decode cX7_back 239 = .ok (.invokestatic 176, 3) := by decide +kernel
theorem dX7_back_242 : decode cX7_back 242 = .ok (.imul, 1) := by decide +kernel
theorem dX7_back_243 : decode cX7_back 243 = .ok (.isub, 1) := by decide +kernel
theorem dX7_back_244 : decode cX7_back 244 = .ok (.iaload, 1) := by decide +kernel
theorem dX7_back_245 : decode cX7_back 245 = .ok (.iadd, 1) := by decide +kernel
theorem dX7_back_246 : decode cX7_back 246 = .ok (.iload_n 3, 1) := by decide +kernel
theorem dX7_back_247 : decode cX7_back 247 = .ok (.if_icmp .ne 9, 3) := by decide +kernel
theorem dX7_back_250 : decode cX7_back 250 = .ok (.bipush 20, 2) := by decide +kernel
theorem dX7_back_252 : decode cX7_back 252 = .ok (.iload 5, 2) := by decide +kernel
theorem dX7_back_254 : decode cX7_back 254 = .ok (.iadd, 1) := by decide +kernel
theorem dX7_back_255 : decode cX7_back 255 = .ok (.ireturn, 1) := by decide +kernel
theorem dX7_back_256 : decode cX7_back 256 = .ok (.iinc 5 1, 3) := by decide +kernel
theorem dX7_back_259 : decode cX7_back 259 = .ok (.goto (-62), 3) := by decide +kernel
theorem dX7_back_262 : decode cX7_back 262 = .ok (.bipush (-9), 2) := by decide +kernel
theorem dX7_back_264 : decode cX7_back 264 = .ok (.ireturn, 1) := by decide +kernel
theorem dX7_left_0 : decode cX7_left 0 = .ok (.aload_n 0, 1) := by decide +kernel
theorem dX7_left_1 : decode cX7_left 1 = .ok (.getfield 20, 3) := by decide +kernel
theorem dX7_left_4 : decode cX7_left 4 = .ok (.aload_n 0, 1) := by decide +kernel
theorem dX7_left_5 : decode cX7_left 5 = .ok (.getfield 23, 3) := by decide +kernel
theorem dX7_left_8 : decode cX7_left 8 = .ok (.iconst 0, 1) := by decide +kernel
theorem dX7_left_9 : decode cX7_left 9 = .ok (.iaload, 1) := by decide +kernel
theorem dX7_left_10 : decode cX7_left 10 = .ok (.isub, 1) := by decide +kernel
theorem dX7_left_11 : decode cX7_left 11 = .ok (.aload_n 0, 1) := by decide +kernel
theorem dX7_left_12 : decode cX7_left 12 = .ok (.iconst 0, 1) := by decide +kernel
theorem dX7_left_13 : decode cX7_left 13 = .ok (.invokevirtual 219, 3) := by decide +kernel
theorem dX7_left_16 : decode cX7_left 16 = .ok (.isub, 1) := by decide +kernel
theorem dX7_left_17 : decode cX7_left 17 = .ok (.ireturn, 1) := by decide +kernel
theorem dX7_see_0 : decode cX7_see 0 = .ok (.bipush (-9), 2) := by decide +kernel
theorem dX7_see_2 : decode cX7_see 2 = .ok (.istore_n 1, 1) := by decide +kernel
theorem dX7_see_3 : decode cX7_see 3 = .ok (.iconst 0, 1) := by decide +kernel
theorem dX7_see_4 : decode cX7_see 4 = .ok (.istore_n 2, 1) := by decide +kernel
theorem dX7_see_5 : decode cX7_see 5 = .ok (.iload_n 2, 1) := by decide +kernel
theorem dX7_see_6 : decode cX7_see 6 = .ok (.aload_n 0, 1) := by decide +kernel
theorem dX7_see_7 : decode cX7_see 7 = .ok (.getfield 68, 3) := by decide +kernel
theorem dX7_see_10 : decode cX7_see 10 = .ok (.if_icmp .gt 34, 3) := by decide +kernel
theorem dX7_see_13 : decode cX7_see 13 = .ok (.aload_n 0, 1) := by decide +kernel
theorem dX7_see_14 : decode cX7_see 14 = .ok (.getfield 23, 3) := by decide +kernel
theorem dX7_see_17 : decode cX7_see 17 = .ok (.iconst 0, 1) := by decide +kernel
theorem dX7_see_18 : decode cX7_see 18 = .ok (.iaload, 1) := by decide +kernel
theorem dX7_see_19 : decode cX7_see 19 = .ok (.aload_n 0, 1) := by decide +kernel
theorem dX7_see_20 : decode cX7_see 20 = .ok (.iload_n 2, 1) := by decide +kernel
theorem dX7_see_21 : decode cX7_see 21 = .ok (.invokevirtual 219, 3) := by decide +kernel
theorem dX7_see_24 : decode cX7_see 24 = .ok (.iadd, 1) := by decide +kernel
theorem dX7_see_25 : decode cX7_see 25 = .ok (.aload_n 0, 1) := by decide +kernel
theorem dX7_see_26 : decode cX7_see 26 = .ok (.getfield 20, 3) := by decide +kernel
theorem dX7_see_29 : decode cX7_see 29 = .ok (.if_icmp .gt 7, 3) := by decide +kernel
theorem dX7_see_32 : decode cX7_see 32 = .ok (.iload_n 2, 1) := by decide +kernel
theorem dX7_see_33 : decode cX7_see 33 = .ok (.goto 4, 3) := by decide +kernel
theorem dX7_see_36 : decode cX7_see 36 = .ok (.iload_n 1, 1) := by decide +kernel
theorem dX7_see_37 : decode cX7_see 37 = .ok (.istore_n 1, 1) := by decide +kernel
theorem dX7_see_38 : decode cX7_see 38 = .ok (.iinc 2 1, 3) := by decide +kernel
theorem dX7_see_41 : decode cX7_see 41 = .ok (.goto (-36), 3) := by decide +kernel
theorem dX7_see_44 : decode cX7_see 44 = .ok (.iload_n 1, 1) := by decide +kernel
theorem dX7_see_45 : decode cX7_see 45 = .ok (.ireturn, 1) := by decide +kernel
theorem dX7_seenBy_0 : decode cX7_seenBy 0 = .ok (.iload_n 1, 1) := by decide +kernel
theorem dX7_seenBy_1 : decode cX7_seenBy 1 = .ok (.iconst 0, 1) := by decide +kernel
theorem dX7_seenBy_2 : decode cX7_seenBy 2 = .ok (.iconst 4, 1) := by decide +kernel
theorem dX7_seenBy_3 : decode cX7_seenBy 3 = .ok (.invokestatic 64, 3) := by decide +kernel
theorem dX7_seenBy_6 : decode cX7_seenBy 6 = .ok (.ifCond .ne 5, 3) := by decide +kernel
theorem dX7_seenBy_9 : decode cX7_seenBy 9 = .ok (.iconst (-1), 1) := by decide +kernel
theorem dX7_seenBy_10 : decode cX7_seenBy 10 = .ok (.ireturn, 1) := by decide +kernel
theorem dX7_seenBy_11 : decode cX7_seenBy 11 = .ok (.iload_n 1, 1) := by decide +kernel
theorem dX7_seenBy_12 : decode cX7_seenBy 12 = .ok (.aload_n 0, 1) := by decide +kernel
theorem dX7_seenBy_13 : decode cX7_seenBy 13 = .ok (.getfield 68, 3) := by decide +kernel
theorem dX7_seenBy_16 : decode cX7_seenBy 16 = .ok (.if_icmp .le 8, 3) := by decide +kernel
theorem dX7_seenBy_19 : decode cX7_seenBy 19 = .ok (.bipush (-9), 2) := by decide +kernel
theorem dX7_seenBy_21 : decode cX7_seenBy 21 = .ok (.goto 8, 3) := by decide +kernel
theorem dX7_seenBy_24 : decode cX7_seenBy 24 = .ok (.aload_n 0, 1) := by decide +kernel
theorem dX7_seenBy_25 : decode cX7_seenBy 25 = .ok (.iload_n 1, 1) := by decide +kernel
theorem dX7_seenBy_26 : decode cX7_seenBy 26 = .ok (.invokevirtual 219, 3) := by decide +kernel
theorem dX7_seenBy_29 : decode cX7_seenBy 29 = .ok (.ireturn, 1) := by decide +kernel
theorem dX7_lowest_0 : decode cX7_lowest 0 = .ok (.iload_n 0, 1) := by decide +kernel
theorem dX7_lowest_1 : decode cX7_lowest 1 = .ok (.istore_n 3, 1) := by decide +kernel
theorem dX7_lowest_2 : decode cX7_lowest 2 = .ok (.iload_n 1, 1) := by decide +kernel
theorem dX7_lowest_3 : decode cX7_lowest 3 = .ok (.istore 4, 2) := by decide +kernel
theorem dX7_lowest_5 : decode cX7_lowest 5 = .ok (.iload 4, 2) := by decide +kernel
theorem dX7_lowest_7 : decode cX7_lowest 7 = .ok (.ifCond .le 19, 3) := by decide +kernel
theorem dX7_lowest_10 : decode cX7_lowest 10 = .ok (.iload_n 3, 1) := by decide +kernel
theorem dX7_lowest_11 : decode cX7_lowest 11 = .ok (.iload 4, 2) := by decide +kernel
theorem dX7_lowest_13 : decode cX7_lowest 13 = .ok (.irem, 1) := by decide +kernel
theorem dX7_lowest_14 : decode cX7_lowest 14 = .ok (.istore 5, 2) := by decide +kernel
theorem dX7_lowest_16 : decode cX7_lowest 16 = .ok (.iload 4, 2) := by decide +kernel
theorem dX7_lowest_18 : decode cX7_lowest 18 = .ok (.istore_n 3, 1) := by decide +kernel
theorem dX7_lowest_19 : decode cX7_lowest 19 = .ok (.iload 5, 2) := by decide +kernel
theorem dX7_lowest_21 : decode cX7_lowest 21 = .ok (.istore 4, 2) := by decide +kernel
theorem dX7_lowest_23 : decode cX7_lowest 23 = .ok (.goto (-18), 3) := by decide +kernel
theorem dX7_lowest_26 : decode cX7_lowest 26 = .ok (.iload_n 2, 1) := by decide +kernel
theorem dX7_lowest_27 : decode cX7_lowest 27 = .ok (.ifCond .ne 7, 3) := by decide +kernel
theorem dX7_lowest_30 : decode cX7_lowest 30 = .ok (.iload_n 0, 1) := by decide +kernel
theorem dX7_lowest_31 : decode cX7_lowest 31 = .ok (.goto 4, 3) := by decide +kernel
theorem dX7_lowest_34 : decode cX7_lowest 34 = .ok (.iload_n 1, 1) := by decide +kernel
theorem dX7_lowest_35 : decode cX7_lowest 35 = .ok (.iload_n 3, 1) := by decide +kernel
theorem dX7_lowest_36 : decode cX7_lowest 36 = .ok (.idiv, 1) := by decide +kernel
theorem dX7_lowest_37 : decode cX7_lowest 37 = .ok (.ireturn, 1) := by decide +kernel
theorem dX7_odds_0 : decode cX7_odds 0 = .ok (.iload_n 1, 1) := by decide +kernel
theorem dX7_odds_1 : decode cX7_odds 1 = .ok (.iconst 0, 1) := by decide +kernel
theorem dX7_odds_2 : decode cX7_odds 2 = .ok (.bipush 10, 2) := by decide +kernel
theorem dX7_odds_4 : decode cX7_odds 4 = .ok (.invokestatic 64, 3) := by decide +kernel
theorem dX7_odds_7 : decode cX7_odds 7 = .ok (.ifCond .eq 21, 3) := by decide +kernel
theorem dX7_odds_10 : decode cX7_odds 10 = .ok (.iload_n 2, 1) := by decide +kernel
theorem dX7_odds_11 : decode cX7_odds 11 = .ok (.iconst 0, 1) := by decide +kernel
theorem dX7_odds_12 : decode cX7_odds 12 = .ok (.iconst 4, 1) := by decide +kernel
theorem dX7_odds_13 : decode cX7_odds 13 = .ok (.invokestatic 64, 3) := by decide +kernel
theorem dX7_odds_16 : decode cX7_odds 16 = .ok (.ifCond .eq 12, 3) := by decide +kernel
theorem dX7_odds_19 : decode cX7_odds 19 = .ok (.iload_n 3, 1) := by decide +kernel
theorem dX7_odds_20 : decode cX7_odds 20 = .ok (.iconst 0, 1) := by decide +kernel
theorem dX7_odds_21 : decode cX7_odds 21 = .ok (.iconst 1, 1) := by decide +kernel
theorem dX7_odds_22 : decode cX7_odds 22 = .ok (.invokestatic 64, 3) := by decide +kernel
theorem dX7_odds_25 : decode cX7_odds 25 = .ok (.ifCond .ne 5, 3) := by decide +kernel
theorem dX7_odds_28 : decode cX7_odds 28 = .ok (.iconst (-1), 1) := by decide +kernel
theorem dX7_odds_29 : decode cX7_odds 29 = .ok (.ireturn, 1) := by decide +kernel
theorem dX7_odds_30 : decode cX7_odds 30 = .ok (.aload_n 0, 1) := by decide +kernel
theorem dX7_odds_31 : decode cX7_odds 31 = .ok (.invokevirtual 162, 3) := by decide +kernel
theorem dX7_odds_34 : decode cX7_odds 34 = .ok (.invokestatic 173, 3) := by decide +kernel
theorem dX7_odds_37 : decode cX7_odds 37 = .ok (.istore 4, 2) := by decide +kernel
theorem dX7_odds_39 : decode cX7_odds 39 = .ok (.iconst 0, 1) := by decide +kernel
theorem dX7_odds_40 : decode cX7_odds 40 = .ok (.istore 5, 2) := by decide +kernel
theorem dX7_odds_42 : decode cX7_odds 42 = .ok (.iconst 1, 1) := by decide +kernel
theorem dX7_odds_43 : decode cX7_odds 43 = .ok (.istore 6, 2) := by decide +kernel
theorem dX7_odds_45 : decode cX7_odds 45 = .ok (.iconst 0, 1) := by decide +kernel
theorem dX7_odds_46 : decode cX7_odds 46 = .ok (.istore 7, 2) := by decide +kernel
theorem dX7_odds_48 : decode cX7_odds 48 = .ok (.iload 7, 2) := by decide +kernel
theorem dX7_odds_50 : decode cX7_odds 50 = .ok (.iload 4, 2) := by decide +kernel
theorem dX7_odds_52 : decode cX7_odds 52 = .ok (.if_icmp .ge 16, 3) := by decide +kernel
theorem dX7_odds_55 : decode cX7_odds 55 = .ok (.iload 6, 2) := by decide +kernel
theorem dX7_odds_57 : decode cX7_odds 57 = .ok (.bipush 10, 2) := by decide +kernel
theorem dX7_odds_59 : decode cX7_odds 59 = .ok (.imul, 1) := by decide +kernel
theorem dX7_odds_60 : decode cX7_odds 60 = .ok (.istore 6, 2) := by decide +kernel
theorem dX7_odds_62 : decode cX7_odds 62 = .ok (.iinc 7 1, 3) := by decide +kernel
theorem dX7_odds_65 : decode cX7_odds 65 = .ok (.goto (-17), 3) := by decide +kernel
theorem dX7_odds_68 : decode cX7_odds 68 = .ok (.iconst 0, 1) := by decide +kernel
theorem dX7_odds_69 : decode cX7_odds 69 = .ok (.istore 7, 2) := by decide +kernel
theorem dX7_odds_71 : decode cX7_odds 71 = .ok (.iload 7, 2) := by decide +kernel
theorem dX7_odds_73 : decode cX7_odds 73 = .ok (.iconst 1, 1) := by decide +kernel
theorem dX7_odds_74 : decode cX7_odds 74 = .ok (.iload 4, 2) := by decide +kernel
theorem dX7_odds_76 : decode cX7_odds 76 = .ok (.ishl, 1) := by decide +kernel
theorem dX7_odds_77 : decode cX7_odds 77 = .ok (.if_icmp .ge 71, 3) := by decide +kernel
theorem dX7_odds_80 : decode cX7_odds 80 = .ok (.iconst 1, 1) := by decide +kernel
theorem dX7_odds_81 : decode cX7_odds 81 = .ok (.istore 8, 2) := by decide +kernel
theorem dX7_odds_83 : decode cX7_odds 83 = .ok (.iconst 0, 1) := by decide +kernel
theorem dX7_odds_84 : decode cX7_odds 84 = .ok (.istore 9, 2) := by decide +kernel
theorem dX7_odds_86 : decode cX7_odds 86 = .ok (.iload 9, 2) := by decide +kernel
theorem dX7_odds_88 : decode cX7_odds 88 = .ok (.iload 4, 2) := by decide +kernel
theorem dX7_odds_90 : decode cX7_odds 90 = .ok (.if_icmp .ge 32, 3) := by decide +kernel
theorem dX7_odds_93 : decode cX7_odds 93 = .ok (.iload 8, 2) := by decide +kernel
theorem dX7_odds_95 : decode cX7_odds 95 = .ok (.iload 7, 2) := by decide +kernel
theorem dX7_odds_97 : decode cX7_odds 97 = .ok (.iload 9, 2) := by decide +kernel
theorem dX7_odds_99 : decode cX7_odds 99 = .ok (.invokestatic 201, 3) := by decide +kernel
theorem dX7_odds_102 : decode cX7_odds 102 = .ok (.ifCond .eq 7, 3) := by decide +kernel
theorem dX7_odds_105 : decode cX7_odds 105 = .ok (.iload_n 1, 1) := by decide +kernel
theorem dX7_odds_106 : decode cX7_odds 106 = .ok (.goto 7, 3) := by decide +kernel
theorem dX7_odds_109 : decode cX7_odds 109 = .ok (.bipush 10, 2) := by decide +kernel
theorem dX7_odds_111 : decode cX7_odds 111 = .ok (.iload_n 1, 1) := by decide +kernel
theorem dX7_odds_112 : decode cX7_odds 112 = .ok (.isub, 1) := by decide +kernel
theorem dX7_odds_113 : decode cX7_odds 113 = .ok (.imul, 1) := by decide +kernel
theorem dX7_odds_114 : decode cX7_odds 114 = .ok (.istore 8, 2) := by decide +kernel
theorem dX7_odds_116 : decode cX7_odds 116 = .ok (.iinc 9 1, 3) := by decide +kernel
theorem dX7_odds_119 : decode cX7_odds 119 = .ok (.goto (-33), 3) := by decide +kernel
theorem dX7_odds_122 : decode cX7_odds 122 = .ok (.iload 5, 2) := by decide +kernel
theorem dX7_odds_124 : decode cX7_odds 124 = .ok (.iload 7, 2) := by decide +kernel
theorem dX7_odds_126 : decode cX7_odds 126 = .ok (.invokestatic 173, 3) := by decide +kernel
theorem dX7_odds_129 : decode cX7_odds 129 = .ok (.iload_n 2, 1) := by decide +kernel
theorem dX7_odds_130 : decode cX7_odds 130 = .ok (.if_icmp .gt 8, 3) := by decide +kernel
theorem dX7_odds_133 : decode cX7_odds 133 = .ok (.iload 8, 2) := by decide +kernel
theorem dX7_odds_135 : decode cX7_odds 135 = .ok (.goto 4, 3) := by decide +kernel
theorem dX7_odds_138 : decode cX7_odds 138 = .ok (.iconst 0, 1) := by decide +kernel
theorem dX7_odds_139 : decode cX7_odds 139 = .ok (.iadd, 1) := by decide +kernel
theorem dX7_odds_140 : decode cX7_odds 140 = .ok (.istore 5, 2) := by decide +kernel
theorem dX7_odds_142 : decode cX7_odds 142 = .ok (.iinc 7 1, 3) := by decide +kernel
theorem dX7_odds_145 : decode cX7_odds 145 = .ok (.goto (-74), 3) := by decide +kernel
theorem dX7_odds_148 : decode cX7_odds 148 = .ok (.iload 5, 2) := by decide +kernel
theorem dX7_odds_150 : decode cX7_odds 150 = .ok (.iload 6, 2) := by decide +kernel
theorem dX7_odds_152 : decode cX7_odds 152 = .ok (.iload_n 3, 1) := by decide +kernel
theorem dX7_odds_153 : decode cX7_odds 153 = .ok (.invokestatic 222, 3) := by decide +kernel
theorem dX7_odds_156 : decode cX7_odds 156 = .ok (.ireturn, 1) := by decide +kernel
theorem dX7_knows_0 : decode cX7_knows 0 = .ok (.iload_n 1, 1) := by decide +kernel
theorem dX7_knows_1 : decode cX7_knows 1 = .ok (.iconst 0, 1) := by decide +kernel
theorem dX7_knows_2 : decode cX7_knows 2 = .ok (.iconst 2, 1) := by decide +kernel
theorem dX7_knows_3 : decode cX7_knows 3 = .ok (.invokestatic 64, 3) := by decide +kernel
theorem dX7_knows_6 : decode cX7_knows 6 = .ok (.ifCond .ne 5, 3) := by decide +kernel
theorem dX7_knows_9 : decode cX7_knows 9 = .ok (.iconst (-1), 1) := by decide +kernel
theorem dX7_knows_10 : decode cX7_knows 10 = .ok (.ireturn, 1) := by decide +kernel
theorem dX7_knows_11 : decode cX7_knows 11 = .ok (.iconst 0, 1) := by decide +kernel
theorem dX7_knows_12 : decode cX7_knows 12 = .ok (.istore_n 2, 1) := by decide +kernel
theorem dX7_knows_13 : decode cX7_knows 13 = .ok (.iload_n 2, 1) := by decide +kernel
theorem dX7_knows_14 : decode cX7_knows 14 = .ok (.bipush 6, 2) := by decide +kernel
theorem dX7_knows_16 : decode cX7_knows 16 = .ok (.if_icmp .ge 18, 3) := by decide +kernel
theorem dX7_knows_19 : decode cX7_knows 19 = .ok (.aload_n 0, 1) := by decide +kernel
theorem dX7_knows_20 : decode cX7_knows 20 = .ok (.getfield 55, 3) := by decide +kernel
theorem dX7_knows_23 : decode cX7_knows 23 = .ok (.iload_n 2, 1) := by decide +kernel
theorem dX7_knows_24 : decode cX7_knows 24 = .ok (.iconst 1, 1) := by decide +kernel
theorem dX7_knows_25 : decode cX7_knows 25 = .ok (.iload_n 2, 1) := by decide +kernel
theorem dX7_knows_26 : decode cX7_knows 26 = .ok (.ishl, 1) := by decide +kernel
theorem dX7_knows_27 : decode cX7_knows 27 = .ok (.iastore, 1) := by decide +kernel
theorem dX7_knows_28 : decode cX7_knows 28 = .ok (.iinc 2 1, 3) := by decide +kernel
theorem dX7_knows_31 : decode cX7_knows 31 = .ok (.goto (-18), 3) := by decide +kernel
theorem dX7_knows_34 : decode cX7_knows 34 = .ok (.iconst 0, 1) := by decide +kernel
theorem dX7_knows_35 : decode cX7_knows 35 = .ok (.istore_n 2, 1) := by decide +kernel
theorem dX7_knows_36 : decode cX7_knows 36 = .ok (.iconst 0, 1) := by decide +kernel
theorem dX7_knows_37 : decode cX7_knows 37 = .ok (.istore_n 3, 1) := by decide +kernel
theorem dX7_knows_38 : decode cX7_knows 38 = .ok (.iload_n 3, 1) := by decide +kernel
theorem dX7_knows_39 : decode cX7_knows 39 = .ok (.aload_n 0, 1) := by decide +kernel
theorem dX7_knows_40 : decode cX7_knows 40 = .ok (.getfield 68, 3) := by decide +kernel
theorem dX7_knows_43 : decode cX7_knows 43 = .ok (.if_icmp .ge 98, 3) := by decide +kernel
theorem dX7_knows_46 : decode cX7_knows 46 = .ok (.aload_n 0, 1) := by decide +kernel
theorem dX7_knows_47 : decode cX7_knows 47 = .ok (.getfield 13, 3) := by decide +kernel
theorem dX7_knows_50 : decode cX7_knows 50 = .ok (.iconst 4, 1) := by decide +kernel
theorem dX7_knows_51 : decode cX7_knows 51 = .ok (.iload_n 3, 1) := by decide +kernel
theorem dX7_knows_52 : decode cX7_knows 52 = .ok (.imul, 1) := by decide +kernel
theorem dX7_knows_53 : decode cX7_knows 53 = .ok (.iconst 2, 1) := by decide +kernel
theorem dX7_knows_54 : decode cX7_knows 54 = .ok (.iadd, 1) := by decide +kernel
theorem dX7_knows_55 : decode cX7_knows 55 = .ok (.iaload, 1) := by decide +kernel
theorem dX7_knows_56 : decode cX7_knows 56 = .ok (.istore 4, 2) := by decide +kernel
theorem dX7_knows_58 : decode cX7_knows 58 = .ok (.aload_n 0, 1) := by decide +kernel
theorem dX7_knows_59 : decode cX7_knows 59 = .ok (.getfield 13, 3) := by decide +kernel
theorem dX7_knows_62 : decode cX7_knows 62 = .ok (.iconst 4, 1) := by decide +kernel
theorem dX7_knows_63 : decode cX7_knows 63 = .ok (.iload_n 3, 1) := by decide +kernel
theorem dX7_knows_64 : decode cX7_knows 64 = .ok (.imul, 1) := by decide +kernel
theorem dX7_knows_65 : decode cX7_knows 65 = .ok (.iconst 3, 1) := by decide +kernel
theorem dX7_knows_66 : decode cX7_knows 66 = .ok (.iadd, 1) := by decide +kernel
theorem dX7_knows_67 : decode cX7_knows 67 = .ok (.iaload, 1) := by decide +kernel
theorem dX7_knows_68 : decode cX7_knows 68 = .ok (.istore 5, 2) := by decide +kernel
theorem dX7_knows_70 : decode cX7_knows 70 = .ok (.aload_n 0, 1) := by decide +kernel
theorem dX7_knows_71 : decode cX7_knows 71 = .ok (.getfield 23, 3) := by decide +kernel
theorem dX7_knows_74 : decode cX7_knows 74 = .ok (.bipush 6, 2) := by decide +kernel
theorem dX7_knows_76 : decode cX7_knows 76 = .ok (.iaload, 1) := by decide +kernel
theorem dX7_knows_77 : decode cX7_knows 77 = .ok (.iload_n 3, 1) := by decide +kernel
theorem dX7_knows_78 : decode cX7_knows 78 = .ok (.invokestatic 201, 3) := by decide +kernel
theorem dX7_knows_81 : decode cX7_knows 81 = .ok (.ifCond .eq 54, 3) := by decide +kernel
theorem dX7_knows_84 : decode cX7_knows 84 = .ok (.iload_n 2, 1) := by decide +kernel
theorem dX7_knows_85 : decode cX7_knows 85 = .ok (.aload_n 0, 1) := by decide +kernel
theorem dX7_knows_86 : decode cX7_knows 86 = .ok (.getfield 55, 3) := by decide +kernel
theorem dX7_knows_89 : decode cX7_knows 89 = .ok (.iload 4, 2) := by decide +kernel
theorem dX7_knows_91 : decode cX7_knows 91 = .ok (.iaload, 1) := by decide +kernel
theorem dX7_knows_92 : decode cX7_knows 92 = .ok (.iload 5, 2) := by decide +kernel
theorem dX7_knows_94 : decode cX7_knows 94 = .ok (.invokestatic 201, 3) := by decide +kernel
theorem dX7_knows_97 : decode cX7_knows 97 = .ok (.ifCond .eq 7, 3) := by decide +kernel
theorem dX7_knows_100 : decode cX7_knows 100 = .ok (.iconst 0, 1) := by decide +kernel
theorem dX7_knows_101 : decode cX7_knows 101 = .ok (.goto 4, 3) := by decide +kernel
theorem dX7_knows_104 : decode cX7_knows 104 = .ok (.iconst 1, 1) := by decide +kernel
theorem dX7_knows_105 : decode cX7_knows 105 = .ok (.iadd, 1) := by decide +kernel
theorem dX7_knows_106 : decode cX7_knows 106 = .ok (.istore_n 2, 1) := by decide +kernel
theorem dX7_knows_107 : decode cX7_knows 107 = .ok (.aload_n 0, 1) := by decide +kernel
theorem dX7_knows_108 : decode cX7_knows 108 = .ok (.getfield 55, 3) := by decide +kernel
theorem dX7_knows_111 : decode cX7_knows 111 = .ok (.iload 4, 2) := by decide +kernel
theorem dX7_knows_113 : decode cX7_knows 113 = .ok (.dup2, 1) := by decide +kernel
theorem dX7_knows_114 : decode cX7_knows 114 = .ok (.iaload, 1) := by decide +kernel
theorem dX7_knows_115 : decode cX7_knows 115 = .ok (.iconst 1, 1) := by decide +kernel
theorem dX7_knows_116 : decode cX7_knows 116 = .ok (.iload 5, 2) := by decide +kernel
theorem dX7_knows_118 : decode cX7_knows 118 = .ok (.ishl, 1) := by decide +kernel
theorem dX7_knows_119 : decode cX7_knows 119 = .ok (.ior, 1) := by decide +kernel
theorem dX7_knows_120 : decode cX7_knows 120 = .ok (.iastore, 1) := by decide +kernel
theorem dX7_knows_121 : decode cX7_knows 121 = .ok (.aload_n 0, 1) := by decide +kernel
theorem dX7_knows_122 : decode cX7_knows 122 = .ok (.getfield 55, 3) := by decide +kernel
theorem dX7_knows_125 : decode cX7_knows 125 = .ok (.iload 5, 2) := by decide +kernel
theorem dX7_knows_127 : decode cX7_knows 127 = .ok (.dup2, 1) := by decide +kernel
theorem dX7_knows_128 : decode cX7_knows 128 = .ok (.iaload, 1) := by decide +kernel
theorem dX7_knows_129 : decode cX7_knows 129 = .ok (.iconst 1, 1) := by decide +kernel
theorem dX7_knows_130 : decode cX7_knows 130 = .ok (.iload 4, 2) := by decide +kernel
theorem dX7_knows_132 : decode cX7_knows 132 = .ok (.ishl, 1) := by decide +kernel
theorem dX7_knows_133 : decode cX7_knows 133 = .ok (.ior, 1) := by decide +kernel
theorem dX7_knows_134 : decode cX7_knows 134 = .ok (.iastore, 1) := by decide +kernel
theorem dX7_knows_135 : decode cX7_knows 135 = .ok (.iinc 3 1, 3) := by decide +kernel
theorem dX7_knows_138 : decode cX7_knows 138 = .ok (.goto (-100), 3) := by decide +kernel
theorem dX7_knows_141 : decode cX7_knows 141 = .ok (.iconst 0, 1) := by decide +kernel
theorem dX7_knows_142 : decode cX7_knows 142 = .ok (.istore_n 3, 1) := by decide +kernel
theorem dX7_knows_143 : decode cX7_knows 143 = .ok (.iload_n 3, 1) := by decide +kernel
theorem dX7_knows_144 : decode cX7_knows 144 = .ok (.bipush 6, 2) := by decide +kernel
theorem dX7_knows_146 : decode cX7_knows 146 = .ok (.if_icmp .ge 59, 3) := by decide +kernel
theorem dX7_knows_149 : decode cX7_knows 149 = .ok (.iconst 0, 1) := by decide +kernel
theorem dX7_knows_150 : decode cX7_knows 150 = .ok (.istore 4, 2) := by decide +kernel
theorem dX7_knows_152 : decode cX7_knows 152 = .ok (.iload 4, 2) := by decide +kernel
theorem dX7_knows_154 : decode cX7_knows 154 = .ok (.bipush 6, 2) := by decide +kernel
theorem dX7_knows_156 : decode cX7_knows 156 = .ok (.if_icmp .ge 43, 3) := by decide +kernel
theorem dX7_knows_159 : decode cX7_knows 159 = .ok (.aload_n 0, 1) := by decide +kernel
theorem dX7_knows_160 : decode cX7_knows 160 = .ok (.getfield 55, 3) := by decide +kernel
theorem dX7_knows_163 : decode cX7_knows 163 = .ok (.iload 4, 2) := by decide +kernel
theorem dX7_knows_165 : decode cX7_knows 165 = .ok (.dup2, 1) := by decide +kernel
theorem dX7_knows_166 : decode cX7_knows 166 = .ok (.iaload, 1) := by decide +kernel
theorem dX7_knows_167 : decode cX7_knows 167 = .ok (.aload_n 0, 1) := by decide +kernel
theorem dX7_knows_168 : decode cX7_knows 168 = .ok (.getfield 55, 3) := by decide +kernel
theorem dX7_knows_171 : decode cX7_knows 171 = .ok (.iload 4, 2) := by decide +kernel
theorem dX7_knows_173 : decode cX7_knows 173 = .ok (.iaload, 1) := by decide +kernel
theorem dX7_knows_174 : decode cX7_knows 174 = .ok (.iload_n 3, 1) := by decide +kernel
theorem dX7_knows_175 : decode cX7_knows 175 = .ok (.invokestatic 201, 3) := by decide +kernel
theorem dX7_knows_178 : decode cX7_knows 178 = .ok (.ifCond .eq 12, 3) := by decide +kernel
theorem dX7_knows_181 : decode cX7_knows 181 = .ok (.aload_n 0, 1) := by decide +kernel
theorem dX7_knows_182 : decode cX7_knows 182 = .ok (.getfield 55, 3) := by decide +kernel
theorem dX7_knows_185 : decode cX7_knows 185 = .ok (.iload_n 3, 1) := by decide +kernel
theorem dX7_knows_186 : decode cX7_knows 186 = .ok (.iaload, 1) := by decide +kernel
theorem dX7_knows_187 : decode cX7_knows 187 = .ok (.goto 4, 3) := by decide +kernel
theorem dX7_knows_190 : decode cX7_knows 190 = .ok (.iconst 0, 1) := by decide +kernel
theorem dX7_knows_191 : decode cX7_knows 191 = .ok (.ior, 1) := by decide +kernel
theorem dX7_knows_192 : decode cX7_knows 192 = .ok (.iastore, 1) := by decide +kernel
theorem dX7_knows_193 : decode cX7_knows 193 = .ok (.iinc 4 1, 3) := by decide +kernel
theorem dX7_knows_196 : decode cX7_knows 196 = .ok (.goto (-44), 3) := by decide +kernel
theorem dX7_knows_199 : decode cX7_knows 199 = .ok (.iinc 3 1, 3) := by decide +kernel
theorem dX7_knows_202 : decode cX7_knows 202 = .ok (.goto (-59), 3) := by decide +kernel
theorem dX7_knows_205 : decode cX7_knows 205 = .ok (.iconst 0, 1) := by decide +kernel
theorem dX7_knows_206 : decode cX7_knows 206 = .ok (.istore_n 3, 1) := by decide +kernel
theorem dX7_knows_207 : decode cX7_knows 207 = .ok (.iconst 0, 1) := by decide +kernel
theorem dX7_knows_208 : decode cX7_knows 208 = .ok (.istore 4, 2) := by decide +kernel
theorem dX7_knows_210 : decode cX7_knows 210 = .ok (.iconst 0, 1) := by decide +kernel
theorem dX7_knows_211 : decode cX7_knows 211 = .ok (.istore 5, 2) := by decide +kernel
theorem dX7_knows_213 : decode cX7_knows 213 = .ok (.iload 5, 2) := by decide +kernel
theorem dX7_knows_215 : decode cX7_knows 215 = .ok (.bipush 6, 2) := by decide +kernel
theorem dX7_knows_217 : decode cX7_knows 217 = .ok (.if_icmp .ge 56, 3) := by decide +kernel
theorem dX7_knows_220 : decode cX7_knows 220 = .ok (.iload_n 3, 1) := by decide +kernel
theorem dX7_knows_221 : decode cX7_knows 221 = .ok (.aload_n 0, 1) := by decide +kernel
theorem dX7_knows_222 : decode cX7_knows 222 = .ok (.getfield 55, 3) := by decide +kernel
theorem dX7_knows_225 : decode cX7_knows 225 = .ok (.iload 5, 2) := by decide +kernel
theorem dX7_knows_227 : decode cX7_knows 227 = .ok (.iaload, 1) := by decide +kernel
theorem dX7_knows_228 : decode cX7_knows 228 = .ok (.invokestatic 173, 3) := by decide +kernel
theorem dX7_knows_231 : decode cX7_knows 231 = .ok (.iconst 1, 1) := by decide +kernel
theorem dX7_knows_232 : decode cX7_knows 232 = .ok (.isub, 1) := by decide +kernel
theorem dX7_knows_233 : decode cX7_knows 233 = .ok (.iadd, 1) := by decide +kernel
theorem dX7_knows_234 : decode cX7_knows 234 = .ok (.istore_n 3, 1) := by decide +kernel
theorem dX7_knows_235 : decode cX7_knows 235 = .ok (.aload_n 0, 1) := by decide +kernel
theorem dX7_knows_236 : decode cX7_knows 236 = .ok (.getfield 55, 3) := by decide +kernel
theorem dX7_knows_239 : decode cX7_knows 239 = .ok (.iload 5, 2) := by decide +kernel
theorem dX7_knows_241 : decode cX7_knows 241 = .ok (.iaload, 1) := by decide +kernel
theorem dX7_knows_242 : decode cX7_knows 242 = .ok (.invokestatic 173, 3) := by decide +kernel
theorem dX7_knows_245 : decode cX7_knows 245 = .ok (.iload 4, 2) := by decide +kernel
theorem dX7_knows_247 : decode cX7_knows 247 = .ok (.if_icmp .le 16, 3) := by decide +kernel
theorem dX7_knows_250 : decode cX7_knows 250 = .ok (.aload_n 0, 1) := by decide +kernel
theorem dX7_knows_251 : decode cX7_knows 251 = .ok (.getfield 55, 3) := by decide +kernel
theorem dX7_knows_254 : decode cX7_knows 254 = .ok (.iload 5, 2) := by decide +kernel
theorem dX7_knows_256 : decode cX7_knows 256 = .ok (.iaload, 1) := by decide +kernel
theorem dX7_knows_257 : decode cX7_knows 257 = .ok (.invokestatic 173, 3) := by decide +kernel
theorem dX7_knows_260 : decode cX7_knows 260 = .ok (.goto 5, 3) := by decide +kernel
theorem dX7_knows_263 : decode cX7_knows 263 = .ok (.iload 4, 2) := by decide +kernel
theorem dX7_knows_265 : decode cX7_knows 265 = .ok (.istore 4, 2) := by decide +kernel
theorem dX7_knows_267 : decode cX7_knows 267 = .ok (.iinc 5 1, 3) := by decide +kernel
theorem dX7_knows_270 : decode cX7_knows 270 = .ok (.goto (-57), 3) := by decide +kernel
theorem dX7_knows_273 : decode cX7_knows 273 = .ok (.iload_n 1, 1) := by decide +kernel
theorem dX7_knows_274 : decode cX7_knows 274 = .ok (.ifCond .ne 9, 3) := by decide +kernel
theorem dX7_knows_277 : decode cX7_knows 277 = .ok (.iload_n 3, 1) := by decide +kernel
theorem dX7_knows_278 : decode cX7_knows 278 = .ok (.iconst 2, 1) := by decide +kernel
theorem dX7_knows_279 : decode cX7_knows 279 = .ok (.idiv, 1) := by decide +kernel
theorem dX7_knows_280 : decode cX7_knows 280 = .ok (.goto 18, 3) := by decide +kernel
theorem dX7_knows_283 : decode cX7_knows 283 = .ok (.iload_n 1, 1) := by decide +kernel
theorem dX7_knows_284 : decode cX7_knows 284 = .ok (.iconst 1, 1) := by decide +kernel
theorem dX7_knows_285 : decode cX7_knows 285 = .ok (.if_icmp .ne 11, 3) := by decide +kernel
theorem dX7_knows_288 : decode cX7_knows 288 = .ok (.iload_n 3, 1) := by decide +kernel
theorem dX7_knows_289 : decode cX7_knows 289 = .ok (.iconst 2, 1) := by decide +kernel
theorem dX7_knows_290 : decode cX7_knows 290 = .ok (.idiv, 1) := by decide +kernel
theorem dX7_knows_291 : decode cX7_knows 291 = .ok (.iload_n 2, 1) := by decide +kernel
theorem dX7_knows_292 : decode cX7_knows 292 = .ok (.isub, 1) := by decide +kernel
theorem dX7_knows_293 : decode cX7_knows 293 = .ok (.goto 5, 3) := by decide +kernel
theorem dX7_knows_296 : decode cX7_knows 296 = .ok (.iload 4, 2) := by decide +kernel
theorem dX7_knows_298 : decode cX7_knows 298 = .ok (.ireturn, 1) := by decide +kernel
theorem dX7_felt_0 : decode cX7_felt 0 = .ok (.iload_n 1, 1) := by decide +kernel
theorem dX7_felt_1 : decode cX7_felt 1 = .ok (.iconst 0, 1) := by decide +kernel
theorem dX7_felt_2 : decode cX7_felt 2 = .ok (.bipush 31, 2) := by decide +kernel
theorem dX7_felt_4 : decode cX7_felt 4 = .ok (.invokestatic 64, 3) := by decide +kernel
theorem dX7_felt_7 : decode cX7_felt 7 = .ok (.ifCond .ne 5, 3) := by decide +kernel
theorem dX7_felt_10 : decode cX7_felt 10 = .ok (.iconst (-1), 1) := by decide +kernel
theorem dX7_felt_11 : decode cX7_felt 11 = .ok (.ireturn, 1) := by decide +kernel
theorem dX7_felt_12 : decode cX7_felt 12 = .ok (.aload_n 0, 1) := by decide +kernel
theorem dX7_felt_13 : decode cX7_felt 13 = .ok (.getfield 138, 3) := by decide +kernel
theorem dX7_felt_16 : decode cX7_felt 16 = .ok (.bipush 6, 2) := by decide +kernel
theorem dX7_felt_18 : decode cX7_felt 18 = .ok (.if_icmp .ne 6, 3) := by decide +kernel
theorem dX7_felt_21 : decode cX7_felt 21 = .ok (.bipush (-3), 2) := by decide +kernel
theorem dX7_felt_23 : decode cX7_felt 23 = .ok (.ireturn, 1) := by decide +kernel
theorem dX7_felt_24 : decode cX7_felt 24 = .ok (.aload_n 0, 1) := by decide +kernel
theorem dX7_felt_25 : decode cX7_felt 25 = .ok (.getfield 36, 3) := by decide +kernel
theorem dX7_felt_28 : decode cX7_felt 28 = .ok (.aload_n 0, 1) := by decide +kernel
theorem dX7_felt_29 : decode cX7_felt 29 = .ok (.getfield 138, 3) := by decide +kernel
theorem dX7_felt_32 : decode cX7_felt 32 = .ok (.iload_n 1, 1) := by decide +kernel
theorem dX7_felt_33 : decode cX7_felt 33 = .ok (.iastore, 1) := by decide +kernel
theorem dX7_felt_34 : decode cX7_felt 34 = .ok (.aload_n 0, 1) := by decide +kernel
theorem dX7_felt_35 : decode cX7_felt 35 = .ok (.dup, 1) := by decide +kernel
theorem dX7_felt_36 : decode cX7_felt 36 = .ok (.getfield 138, 3) := by decide +kernel
theorem dX7_felt_39 : decode cX7_felt 39 = .ok (.iconst 1, 1) := by decide +kernel
theorem dX7_felt_40 : decode cX7_felt 40 = .ok (.iadd, 1) := by decide +kernel
theorem dX7_felt_41 : decode cX7_felt 41 = .ok (.putfield 138, 3) := by decide +kernel
theorem dX7_felt_44 : decode cX7_felt 44 = .ok (.aload_n 0, 1) := by decide +kernel
theorem dX7_felt_45 : decode cX7_felt 45 = .ok (.getfield 138, 3) := by decide +kernel
theorem dX7_felt_48 : decode cX7_felt 48 = .ok (.ireturn, 1) := by decide +kernel
theorem dX7_isWay_0 : decode cX7_isWay 0 = .ok (.iload_n 1, 1) := by decide +kernel
theorem dX7_isWay_1 : decode cX7_isWay 1 = .ok (.istore_n 2, 1) := by decide +kernel
theorem dX7_isWay_2 : decode cX7_isWay 2 = .ok (.iconst 0, 1) := by decide +kernel
theorem dX7_isWay_3 : decode cX7_isWay 3 = .ok (.istore_n 3, 1) := by decide +kernel
theorem dX7_isWay_4 : decode cX7_isWay 4 = .ok (.iconst 1, 1) := by decide +kernel
theorem dX7_isWay_5 : decode cX7_isWay 5 = .ok (.istore 4, 2) := by decide +kernel
theorem dX7_isWay_7 : decode cX7_isWay 7 = .ok (.iconst 0, 1) := by decide +kernel
theorem dX7_isWay_8 : decode cX7_isWay 8 = .ok (.istore 5, 2) := by decide +kernel
theorem dX7_isWay_10 : decode cX7_isWay 10 = .ok (.iload 5, 2) := by decide +kernel
theorem dX7_isWay_12 : decode cX7_isWay 12 = .ok (.aload_n 0, 1) := by decide +kernel
theorem dX7_isWay_13 : decode cX7_isWay 13 = .ok (.getfield 138, 3) := by decide +kernel
theorem dX7_isWay_16 : decode cX7_isWay 16 = .ok (.if_icmp .ge 90, 3) := by decide +kernel
theorem dX7_isWay_19 : decode cX7_isWay 19 = .ok (.iload_n 2, 1) := by decide +kernel
theorem dX7_isWay_20 : decode cX7_isWay 20 = .ok (.iconst 4, 1) := by decide +kernel
theorem dX7_isWay_21 : decode cX7_isWay 21 = .ok (.irem, 1) := by decide +kernel
theorem dX7_isWay_22 : decode cX7_isWay 22 = .ok (.istore 6, 2) := by decide +kernel
theorem dX7_isWay_24 : decode cX7_isWay 24 = .ok (.iload_n 2, 1) := by decide +kernel
theorem dX7_isWay_25 : decode cX7_isWay 25 = .ok (.iconst 4, 1) := by decide +kernel
theorem dX7_isWay_26 : decode cX7_isWay 26 = .ok (.idiv, 1) := by decide +kernel
theorem dX7_isWay_27 : decode cX7_isWay 27 = .ok (.istore_n 2, 1) := by decide +kernel
theorem dX7_isWay_28 : decode cX7_isWay 28 = .ok (.aload_n 0, 1) := by decide +kernel
theorem dX7_isWay_29 : decode cX7_isWay 29 = .ok (.getfield 58, 3) := by decide +kernel
theorem dX7_isWay_32 : decode cX7_isWay 32 = .ok (.iload 5, 2) := by decide +kernel
theorem dX7_isWay_34 : decode cX7_isWay 34 = .ok (.iload 6, 2) := by decide +kernel
theorem dX7_isWay_36 : decode cX7_isWay 36 = .ok (.iastore, 1) := by decide +kernel
theorem dX7_isWay_37 : decode cX7_isWay 37 = .ok (.iload 4, 2) := by decide +kernel
theorem dX7_isWay_39 : decode cX7_isWay 39 = .ok (.ifCond .eq 51, 3) := by decide +kernel
theorem dX7_isWay_42 : decode cX7_isWay 42 = .ok (.iload 6, 2) := by decide +kernel
theorem dX7_isWay_44 : decode cX7_isWay 44 = .ok (.aload_n 0, 1) := by decide +kernel
theorem dX7_isWay_45 : decode cX7_isWay 45 = .ok (.getfield 68, 3) := by decide +kernel
theorem dX7_isWay_48 : decode cX7_isWay 48 = .ok (.if_icmp .ge 42, 3) := by decide +kernel
theorem dX7_isWay_51 : decode cX7_isWay 51 = .ok (.iload_n 3, 1) := by decide +kernel
theorem dX7_isWay_52 : decode cX7_isWay 52 = .ok (.iload 6, 2) := by decide +kernel
theorem dX7_isWay_54 : decode cX7_isWay 54 = .ok (.invokestatic 201, 3) := by decide +kernel
theorem dX7_isWay_57 : decode cX7_isWay 57 = .ok (.ifCond .ne 33, 3) := by decide +kernel
theorem dX7_isWay_60 : decode cX7_isWay 60 = .ok (.aload_n 0, 1) := by decide +kernel
theorem dX7_isWay_61 : decode cX7_isWay 61 = .ok (.getfield 36, 3) := by decide +kernel
theorem dX7_isWay_64 : decode cX7_isWay 64 = .ok (.iload 5, 2) := by decide +kernel
theorem dX7_isWay_66 : decode cX7_isWay 66 = .ok (.iaload, 1) := by decide +kernel
theorem dX7_isWay_67 : decode cX7_isWay 67 = .ok (.aload_n 0, 1) := by decide +kernel
theorem dX7_isWay_68 : decode cX7_isWay 68 = .ok (.getfield 13, 3) := by decide +kernel
theorem dX7_isWay_71 : decode cX7_isWay 71 = .ok (.iconst 4, 1) := by decide +kernel
theorem dX7_isWay_72 : decode cX7_isWay 72 = .ok (.iload 6, 2) := by decide +kernel
theorem dX7_isWay_74 : decode cX7_isWay 74 = .ok (.imul, 1) := by decide +kernel
theorem dX7_isWay_75 : decode cX7_isWay 75 = .ok (.iconst 1, 1) := by decide +kernel
theorem dX7_isWay_76 : decode cX7_isWay 76 = .ok (.iadd, 1) := by decide +kernel
theorem dX7_isWay_77 : decode cX7_isWay 77 = .ok (.iaload, 1) := by decide +kernel
theorem dX7_isWay_78 : decode cX7_isWay 78 = .ok (.ixor, 1) := by decide +kernel
theorem dX7_isWay_79 : decode cX7_isWay 79 = .ok (.invokestatic 173, 3) := by decide +kernel
theorem dX7_isWay_82 : decode cX7_isWay 82 = .ok (.iconst 1, 1) := by decide +kernel
theorem dX7_isWay_83 : decode cX7_isWay 83 = .ok (.if_icmp .gt 7, 3) := by decide +kernel
theorem dX7_isWay_86 : decode cX7_isWay 86 = .ok (.iconst 1, 1) := by decide +kernel
theorem dX7_isWay_87 : decode cX7_isWay 87 = .ok (.goto 4, 3) := by decide +kernel
theorem dX7_isWay_90 : decode cX7_isWay 90 = .ok (.iconst 0, 1) := by decide +kernel
theorem dX7_isWay_91 : decode cX7_isWay 91 = .ok (.istore 4, 2) := by decide +kernel
theorem dX7_isWay_93 : decode cX7_isWay 93 = .ok (.iload_n 3, 1) := by decide +kernel
theorem dX7_isWay_94 : decode cX7_isWay 94 = .ok (.iconst 1, 1) := by decide +kernel
theorem dX7_isWay_95 : decode cX7_isWay 95 = .ok (.iload 6, 2) := by decide +kernel
theorem dX7_isWay_97 : decode cX7_isWay 97 = .ok (.ishl, 1) := by decide +kernel
theorem dX7_isWay_98 : decode cX7_isWay 98 = .ok (.ior, 1) := by decide +kernel
theorem dX7_isWay_99 : decode cX7_isWay 99 = .ok (.istore_n 3, 1) := by decide +kernel
theorem dX7_isWay_100 : decode cX7_isWay 100 = .ok (.iinc 5 1, 3) := by decide +kernel
theorem dX7_isWay_103 : decode cX7_isWay 103 = .ok (.goto (-93), 3) := by decide +kernel
theorem dX7_isWay_106 : decode cX7_isWay 106 = .ok (.iload 4, 2) := by decide +kernel
theorem dX7_isWay_108 : decode cX7_isWay 108 = .ok (.ireturn, 1) := by decide +kernel
theorem dX7_whose_0 : decode cX7_whose 0 = .ok (.iload_n 1, 1) := by decide +kernel
theorem dX7_whose_1 : decode cX7_whose 1 = .ok (.iconst (-1), 1) := by decide +kernel
theorem dX7_whose_2 : decode cX7_whose 2 = .ok (.aload_n 0, 1) := by decide +kernel
theorem dX7_whose_3 : decode cX7_whose 3 = .ok (.getfield 138, 3) := by decide +kernel
theorem dX7_whose_6 : decode cX7_whose 6 = .ok (.iconst 1, 1) := by decide +kernel
theorem dX7_whose_7 : decode cX7_whose 7 = .ok (.isub, 1) := by decide +kernel
theorem dX7_whose_8 : decode cX7_whose 8 = .ok (.invokestatic 64, 3) := by decide +kernel
theorem dX7_whose_11 : decode cX7_whose 11 = .ok (.ifCond .ne 5, 3) := by decide +kernel
theorem dX7_whose_14 : decode cX7_whose 14 = .ok (.iconst (-1), 1) := by decide +kernel
theorem dX7_whose_15 : decode cX7_whose 15 = .ok (.ireturn, 1) := by decide +kernel
theorem dX7_whose_16 : decode cX7_whose 16 = .ok (.iconst 0, 1) := by decide +kernel
theorem dX7_whose_17 : decode cX7_whose 17 = .ok (.istore_n 2, 1) := by decide +kernel
theorem dX7_whose_18 : decode cX7_whose 18 = .ok (.bipush (-9), 2) := by decide +kernel
theorem dX7_whose_20 : decode cX7_whose 20 = .ok (.istore_n 3, 1) := by decide +kernel
theorem dX7_whose_21 : decode cX7_whose 21 = .ok (.iconst 1, 1) := by decide +kernel
theorem dX7_whose_22 : decode cX7_whose 22 = .ok (.istore 4, 2) := by decide +kernel
theorem dX7_whose_24 : decode cX7_whose 24 = .ok (.iconst 0, 1) := by decide +kernel
theorem dX7_whose_25 : decode cX7_whose 25 = .ok (.istore 5, 2) := by decide +kernel
theorem dX7_whose_27 : decode cX7_whose 27 = .ok (.iload 5, 2) := by decide +kernel
theorem dX7_whose_29 : decode cX7_whose 29 = .ok (.aload_n 0, 1) := by decide +kernel
theorem dX7_whose_30 : decode cX7_whose 30 = .ok (.getfield 138, 3) := by decide +kernel
theorem dX7_whose_33 : decode cX7_whose 33 = .ok (.if_icmp .ge 15, 3) := by decide +kernel
theorem dX7_whose_36 : decode cX7_whose 36 = .ok (.iload 4, 2) := by decide +kernel
theorem dX7_whose_38 : decode cX7_whose 38 = .ok (.iconst 4, 1) := by decide +kernel
theorem dX7_whose_39 : decode cX7_whose 39 = .ok (.imul, 1) := by decide +kernel
theorem dX7_whose_40 : decode cX7_whose 40 = .ok (.istore 4, 2) := by decide +kernel
theorem dX7_whose_42 : decode cX7_whose 42 = .ok (.iinc 5 1, 3) := by decide +kernel
theorem dX7_whose_45 : decode cX7_whose 45 = .ok (.goto (-18), 3) := by decide +kernel
theorem dX7_whose_48 : decode cX7_whose 48 = .ok (.iconst 0, 1) := by decide +kernel
theorem dX7_whose_49 : decode cX7_whose 49 = .ok (.istore 5, 2) := by decide +kernel
theorem dX7_whose_51 : decode cX7_whose 51 = .ok (.iload 5, 2) := by decide +kernel
theorem dX7_whose_53 : decode cX7_whose 53 = .ok (.iload 4, 2) := by decide +kernel
theorem dX7_whose_55 : decode cX7_whose 55 = .ok (.if_icmp .ge 51, 3) := by decide +kernel
theorem dX7_whose_58 : decode cX7_whose 58 = .ok (.aload_n 0, 1) := by decide +kernel
theorem dX7_whose_59 : decode cX7_whose 59 = .ok (.iload 5, 2) := by decide +kernel
theorem dX7_whose_61 : decode cX7_whose 61 = .ok (.invokevirtual 226, 3) := by decide +kernel
theorem dX7_whose_64 : decode cX7_whose 64 = .ok (.ifCond .eq 36, 3) := by decide +kernel
theorem dX7_whose_67 : decode cX7_whose 67 = .ok (.iload_n 1, 1) := by decide +kernel
theorem dX7_whose_68 : decode cX7_whose 68 = .ok (.ifCond .lt 17, 3) := by decide +kernel
theorem dX7_whose_71 : decode cX7_whose 71 = .ok (.iload_n 2, 1) := by decide +kernel
theorem dX7_whose_72 : decode cX7_whose 72 = .ok (.ifCond .le 18, 3) := by decide +kernel
theorem dX7_whose_75 : decode cX7_whose 75 = .ok (.iload_n 3, 1) := by decide +kernel
theorem dX7_whose_76 : decode cX7_whose 76 = .ok (.aload_n 0, 1) := by decide +kernel
theorem dX7_whose_77 : decode cX7_whose 77 = .ok (.getfield 58, 3) := by decide +kernel
theorem dX7_whose_80 : decode cX7_whose 80 = .ok (.iload_n 1, 1) := by decide +kernel
theorem dX7_whose_81 : decode cX7_whose 81 = .ok (.iaload, 1) := by decide +kernel
theorem dX7_whose_82 : decode cX7_whose 82 = .ok (.if_icmp .eq 8, 3) := by decide +kernel
theorem dX7_whose_85 : decode cX7_whose 85 = .ok (.bipush (-9), 2) := by decide +kernel
theorem dX7_whose_87 : decode cX7_whose 87 = .ok (.goto 9, 3) := by decide +kernel
theorem dX7_whose_90 : decode cX7_whose 90 = .ok (.aload_n 0, 1) := by decide +kernel
theorem dX7_whose_91 : decode cX7_whose 91 = .ok (.getfield 58, 3) := by decide +kernel
theorem dX7_whose_94 : decode cX7_whose 94 = .ok (.iload_n 1, 1) := by decide +kernel
theorem dX7_whose_95 : decode cX7_whose 95 = .ok (.iaload, 1) := by decide +kernel
theorem dX7_whose_96 : decode cX7_whose 96 = .ok (.istore_n 3, 1) := by decide +kernel
theorem dX7_whose_97 : decode cX7_whose 97 = .ok (.iinc 2 1, 3) := by decide +kernel
theorem dX7_whose_100 : decode cX7_whose 100 = .ok (.iinc 5 1, 3) := by decide +kernel
theorem dX7_whose_103 : decode cX7_whose 103 = .ok (.goto (-52), 3) := by decide +kernel
theorem dX7_whose_106 : decode cX7_whose 106 = .ok (.iload_n 1, 1) := by decide +kernel
theorem dX7_whose_107 : decode cX7_whose 107 = .ok (.ifCond .ge 7, 3) := by decide +kernel
theorem dX7_whose_110 : decode cX7_whose 110 = .ok (.iload_n 2, 1) := by decide +kernel
theorem dX7_whose_111 : decode cX7_whose 111 = .ok (.goto 4, 3) := by decide +kernel
theorem dX7_whose_114 : decode cX7_whose 114 = .ok (.iload_n 3, 1) := by decide +kernel
theorem dX7_whose_115 : decode cX7_whose 115 = .ok (.ireturn, 1) := by decide +kernel
theorem dX7_tells_0 : decode cX7_tells 0 = .ok (.aload_n 0, 1) := by decide +kernel
theorem dX7_tells_1 : decode cX7_tells 1 = .ok (.iload_n 1, 1) := by decide +kernel
theorem dX7_tells_2 : decode cX7_tells 2 = .ok (.invokevirtual 156, 3) := by decide +kernel
theorem dX7_tells_5 : decode cX7_tells 5 = .ok (.ifCond .eq 24, 3) := by decide +kernel
theorem dX7_tells_8 : decode cX7_tells 8 = .ok (.aload_n 0, 1) := by decide +kernel
theorem dX7_tells_9 : decode cX7_tells 9 = .ok (.iload_n 2, 1) := by decide +kernel
theorem dX7_tells_10 : decode cX7_tells 10 = .ok (.invokevirtual 147, 3) := by decide +kernel
theorem dX7_tells_13 : decode cX7_tells 13 = .ok (.ifCond .eq 16, 3) := by decide +kernel
theorem dX7_tells_16 : decode cX7_tells 16 = .ok (.aload_n 0, 1) := by decide +kernel
theorem dX7_tells_17 : decode cX7_tells 17 = .ok (.iload_n 3, 1) := by decide +kernel
theorem dX7_tells_18 : decode cX7_tells 18 = .ok (.invokevirtual 147, 3) := by decide +kernel
theorem dX7_tells_21 : decode cX7_tells 21 = .ok (.ifCond .eq 8, 3) := by decide +kernel
theorem dX7_tells_24 : decode cX7_tells 24 = .ok (.iload_n 2, 1) := by decide +kernel
theorem dX7_tells_25 : decode cX7_tells 25 = .ok (.iload_n 3, 1) := by decide +kernel
theorem dX7_tells_26 : decode cX7_tells 26 = .ok (.if_icmp .ne 5, 3) := by decide +kernel
theorem dX7_tells_29 : decode cX7_tells 29 = .ok (.iconst (-1), 1) := by decide +kernel
theorem dX7_tells_30 : decode cX7_tells 30 = .ok (.ireturn, 1) := by decide +kernel
theorem dX7_tells_31 : decode cX7_tells 31 = .ok (.aload_n 0, 1) := by decide +kernel
theorem dX7_tells_32 : decode cX7_tells 32 = .ok (.getfield 141, 3) := by decide +kernel
theorem dX7_tells_35 : decode cX7_tells 35 = .ok (.bipush 6, 2) := by decide +kernel
theorem dX7_tells_37 : decode cX7_tells 37 = .ok (.if_icmp .ne 6, 3) := by decide +kernel
theorem dX7_tells_40 : decode cX7_tells 40 = .ok (.bipush (-3), 2) := by decide +kernel
theorem dX7_tells_42 : decode cX7_tells 42 = .ok (.ireturn, 1) := by decide +kernel
theorem dX7_tells_43 : decode cX7_tells 43 = .ok (.aload_n 0, 1) := by decide +kernel
theorem dX7_tells_44 : decode cX7_tells 44 = .ok (.getfield 39, 3) := by decide +kernel
theorem dX7_tells_47 : decode cX7_tells 47 = .ok (.iconst 3, 1) := by decide +kernel
theorem dX7_tells_48 : decode cX7_tells 48 = .ok (.aload_n 0, 1) := by decide +kernel
theorem dX7_tells_49 : decode cX7_tells 49 = .ok (.getfield 141, 3) := by decide +kernel
theorem dX7_tells_52 : decode cX7_tells 52 = .ok (.imul, 1) := by decide +kernel
theorem dX7_tells_53 : decode cX7_tells 53 = .ok (.iload_n 1, 1) := by decide +kernel
theorem dX7_tells_54 : decode cX7_tells 54 = .ok (.iastore, 1) := by decide +kernel
theorem dX7_tells_55 : decode cX7_tells 55 = .ok (.aload_n 0, 1) := by decide +kernel
theorem dX7_tells_56 : decode cX7_tells 56 = .ok (.getfield 39, 3) := by decide +kernel
theorem dX7_tells_59 : decode cX7_tells 59 = .ok (.iconst 3, 1) := by decide +kernel
theorem dX7_tells_60 : decode cX7_tells 60 = .ok (.aload_n 0, 1) := by decide +kernel
theorem dX7_tells_61 : decode cX7_tells 61 = .ok (.getfield 141, 3) := by decide +kernel
theorem dX7_tells_64 : decode cX7_tells 64 = .ok (.imul, 1) := by decide +kernel
theorem dX7_tells_65 : decode cX7_tells 65 = .ok (.iconst 1, 1) := by decide +kernel
theorem dX7_tells_66 : decode cX7_tells 66 = .ok (.iadd, 1) := by decide +kernel
theorem dX7_tells_67 : decode cX7_tells 67 = .ok (.iload_n 2, 1) := by decide +kernel
theorem dX7_tells_68 : decode cX7_tells 68 = .ok (.iastore, 1) := by decide +kernel
theorem dX7_tells_69 : decode cX7_tells 69 = .ok (.aload_n 0, 1) := by decide +kernel
theorem dX7_tells_70 : decode cX7_tells 70 = .ok (.getfield 39, 3) := by decide +kernel
theorem dX7_tells_73 : decode cX7_tells 73 = .ok (.iconst 3, 1) := by decide +kernel
theorem dX7_tells_74 : decode cX7_tells 74 = .ok (.aload_n 0, 1) := by decide +kernel
theorem dX7_tells_75 : decode cX7_tells 75 = .ok (.getfield 141, 3) := by decide +kernel
theorem dX7_tells_78 : decode cX7_tells 78 = .ok (.imul, 1) := by decide +kernel
theorem dX7_tells_79 : decode cX7_tells 79 = .ok (.iconst 2, 1) := by decide +kernel
theorem dX7_tells_80 : decode cX7_tells 80 = .ok (.iadd, 1) := by decide +kernel
theorem dX7_tells_81 : decode cX7_tells 81 = .ok (.iload_n 3, 1) := by decide +kernel
theorem dX7_tells_82 : decode cX7_tells 82 = .ok (.iastore, 1) := by decide +kernel
theorem dX7_tells_83 : decode cX7_tells 83 = .ok (.aload_n 0, 1) := by decide +kernel
theorem dX7_tells_84 : decode cX7_tells 84 = .ok (.dup, 1) := by decide +kernel
theorem dX7_tells_85 : decode cX7_tells 85 = .ok (.getfield 141, 3) := by decide +kernel
theorem dX7_tells_88 : decode cX7_tells 88 = .ok (.iconst 1, 1) := by decide +kernel
theorem dX7_tells_89 : decode cX7_tells 89 = .ok (.iadd, 1) := by decide +kernel
theorem dX7_tells_90 : decode cX7_tells 90 = .ok (.putfield 141, 3) := by decide +kernel
theorem dX7_tells_93 : decode cX7_tells 93 = .ok (.aload_n 0, 1) := by decide +kernel
theorem dX7_tells_94 : decode cX7_tells 94 = .ok (.getfield 141, 3) := by decide +kernel
theorem dX7_tells_97 : decode cX7_tells 97 = .ok (.ireturn, 1) := by decide +kernel
theorem dX7_nearestTo_0 : decode cX7_nearestTo 0 = .ok (.bipush (-9), 2) := by decide +kernel
theorem dX7_nearestTo_2 : decode cX7_nearestTo 2 = .ok (.istore_n 2, 1) := by decide +kernel
theorem dX7_nearestTo_3 : decode cX7_nearestTo 3 = .ok (.iconst 0, 1) := by decide +kernel
theorem dX7_nearestTo_4 : decode cX7_nearestTo 4 = .ok (.istore_n 3, 1) := by decide +kernel
theorem dX7_nearestTo_5 : decode cX7_nearestTo 5 = .ok (.iload_n 3, 1) := by decide +kernel
theorem dX7_nearestTo_6 : decode cX7_nearestTo 6 = .ok (.aload_n 0, 1) := by decide +kernel
theorem dX7_nearestTo_7 : decode cX7_nearestTo 7 = .ok (.getfield 61, 3) := by decide +kernel
theorem dX7_nearestTo_10 : decode cX7_nearestTo 10 = .ok (.if_icmp .ge 51, 3) := by decide +kernel
theorem dX7_nearestTo_13 : decode cX7_nearestTo 13 = .ok (.iload_n 3, 1) := by decide +kernel
theorem dX7_nearestTo_14 : decode cX7_nearestTo 14 = .ok (.iload_n 1, 1) := by decide +kernel
theorem dX7_nearestTo_15 : decode cX7_nearestTo 15 = .ok (.if_icmp .eq 26, 3) := by decide +kernel
theorem dX7_nearestTo_18 : decode cX7_nearestTo 18 = .ok (.iload_n 2, 1) := by decide +kernel
theorem dX7_nearestTo_19 : decode cX7_nearestTo 19 = .ok (.ifCond .lt 18, 3) := by decide +kernel
theorem dX7_nearestTo_22 : decode cX7_nearestTo 22 = .ok (.aload_n 0, 1) := by decide +kernel
theorem dX7_nearestTo_23 : decode cX7_nearestTo 23 = .ok (.iload_n 1, 1) := by decide +kernel
theorem dX7_nearestTo_24 : decode cX7_nearestTo 24 = .ok (.iload_n 3, 1) := by decide +kernel
theorem dX7_nearestTo_25 : decode cX7_nearestTo 25 = .ok (.invokevirtual 153, 3) := by decide +kernel
theorem dX7_nearestTo_28 : decode cX7_nearestTo 28 = .ok (.aload_n 0, 1) := by decide +kernel
theorem dX7_nearestTo_29 : decode cX7_nearestTo 29 = .ok (.iload_n 1, 1) := by decide +kernel
theorem dX7_nearestTo_30 : decode cX7_nearestTo 30 = .ok (.iload_n 2, 1) := by decide +kernel
theorem dX7_nearestTo_31 : decode cX7_nearestTo 31 = .ok (.invokevirtual 153, 3) := by decide +kernel
theorem dX7_nearestTo_34 : decode cX7_nearestTo 34 = .ok (.if_icmp .ge 7, 3) := by decide +kernel
theorem dX7_nearestTo_37 : decode cX7_nearestTo 37 = .ok (.iconst 1, 1) := by decide +kernel
theorem dX7_nearestTo_38 : decode cX7_nearestTo 38 = .ok (.goto 4, 3) := by decide +kernel
theorem dX7_nearestTo_41 : decode cX7_nearestTo 41 = .ok (.iconst 0, 1) := by decide +kernel
theorem dX7_nearestTo_42 : decode cX7_nearestTo 42 = .ok (.istore 4, 2) := by decide +kernel
theorem dX7_nearestTo_44 : decode cX7_nearestTo 44 = .ok (.iload 4, 2) := by decide +kernel
theorem dX7_nearestTo_46 : decode cX7_nearestTo 46 = .ok (.ifCond .eq 7, 3) := by decide +kernel
theorem dX7_nearestTo_49 : decode cX7_nearestTo 49 = .ok (.iload_n 3, 1) := by decide +kernel
theorem dX7_nearestTo_50 : decode cX7_nearestTo 50 = .ok (.goto 4, 3) := by decide +kernel
theorem dX7_nearestTo_53 : decode cX7_nearestTo 53 = .ok (.iload_n 2, 1) := by decide +kernel
theorem dX7_nearestTo_54 : decode cX7_nearestTo 54 = .ok (.istore_n 2, 1) := by decide +kernel
theorem dX7_nearestTo_55 : decode cX7_nearestTo 55 = .ok (.iinc 3 1, 3) := by decide +kernel
theorem dX7_nearestTo_58 : decode cX7_nearestTo 58 = .ok (.goto (-53), 3) := by decide +kernel
theorem dX7_nearestTo_61 : decode cX7_nearestTo 61 = .ok (.iload_n 2, 1) := by decide +kernel
theorem dX7_nearestTo_62 : decode cX7_nearestTo 62 = .ok (.ireturn, 1) := by decide +kernel
theorem dX7_fits_0 : decode cX7_fits 0 = .ok (.bipush 7, 2) := by decide +kernel
theorem dX7_fits_2 : decode cX7_fits 2 = .ok (.istore_n 1, 1) := by decide +kernel
theorem dX7_fits_3 : decode cX7_fits 3 = .ok (.iconst 0, 1) := by decide +kernel
theorem dX7_fits_4 : decode cX7_fits 4 = .ok (.istore_n 2, 1) := by decide +kernel
theorem dX7_fits_5 : decode cX7_fits 5 = .ok (.iload_n 2, 1) := by decide +kernel
theorem dX7_fits_6 : decode cX7_fits 6 = .ok (.aload_n 0, 1) := by decide +kernel
theorem dX7_fits_7 : decode cX7_fits 7 = .ok (.getfield 141, 3) := by decide +kernel
theorem dX7_fits_10 : decode cX7_fits 10 = .ok (.if_icmp .ge 103, 3) := by decide +kernel
theorem dX7_fits_13 : decode cX7_fits 13 = .ok (.aload_n 0, 1) := by decide +kernel
theorem dX7_fits_14 : decode cX7_fits 14 = .ok (.getfield 39, 3) := by decide +kernel
theorem dX7_fits_17 : decode cX7_fits 17 = .ok (.iconst 3, 1) := by decide +kernel
theorem dX7_fits_18 : decode cX7_fits 18 = .ok (.iload_n 2, 1) := by decide +kernel
theorem dX7_fits_19 : decode cX7_fits 19 = .ok (.imul, 1) := by decide +kernel
theorem dX7_fits_20 : decode cX7_fits 20 = .ok (.iconst 1, 1) := by decide +kernel
theorem dX7_fits_21 : decode cX7_fits 21 = .ok (.iadd, 1) := by decide +kernel
theorem dX7_fits_22 : decode cX7_fits 22 = .ok (.iaload, 1) := by decide +kernel
theorem dX7_fits_23 : decode cX7_fits 23 = .ok (.istore_n 3, 1) := by decide +kernel
theorem dX7_fits_24 : decode cX7_fits 24 = .ok (.aload_n 0, 1) := by decide +kernel
theorem dX7_fits_25 : decode cX7_fits 25 = .ok (.getfield 39, 3) := by decide +kernel
theorem dX7_fits_28 : decode cX7_fits 28 = .ok (.iconst 3, 1) := by decide +kernel
theorem dX7_fits_29 : decode cX7_fits 29 = .ok (.iload_n 2, 1) := by decide +kernel
theorem dX7_fits_30 : decode cX7_fits 30 = .ok (.imul, 1) := by decide +kernel
theorem dX7_fits_31 : decode cX7_fits 31 = .ok (.iconst 2, 1) := by decide +kernel
theorem dX7_fits_32 : decode cX7_fits 32 = .ok (.iadd, 1) := by decide +kernel
theorem dX7_fits_33 : decode cX7_fits 33 = .ok (.iaload, 1) := by decide +kernel
theorem dX7_fits_34 : decode cX7_fits 34 = .ok (.istore 4, 2) := by decide +kernel
theorem dX7_fits_36 : decode cX7_fits 36 = .ok (.iload_n 1, 1) := by decide +kernel
theorem dX7_fits_37 : decode cX7_fits 37 = .ok (.iload 4, 2) := by decide +kernel
theorem dX7_fits_39 : decode cX7_fits 39 = .ok (.aload_n 0, 1) := by decide +kernel
theorem dX7_fits_40 : decode cX7_fits 40 = .ok (.getfield 13, 3) := by decide +kernel
theorem dX7_fits_43 : decode cX7_fits 43 = .ok (.iconst 4, 1) := by decide +kernel
theorem dX7_fits_44 : decode cX7_fits 44 = .ok (.aload_n 0, 1) := by decide +kernel
theorem dX7_fits_45 : decode cX7_fits 45 = .ok (.getfield 39, 3) := by decide +kernel
theorem dX7_fits_48 : decode cX7_fits 48 = .ok (.iconst 3, 1) := by decide +kernel
theorem dX7_fits_49 : decode cX7_fits 49 = .ok (.iload_n 2, 1) := by decide +kernel
theorem dX7_fits_50 : decode cX7_fits 50 = .ok (.imul, 1) := by decide +kernel
theorem dX7_fits_51 : decode cX7_fits 51 = .ok (.iaload, 1) := by decide +kernel
theorem dX7_fits_52 : decode cX7_fits 52 = .ok (.imul, 1) := by decide +kernel
theorem dX7_fits_53 : decode cX7_fits 53 = .ok (.iaload, 1) := by decide +kernel
theorem dX7_fits_54 : decode cX7_fits 54 = .ok (.if_icmp .ne 8, 3) := by decide +kernel
theorem dX7_fits_57 : decode cX7_fits 57 = .ok (.bipush 7, 2) := by decide +kernel
theorem dX7_fits_59 : decode cX7_fits 59 = .ok (.goto 5, 3) := by decide +kernel
theorem dX7_fits_62 : decode cX7_fits 62 = .ok (.bipush 6, 2) := by decide +kernel
theorem dX7_fits_64 : decode cX7_fits 64 = .ok (.iand, 1) := by decide +kernel
theorem dX7_fits_65 : decode cX7_fits 65 = .ok (.istore_n 1, 1) := by decide +kernel
theorem dX7_fits_66 : decode cX7_fits 66 = .ok (.iload_n 1, 1) := by decide +kernel
theorem dX7_fits_67 : decode cX7_fits 67 = .ok (.iload 4, 2) := by decide +kernel
theorem dX7_fits_69 : decode cX7_fits 69 = .ok (.aload_n 0, 1) := by decide +kernel
theorem dX7_fits_70 : decode cX7_fits 70 = .ok (.iload_n 3, 1) := by decide +kernel
theorem dX7_fits_71 : decode cX7_fits 71 = .ok (.invokevirtual 229, 3) := by decide +kernel
theorem dX7_fits_74 : decode cX7_fits 74 = .ok (.if_icmp .ne 8, 3) := by decide +kernel
theorem dX7_fits_77 : decode cX7_fits 77 = .ok (.bipush 7, 2) := by decide +kernel
theorem dX7_fits_79 : decode cX7_fits 79 = .ok (.goto 4, 3) := by decide +kernel
theorem dX7_fits_82 : decode cX7_fits 82 = .ok (.iconst 5, 1) := by decide +kernel
theorem dX7_fits_83 : decode cX7_fits 83 = .ok (.iand, 1) := by decide +kernel
theorem dX7_fits_84 : decode cX7_fits 84 = .ok (.istore_n 1, 1) := by decide +kernel
theorem dX7_fits_85 : decode cX7_fits 85 = .ok (.iload_n 1, 1) := by decide +kernel
theorem dX7_fits_86 : decode cX7_fits 86 = .ok (.iload 4, 2) := by decide +kernel
theorem dX7_fits_88 : decode cX7_fits 88 = .ok (.iload_n 3, 1) := by decide +kernel
theorem dX7_fits_89 : decode cX7_fits 89 = .ok (.iconst 1, 1) := by decide +kernel
theorem dX7_fits_90 : decode cX7_fits 90 = .ok (.iadd, 1) := by decide +kernel
theorem dX7_fits_91 : decode cX7_fits 91 = .ok (.aload_n 0, 1) := by decide +kernel
theorem dX7_fits_92 : decode cX7_fits 92 = .ok (.getfield 61, 3) := by decide +kernel
theorem dX7_fits_95 : decode cX7_fits 95 = .ok (.irem, 1) := by decide +kernel
theorem dX7_fits_96 : decode cX7_fits 96 = .ok (.if_icmp .ne 8, 3) := by decide +kernel
theorem dX7_fits_99 : decode cX7_fits 99 = .ok (.bipush 7, 2) := by decide +kernel
theorem dX7_fits_101 : decode cX7_fits 101 = .ok (.goto 4, 3) := by decide +kernel
theorem dX7_fits_104 : decode cX7_fits 104 = .ok (.iconst 3, 1) := by decide +kernel
theorem dX7_fits_105 : decode cX7_fits 105 = .ok (.iand, 1) := by decide +kernel
theorem dX7_fits_106 : decode cX7_fits 106 = .ok (.istore_n 1, 1) := by decide +kernel
theorem dX7_fits_107 : decode cX7_fits 107 = .ok (.iinc 2 1, 3) := by decide +kernel
theorem dX7_fits_110 : decode cX7_fits 110 = .ok (.goto (-105), 3) := by decide +kernel
theorem dX7_fits_113 : decode cX7_fits 113 = .ok (.iload_n 1, 1) := by decide +kernel
theorem dX7_fits_114 : decode cX7_fits 114 = .ok (.ireturn, 1) := by decide +kernel
theorem dX7_forget_0 : decode cX7_forget 0 = .ok (.aload_n 0, 1) := by decide +kernel
theorem dX7_forget_1 : decode cX7_forget 1 = .ok (.getfield 138, 3) := by decide +kernel
theorem dX7_forget_4 : decode cX7_forget 4 = .ok (.aload_n 0, 1) := by decide +kernel
theorem dX7_forget_5 : decode cX7_forget 5 = .ok (.getfield 141, 3) := by decide +kernel
theorem dX7_forget_8 : decode cX7_forget 8 = .ok (.iadd, 1) := by decide +kernel
theorem dX7_forget_9 : decode cX7_forget 9 = .ok (.istore_n 1, 1) := by decide +kernel
theorem dX7_forget_10 : decode cX7_forget 10 = .ok (.aload_n 0, 1) := by decide +kernel
theorem dX7_forget_11 : decode cX7_forget 11 = .ok (.iconst 0, 1) := by decide +kernel
theorem dX7_forget_12 : decode cX7_forget 12 = .ok (.putfield 138, 3) := by decide +kernel
theorem dX7_forget_15 : decode cX7_forget 15 = .ok (.aload_n 0, 1) := by decide +kernel
theorem dX7_forget_16 : decode cX7_forget 16 = .ok (.iconst 0, 1) := by decide +kernel
theorem dX7_forget_17 : decode cX7_forget 17 = .ok (.putfield 141, 3) := by decide +kernel
theorem dX7_forget_20 : decode cX7_forget 20 = .ok (.iload_n 1, 1) := by decide +kernel
theorem dX7_forget_21 : decode cX7_forget 21 = .ok (.ireturn, 1) := by decide +kernel
theorem dX7_rate_0 : decode cX7_rate 0 = .ok (.iload_n 1, 1) := by decide +kernel
theorem dX7_rate_1 : decode cX7_rate 1 = .ok (.iconst 0, 1) := by decide +kernel
theorem dX7_rate_2 : decode cX7_rate 2 = .ok (.iconst 5, 1) := by decide +kernel
theorem dX7_rate_3 : decode cX7_rate 3 = .ok (.invokestatic 64, 3) := by decide +kernel
theorem dX7_rate_6 : decode cX7_rate 6 = .ok (.ifCond .eq 11, 3) := by decide +kernel
theorem dX7_rate_9 : decode cX7_rate 9 = .ok (.aload_n 0, 1) := by decide +kernel
theorem dX7_rate_10 : decode cX7_rate 10 = .ok (.iload_n 2, 1) := by decide +kernel
theorem dX7_rate_11 : decode cX7_rate 11 = .ok (.invokevirtual 156, 3) := by decide +kernel
theorem dX7_rate_14 : decode cX7_rate 14 = .ok (.ifCond .ne 6, 3) := by decide +kernel
theorem dX7_rate_17 : decode cX7_rate 17 = .ok (.ldc 232, 2) := by decide +kernel
theorem dX7_rate_19 : decode cX7_rate 19 = .ok (.ireturn, 1) := by decide +kernel
theorem dX7_rate_20 : decode cX7_rate 20 = .ok (.aload_n 0, 1) := by decide +kernel
theorem dX7_rate_21 : decode cX7_rate 21 = .ok (.getfield 13, 3) := by decide +kernel
theorem dX7_rate_24 : decode cX7_rate 24 = .ok (.iconst 4, 1) := by decide +kernel
theorem dX7_rate_25 : decode cX7_rate 25 = .ok (.iload_n 2, 1) := by decide +kernel
theorem dX7_rate_26 : decode cX7_rate 26 = .ok (.imul, 1) := by decide +kernel
theorem dX7_rate_27 : decode cX7_rate 27 = .ok (.iconst 1, 1) := by decide +kernel
theorem dX7_rate_28 : decode cX7_rate 28 = .ok (.iadd, 1) := by decide +kernel
theorem dX7_rate_29 : decode cX7_rate 29 = .ok (.iaload, 1) := by decide +kernel
theorem dX7_rate_30 : decode cX7_rate 30 = .ok (.invokestatic 173, 3) := by decide +kernel
theorem dX7_rate_33 : decode cX7_rate 33 = .ok (.istore_n 3, 1) := by decide +kernel
theorem dX7_rate_34 : decode cX7_rate 34 = .ok (.aload_n 0, 1) := by decide +kernel
theorem dX7_rate_35 : decode cX7_rate 35 = .ok (.getfield 23, 3) := by decide +kernel
theorem dX7_rate_38 : decode cX7_rate 38 = .ok (.iconst 2, 1) := by decide +kernel
theorem dX7_rate_39 : decode cX7_rate 39 = .ok (.iload_n 2, 1) := by decide +kernel
theorem dX7_rate_40 : decode cX7_rate 40 = .ok (.iadd, 1) := by decide +kernel
theorem dX7_rate_41 : decode cX7_rate 41 = .ok (.iaload, 1) := by decide +kernel
theorem dX7_rate_42 : decode cX7_rate 42 = .ok (.iconst 4, 1) := by decide +kernel
theorem dX7_rate_43 : decode cX7_rate 43 = .ok (.if_icmp .ne 12, 3) := by decide +kernel
theorem dX7_rate_46 : decode cX7_rate 46 = .ok (.aload_n 0, 1) := by decide +kernel
theorem dX7_rate_47 : decode cX7_rate 47 = .ok (.getfield 23, 3) := by decide +kernel
theorem dX7_rate_50 : decode cX7_rate 50 = .ok (.iconst 1, 1) := by decide +kernel
theorem dX7_rate_51 : decode cX7_rate 51 = .ok (.iaload, 1) := by decide +kernel
theorem dX7_rate_52 : decode cX7_rate 52 = .ok (.goto 11, 3) := by decide +kernel
theorem dX7_rate_55 : decode cX7_rate 55 = .ok (.aload_n 0, 1) := by decide +kernel
theorem dX7_rate_56 : decode cX7_rate 56 = .ok (.getfield 23, 3) := by decide +kernel
theorem dX7_rate_59 : decode cX7_rate 59 = .ok (.iconst 2, 1) := by decide +kernel
theorem dX7_rate_60 : decode cX7_rate 60 = .ok (.iload_n 2, 1) := by decide +kernel
theorem dX7_rate_61 : decode cX7_rate 61 = .ok (.iadd, 1) := by decide +kernel
theorem dX7_rate_62 : decode cX7_rate 62 = .ok (.iaload, 1) := by decide +kernel
theorem dX7_rate_63 : decode cX7_rate 63 = .ok (.istore 4, 2) := by decide +kernel
theorem dX7_rate_65 : decode cX7_rate 65 = .ok (.iload_n 3, 1) := by decide +kernel
theorem dX7_rate_66 : decode cX7_rate 66 = .ok (.aload_n 0, 1) := by decide +kernel
theorem dX7_rate_67 : decode cX7_rate 67 = .ok (.iload 4, 2) := by decide +kernel
theorem dX7_rate_69 : decode cX7_rate 69 = .ok (.aload_n 0, 1) := by decide +kernel
theorem dX7_rate_70 : decode cX7_rate 70 = .ok (.getfield 13, 3) := by decide +kernel
theorem dX7_rate_73 : decode cX7_rate 73 = .ok (.iconst 4, 1) := by decide +kernel
theorem dX7_rate_74 : decode cX7_rate 74 = .ok (.iload_n 2, 1) := by decide +kernel
theorem dX7_rate_75 : decode cX7_rate 75 = .ok (.imul, 1) := by decide +kernel
theorem dX7_rate_76 : decode cX7_rate 76 = .ok (.iaload, 1) := by decide +kernel
theorem dX7_rate_77 : decode cX7_rate 77 = .ok (.invokevirtual 153, 3) := by decide +kernel
theorem dX7_rate_80 : decode cX7_rate 80 = .ok (.iadd, 1) := by decide +kernel
theorem dX7_rate_81 : decode cX7_rate 81 = .ok (.istore 5, 2) := by decide +kernel
theorem dX7_rate_83 : decode cX7_rate 83 = .ok (.iload_n 3, 1) := by decide +kernel
theorem dX7_rate_84 : decode cX7_rate 84 = .ok (.aload_n 0, 1) := by decide +kernel
theorem dX7_rate_85 : decode cX7_rate 85 = .ok (.getfield 13, 3) := by decide +kernel
theorem dX7_rate_88 : decode cX7_rate 88 = .ok (.iconst 4, 1) := by decide +kernel
theorem dX7_rate_89 : decode cX7_rate 89 = .ok (.iload_n 2, 1) := by decide +kernel
theorem dX7_rate_90 : decode cX7_rate 90 = .ok (.imul, 1) := by decide +kernel
theorem dX7_rate_91 : decode cX7_rate 91 = .ok (.iconst 2, 1) := by decide +kernel
theorem dX7_rate_92 : decode cX7_rate 92 = .ok (.iadd, 1) := by decide +kernel
theorem dX7_rate_93 : decode cX7_rate 93 = .ok (.iaload, 1) := by decide +kernel
theorem dX7_rate_94 : decode cX7_rate 94 = .ok (.isub, 1) := by decide +kernel
theorem dX7_rate_95 : decode cX7_rate 95 = .ok (.aload_n 0, 1) := by decide +kernel
theorem dX7_rate_96 : decode cX7_rate 96 = .ok (.getfield 13, 3) := by decide +kernel
theorem dX7_rate_99 : decode cX7_rate 99 = .ok (.iconst 4, 1) := by decide +kernel
theorem dX7_rate_100 : decode cX7_rate 100 = .ok (.iload_n 2, 1) := by decide +kernel
theorem dX7_rate_101 : decode cX7_rate 101 = .ok (.imul, 1) := by decide +kernel
theorem dX7_rate_102 : decode cX7_rate 102 = .ok (.iconst 3, 1) := by decide +kernel
theorem dX7_rate_103 : decode cX7_rate 103 = .ok (.iadd, 1) := by decide +kernel
theorem dX7_rate_104 : decode cX7_rate 104 = .ok (.iaload, 1) := by decide +kernel
theorem dX7_rate_105 : decode cX7_rate 105 = .ok (.isub, 1) := by decide +kernel
theorem dX7_rate_106 : decode cX7_rate 106 = .ok (.istore 6, 2) := by decide +kernel
theorem dX7_rate_108 : decode cX7_rate 108 = .ok (.iload_n 1, 1) := by decide +kernel
theorem dX7_rate_109 : decode cX7_rate 109 = .ok (.tableswitch 120 1 5 #[35, 50, 65, 82, 99], 35) := by decide +kernel
theorem dX7_rate_144 : decode cX7_rate 144 = .ok (.aload_n 0, 1) := by decide +kernel
theorem dX7_rate_145 : decode cX7_rate 145 = .ok (.dup, 1) := by decide +kernel
theorem dX7_rate_146 : decode cX7_rate 146 = .ok (.getfield 233, 3) := by decide +kernel
theorem dX7_rate_149 : decode cX7_rate 149 = .ok (.ldc2_w 237, 3) := by decide +kernel
theorem dX7_rate_152 : decode cX7_rate 152 = .ok (.ladd, 1) := by decide +kernel
theorem dX7_rate_153 : decode cX7_rate 153 = .ok (.putfield 233, 3) := by decide +kernel
theorem dX7_rate_156 : decode cX7_rate 156 = .ok (.iload 5, 2) := by decide +kernel
theorem dX7_rate_158 : decode cX7_rate 158 = .ok (.ireturn, 1) := by decide +kernel
theorem dX7_rate_159 : decode cX7_rate 159 = .ok (.aload_n 0, 1) := by decide +kernel
theorem dX7_rate_160 : decode cX7_rate 160 = .ok (.dup, 1) := by decide +kernel
theorem dX7_rate_161 : decode cX7_rate 161 = .ok (.getfield 233, 3) := by decide +kernel
theorem dX7_rate_164 : decode cX7_rate 164 = .ok (.ldc2_w 239, 3) := by decide +kernel
theorem dX7_rate_167 : decode cX7_rate 167 = .ok (.ladd, 1) := by decide +kernel
theorem dX7_rate_168 : decode cX7_rate 168 = .ok (.putfield 233, 3) := by decide +kernel
theorem dX7_rate_171 : decode cX7_rate 171 = .ok (.iload 6, 2) := by decide +kernel
theorem dX7_rate_173 : decode cX7_rate 173 = .ok (.ireturn, 1) := by decide +kernel
theorem dX7_rate_174 : decode cX7_rate 174 = .ok (.aload_n 0, 1) := by decide +kernel
theorem dX7_rate_175 : decode cX7_rate 175 = .ok (.dup, 1) := by decide +kernel
theorem dX7_rate_176 : decode cX7_rate 176 = .ok (.getfield 233, 3) := by decide +kernel
theorem dX7_rate_179 : decode cX7_rate 179 = .ok (.ldc2_w 241, 3) := by decide +kernel
theorem dX7_rate_182 : decode cX7_rate 182 = .ok (.ladd, 1) := by decide +kernel
theorem dX7_rate_183 : decode cX7_rate 183 = .ok (.putfield 233, 3) := by decide +kernel
theorem dX7_rate_186 : decode cX7_rate 186 = .ok (.iconst 2, 1) := by decide +kernel
theorem dX7_rate_187 : decode cX7_rate 187 = .ok (.iload 5, 2) := by decide +kernel
theorem dX7_rate_189 : decode cX7_rate 189 = .ok (.imul, 1) := by decide +kernel
theorem dX7_rate_190 : decode cX7_rate 190 = .ok (.ireturn, 1) := by decide +kernel
theorem dX7_rate_191 : decode cX7_rate 191 = .ok (.aload_n 0, 1) := by decide +kernel
theorem dX7_rate_192 : decode cX7_rate 192 = .ok (.dup, 1) := by decide +kernel
theorem dX7_rate_193 : decode cX7_rate 193 = .ok (.getfield 233, 3) := by decide +kernel
theorem dX7_rate_196 : decode cX7_rate 196 = .ok (.ldc2_w 243, 3) := by decide +kernel
theorem dX7_rate_199 : decode cX7_rate 199 = .ok (.ladd, 1) := by decide +kernel
theorem dX7_rate_200 : decode cX7_rate 200 = .ok (.putfield 233, 3) := by decide +kernel
theorem dX7_rate_203 : decode cX7_rate 203 = .ok (.iload 6, 2) := by decide +kernel
theorem dX7_rate_205 : decode cX7_rate 205 = .ok (.iload_n 2, 1) := by decide +kernel
theorem dX7_rate_206 : decode cX7_rate 206 = .ok (.iadd, 1) := by decide +kernel
theorem dX7_rate_207 : decode cX7_rate 207 = .ok (.ireturn, 1) := by decide +kernel
theorem dX7_rate_208 : decode cX7_rate 208 = .ok (.aload_n 0, 1) := by decide +kernel
theorem dX7_rate_209 : decode cX7_rate 209 = .ok (.dup, 1) := by decide +kernel
theorem dX7_rate_210 : decode cX7_rate 210 = .ok (.getfield 233, 3) := by decide +kernel
theorem dX7_rate_213 : decode cX7_rate 213 = .ok (.ldc2_w 245, 3) := by decide +kernel
theorem dX7_rate_216 : decode cX7_rate 216 = .ok (.ladd, 1) := by decide +kernel
theorem dX7_rate_217 : decode cX7_rate 217 = .ok (.putfield 233, 3) := by decide +kernel
theorem dX7_rate_220 : decode cX7_rate 220 = .ok (.iload_n 3, 1) := by decide +kernel
theorem dX7_rate_221 : decode cX7_rate 221 = .ok (.aload_n 0, 1) := by decide +kernel
theorem dX7_rate_222 : decode cX7_rate 222 = .ok (.getfield 23, 3) := by decide +kernel
theorem dX7_rate_225 : decode cX7_rate 225 = .ok (.iconst 0, 1) := by decide +kernel
theorem dX7_rate_226 : decode cX7_rate 226 = .ok (.iaload, 1) := by decide +kernel
theorem dX7_rate_227 : decode cX7_rate 227 = .ok (.iadd, 1) := by decide +kernel
theorem dX7_rate_228 : decode cX7_rate 228 = .ok (.ireturn, 1) := by decide +kernel
theorem dX7_rate_229 : decode cX7_rate 229 = .ok (.aload_n 0, 1) := by decide +kernel
theorem dX7_rate_230 : decode cX7_rate 230 = .ok (.dup, 1) := by decide +kernel
theorem dX7_rate_231 : decode cX7_rate 231 = .ok (.getfield 233, 3) := by decide +kernel
theorem dX7_rate_234 : decode cX7_rate 234 = .ok (.lconst 1, 1) := by decide +kernel
theorem dX7_rate_235 : decode cX7_rate 235 = .ok (.ladd, 1) := by decide +kernel
theorem dX7_rate_236 : decode cX7_rate 236 = .ok (.putfield 233, 3) := by decide +kernel
theorem dX7_rate_239 : decode cX7_rate 239 = .ok (.iload_n 3, 1) := by decide +kernel
theorem dX7_rate_240 : decode cX7_rate 240 = .ok (.ireturn, 1) := by decide +kernel
theorem dX7_keep_0 : decode cX7_keep 0 = .ok (.iload_n 1, 1) := by decide +kernel
theorem dX7_keep_1 : decode cX7_keep 1 = .ok (.iconst 0, 1) := by decide +kernel
theorem dX7_keep_2 : decode cX7_keep 2 = .ok (.iconst 1, 1) := by decide +kernel
theorem dX7_keep_3 : decode cX7_keep 3 = .ok (.invokestatic 64, 3) := by decide +kernel
theorem dX7_keep_6 : decode cX7_keep 6 = .ok (.ifCond .ne 5, 3) := by decide +kernel
theorem dX7_keep_9 : decode cX7_keep 9 = .ok (.iconst (-1), 1) := by decide +kernel
theorem dX7_keep_10 : decode cX7_keep 10 = .ok (.ireturn, 1) := by decide +kernel
theorem dX7_keep_11 : decode cX7_keep 11 = .ok (.aload_n 0, 1) := by decide +kernel
theorem dX7_keep_12 : decode cX7_keep 12 = .ok (.getfield 29, 3) := by decide +kernel
theorem dX7_keep_15 : decode cX7_keep 15 = .ok (.bipush 7, 2) := by decide +kernel
theorem dX7_keep_17 : decode cX7_keep 17 = .ok (.iload_n 1, 1) := by decide +kernel
theorem dX7_keep_18 : decode cX7_keep 18 = .ok (.imul, 1) := by decide +kernel
theorem dX7_keep_19 : decode cX7_keep 19 = .ok (.aload_n 0, 1) := by decide +kernel
theorem dX7_keep_20 : decode cX7_keep 20 = .ok (.getfield 23, 3) := by decide +kernel
theorem dX7_keep_23 : decode cX7_keep 23 = .ok (.iconst 0, 1) := by decide +kernel
theorem dX7_keep_24 : decode cX7_keep 24 = .ok (.invokestatic 166, 3) := by decide +kernel
theorem dX7_keep_27 : decode cX7_keep 27 = .ok (.aload_n 0, 1) := by decide +kernel
theorem dX7_keep_28 : decode cX7_keep 28 = .ok (.getfield 32, 3) := by decide +kernel
theorem dX7_keep_31 : decode cX7_keep 31 = .ok (.iload_n 1, 1) := by decide +kernel
theorem dX7_keep_32 : decode cX7_keep 32 = .ok (.iconst 1, 1) := by decide +kernel
theorem dX7_keep_33 : decode cX7_keep 33 = .ok (.bastore, 1) := by decide +kernel
theorem dX7_keep_34 : decode cX7_keep 34 = .ok (.aload_n 0, 1) := by decide +kernel
theorem dX7_keep_35 : decode cX7_keep 35 = .ok (.getfield 23, 3) := by decide +kernel
theorem dX7_keep_38 : decode cX7_keep 38 = .ok (.iconst 0, 1) := by decide +kernel
theorem dX7_keep_39 : decode cX7_keep 39 = .ok (.iaload, 1) := by decide +kernel
theorem dX7_keep_40 : decode cX7_keep 40 = .ok (.ireturn, 1) := by decide +kernel
theorem dX7_again_0 : decode cX7_again 0 = .ok (.iload_n 1, 1) := by decide +kernel
theorem dX7_again_1 : decode cX7_again 1 = .ok (.iconst 0, 1) := by decide +kernel
theorem dX7_again_2 : decode cX7_again 2 = .ok (.iconst 1, 1) := by decide +kernel
theorem dX7_again_3 : decode cX7_again 3 = .ok (.invokestatic 64, 3) := by decide +kernel
theorem dX7_again_6 : decode cX7_again 6 = .ok (.ifCond .ne 5, 3) := by decide +kernel
theorem dX7_again_9 : decode cX7_again 9 = .ok (.iconst (-1), 1) := by decide +kernel
theorem dX7_again_10 : decode cX7_again 10 = .ok (.ireturn, 1) := by decide +kernel
theorem dX7_again_11 : decode cX7_again 11 = .ok (.aload_n 0, 1) := by decide +kernel
theorem dX7_again_12 : decode cX7_again 12 = .ok (.getfield 32, 3) := by decide +kernel
theorem dX7_again_15 : decode cX7_again 15 = .ok (.iload_n 1, 1) := by decide +kernel
theorem dX7_again_16 : decode cX7_again 16 = .ok (.baload, 1) := by decide +kernel
theorem dX7_again_17 : decode cX7_again 17 = .ok (.ifCond .ne 6, 3) := by decide +kernel
theorem dX7_again_20 : decode cX7_again 20 = .ok (.bipush (-2), 2) := by decide +kernel
theorem dX7_again_22 : decode cX7_again 22 = .ok (.ireturn, 1) := by decide +kernel
theorem dX7_again_23 : decode cX7_again 23 = .ok (.aload_n 0, 1) := by decide +kernel
theorem dX7_again_24 : decode cX7_again 24 = .ok (.getfield 23, 3) := by decide +kernel
theorem dX7_again_27 : decode cX7_again 27 = .ok (.iconst 0, 1) := by decide +kernel
theorem dX7_again_28 : decode cX7_again 28 = .ok (.aload_n 0, 1) := by decide +kernel
theorem dX7_again_29 : decode cX7_again 29 = .ok (.getfield 29, 3) := by decide +kernel
theorem dX7_again_32 : decode cX7_again 32 = .ok (.bipush 7, 2) := by decide +kernel
theorem dX7_again_34 : decode cX7_again 34 = .ok (.iload_n 1, 1) := by decide +kernel
theorem dX7_again_35 : decode cX7_again 35 = .ok (.imul, 1) := by decide +kernel
theorem dX7_again_36 : decode cX7_again 36 = .ok (.invokestatic 166, 3) := by decide +kernel
theorem dX7_again_39 : decode cX7_again 39 = .ok (.aload_n 0, 1) := by decide +kernel
theorem dX7_again_40 : decode cX7_again 40 = .ok (.iconst 0, 1) := by decide +kernel
theorem dX7_again_41 : decode cX7_again 41 = .ok (.putfield 135, 3) := by decide +kernel
theorem dX7_again_44 : decode cX7_again 44 = .ok (.aload_n 0, 1) := by decide +kernel
theorem dX7_again_45 : decode cX7_again 45 = .ok (.getfield 23, 3) := by decide +kernel
theorem dX7_again_48 : decode cX7_again 48 = .ok (.iconst 0, 1) := by decide +kernel
theorem dX7_again_49 : decode cX7_again 49 = .ok (.iaload, 1) := by decide +kernel
theorem dX7_again_50 : decode cX7_again 50 = .ok (.ireturn, 1) := by decide +kernel
theorem dX7_count_0 : decode cX7_count 0 = .ok (.iload_n 1, 1) := by decide +kernel
theorem dX7_count_1 : decode cX7_count 1 = .ok (.tableswitch 78 0 6 #[43, 48, 53, 58, 63, 68, 73], 43) := by decide +kernel
theorem dX7_count_44 : decode cX7_count 44 = .ok (.aload_n 0, 1) := by decide +kernel
theorem dX7_count_45 : decode cX7_count 45 = .ok (.getfield 61, 3) := by decide +kernel
theorem dX7_count_48 : decode cX7_count 48 = .ok (.ireturn, 1) := by decide +kernel
theorem dX7_count_49 : decode cX7_count 49 = .ok (.aload_n 0, 1) := by decide +kernel
theorem dX7_count_50 : decode cX7_count 50 = .ok (.getfield 68, 3) := by decide +kernel
theorem dX7_count_53 : decode cX7_count 53 = .ok (.ireturn, 1) := by decide +kernel
theorem dX7_count_54 : decode cX7_count 54 = .ok (.aload_n 0, 1) := by decide +kernel
theorem dX7_count_55 : decode cX7_count 55 = .ok (.getfield 16, 3) := by decide +kernel
theorem dX7_count_58 : decode cX7_count 58 = .ok (.ireturn, 1) := by decide +kernel
theorem dX7_count_59 : decode cX7_count 59 = .ok (.aload_n 0, 1) := by decide +kernel
theorem dX7_count_60 : decode cX7_count 60 = .ok (.getfield 20, 3) := by decide +kernel
theorem dX7_count_63 : decode cX7_count 63 = .ok (.ireturn, 1) := by decide +kernel
theorem dX7_count_64 : decode cX7_count 64 = .ok (.aload_n 0, 1) := by decide +kernel
theorem dX7_count_65 : decode cX7_count 65 = .ok (.getfield 138, 3) := by decide +kernel
theorem dX7_count_68 : decode cX7_count 68 = .ok (.ireturn, 1) := by decide +kernel
theorem dX7_count_69 : decode cX7_count 69 = .ok (.aload_n 0, 1) := by decide +kernel
theorem dX7_count_70 : decode cX7_count 70 = .ok (.getfield 141, 3) := by decide +kernel
theorem dX7_count_73 : decode cX7_count 73 = .ok (.ireturn, 1) := by decide +kernel
theorem dX7_count_74 : decode cX7_count 74 = .ok (.aload_n 0, 1) := by decide +kernel
theorem dX7_count_75 : decode cX7_count 75 = .ok (.getfield 71, 3) := by decide +kernel
theorem dX7_count_78 : decode cX7_count 78 = .ok (.ireturn, 1) := by decide +kernel
theorem dX7_count_79 : decode cX7_count 79 = .ok (.iconst (-1), 1) := by decide +kernel
theorem dX7_count_80 : decode cX7_count 80 = .ok (.ireturn, 1) := by decide +kernel
theorem dX7_trace_0 : decode cX7_trace 0 = .ok (.aload_n 0, 1) := by decide +kernel
theorem dX7_trace_1 : decode cX7_trace 1 = .ok (.getfield 233, 3) := by decide +kernel
theorem dX7_trace_4 : decode cX7_trace 4 = .ok (.lreturn, 1) := by decide +kernel
theorem dJ6_bitCount_0f7a4_0 : decode cJ6_bitCount_0f7a4 0 = .ok (.iload_n 0, 1) := by decide +kernel
theorem dJ6_bitCount_0f7a4_1 : decode cJ6_bitCount_0f7a4 1 = .ok (.iload_n 0, 1) := by decide +kernel
theorem dJ6_bitCount_0f7a4_2 : decode cJ6_bitCount_0f7a4 2 = .ok (.iconst 1, 1) := by decide +kernel
theorem dJ6_bitCount_0f7a4_3 : decode cJ6_bitCount_0f7a4 3 = .ok (.iushr, 1) := by decide +kernel
theorem dJ6_bitCount_0f7a4_4 : decode cJ6_bitCount_0f7a4 4 = .ok (.ldc_w 265, 3) := by decide +kernel
theorem dJ6_bitCount_0f7a4_7 : decode cJ6_bitCount_0f7a4 7 = .ok (.iand, 1) := by decide +kernel
theorem dJ6_bitCount_0f7a4_8 : decode cJ6_bitCount_0f7a4 8 = .ok (.isub, 1) := by decide +kernel
theorem dJ6_bitCount_0f7a4_9 : decode cJ6_bitCount_0f7a4 9 = .ok (.istore_n 0, 1) := by decide +kernel
theorem dJ6_bitCount_0f7a4_10 : decode cJ6_bitCount_0f7a4 10 = .ok (.iload_n 0, 1) := by decide +kernel
theorem dJ6_bitCount_0f7a4_11 : decode cJ6_bitCount_0f7a4 11 = .ok (.ldc_w 266, 3) := by decide +kernel
theorem dJ6_bitCount_0f7a4_14 : decode cJ6_bitCount_0f7a4 14 = .ok (.iand, 1) := by decide +kernel
theorem dJ6_bitCount_0f7a4_15 : decode cJ6_bitCount_0f7a4 15 = .ok (.iload_n 0, 1) := by decide +kernel
theorem dJ6_bitCount_0f7a4_16 : decode cJ6_bitCount_0f7a4 16 = .ok (.iconst 2, 1) := by decide +kernel
theorem dJ6_bitCount_0f7a4_17 : decode cJ6_bitCount_0f7a4 17 = .ok (.iushr, 1) := by decide +kernel
theorem dJ6_bitCount_0f7a4_18 : decode cJ6_bitCount_0f7a4 18 = .ok (.ldc_w 266, 3) := by decide +kernel
theorem dJ6_bitCount_0f7a4_21 : decode cJ6_bitCount_0f7a4 21 = .ok (.iand, 1) := by decide +kernel
theorem dJ6_bitCount_0f7a4_22 : decode cJ6_bitCount_0f7a4 22 = .ok (.iadd, 1) := by decide +kernel
theorem dJ6_bitCount_0f7a4_23 : decode cJ6_bitCount_0f7a4 23 = .ok (.istore_n 0, 1) := by decide +kernel
theorem dJ6_bitCount_0f7a4_24 : decode cJ6_bitCount_0f7a4 24 = .ok (.iload_n 0, 1) := by decide +kernel
theorem dJ6_bitCount_0f7a4_25 : decode cJ6_bitCount_0f7a4 25 = .ok (.iload_n 0, 1) := by decide +kernel
theorem dJ6_bitCount_0f7a4_26 : decode cJ6_bitCount_0f7a4 26 = .ok (.iconst 4, 1) := by decide +kernel
theorem dJ6_bitCount_0f7a4_27 : decode cJ6_bitCount_0f7a4 27 = .ok (.iushr, 1) := by decide +kernel
theorem dJ6_bitCount_0f7a4_28 : decode cJ6_bitCount_0f7a4 28 = .ok (.iadd, 1) := by decide +kernel
theorem dJ6_bitCount_0f7a4_29 : decode cJ6_bitCount_0f7a4 29 = .ok (.ldc_w 267, 3) := by decide +kernel
theorem dJ6_bitCount_0f7a4_32 : decode cJ6_bitCount_0f7a4 32 = .ok (.iand, 1) := by decide +kernel
theorem dJ6_bitCount_0f7a4_33 : decode cJ6_bitCount_0f7a4 33 = .ok (.istore_n 0, 1) := by decide +kernel
theorem dJ6_bitCount_0f7a4_34 : decode cJ6_bitCount_0f7a4 34 = .ok (.iload_n 0, 1) := by decide +kernel
theorem dJ6_bitCount_0f7a4_35 : decode cJ6_bitCount_0f7a4 35 = .ok (.iload_n 0, 1) := by decide +kernel
theorem dJ6_bitCount_0f7a4_36 : decode cJ6_bitCount_0f7a4 36 = .ok (.bipush 8, 2) := by decide +kernel
theorem dJ6_bitCount_0f7a4_38 : decode cJ6_bitCount_0f7a4 38 = .ok (.iushr, 1) := by decide +kernel
theorem dJ6_bitCount_0f7a4_39 : decode cJ6_bitCount_0f7a4 39 = .ok (.iadd, 1) := by decide +kernel
theorem dJ6_bitCount_0f7a4_40 : decode cJ6_bitCount_0f7a4 40 = .ok (.istore_n 0, 1) := by decide +kernel
theorem dJ6_bitCount_0f7a4_41 : decode cJ6_bitCount_0f7a4 41 = .ok (.iload_n 0, 1) := by decide +kernel
theorem dJ6_bitCount_0f7a4_42 : decode cJ6_bitCount_0f7a4 42 = .ok (.iload_n 0, 1) := by decide +kernel
theorem dJ6_bitCount_0f7a4_43 : decode cJ6_bitCount_0f7a4 43 = .ok (.bipush 16, 2) := by decide +kernel
theorem dJ6_bitCount_0f7a4_45 : decode cJ6_bitCount_0f7a4 45 = .ok (.iushr, 1) := by decide +kernel
theorem dJ6_bitCount_0f7a4_46 : decode cJ6_bitCount_0f7a4 46 = .ok (.iadd, 1) := by decide +kernel
theorem dJ6_bitCount_0f7a4_47 : decode cJ6_bitCount_0f7a4 47 = .ok (.istore_n 0, 1) := by decide +kernel
theorem dJ6_bitCount_0f7a4_48 : decode cJ6_bitCount_0f7a4 48 = .ok (.iload_n 0, 1) := by decide +kernel
theorem dJ6_bitCount_0f7a4_49 : decode cJ6_bitCount_0f7a4 49 = .ok (.bipush 63, 2) := by decide +kernel
theorem dJ6_bitCount_0f7a4_51 : decode cJ6_bitCount_0f7a4 51 = .ok (.iand, 1) := by decide +kernel
theorem dJ6_bitCount_0f7a4_52 : decode cJ6_bitCount_0f7a4 52 = .ok (.ireturn, 1) := by decide +kernel
theorem dJ13_bitCount_95d88_0 : decode cJ13_bitCount_95d88 0 = .ok (.lload_n 0, 1) := by decide +kernel
theorem dJ13_bitCount_95d88_1 : decode cJ13_bitCount_95d88 1 = .ok (.lload_n 0, 1) := by decide +kernel
theorem dJ13_bitCount_95d88_2 : decode cJ13_bitCount_95d88 2 = .ok (.iconst 1, 1) := by decide +kernel
theorem dJ13_bitCount_95d88_3 : decode cJ13_bitCount_95d88 3 = .ok (.lushr, 1) := by decide +kernel
theorem dJ13_bitCount_95d88_4 : decode cJ13_bitCount_95d88 4 = .ok (.ldc2_w 314, 3) := by decide +kernel
theorem dJ13_bitCount_95d88_7 : decode cJ13_bitCount_95d88 7 = .ok (.land, 1) := by decide +kernel
theorem dJ13_bitCount_95d88_8 : decode cJ13_bitCount_95d88 8 = .ok (.lsub, 1) := by decide +kernel
theorem dJ13_bitCount_95d88_9 : decode cJ13_bitCount_95d88 9 = .ok (.lstore_n 0, 1) := by decide +kernel
theorem dJ13_bitCount_95d88_10 : decode cJ13_bitCount_95d88 10 = .ok (.lload_n 0, 1) := by decide +kernel
theorem dJ13_bitCount_95d88_11 : decode cJ13_bitCount_95d88 11 = .ok (.ldc2_w 316, 3) := by decide +kernel
theorem dJ13_bitCount_95d88_14 : decode cJ13_bitCount_95d88 14 = .ok (.land, 1) := by decide +kernel
theorem dJ13_bitCount_95d88_15 : decode cJ13_bitCount_95d88 15 = .ok (.lload_n 0, 1) := by decide +kernel
theorem dJ13_bitCount_95d88_16 : decode cJ13_bitCount_95d88 16 = .ok (.iconst 2, 1) := by decide +kernel
theorem dJ13_bitCount_95d88_17 : decode cJ13_bitCount_95d88 17 = .ok (.lushr, 1) := by decide +kernel
theorem dJ13_bitCount_95d88_18 : decode cJ13_bitCount_95d88 18 = .ok (.ldc2_w 316, 3) := by decide +kernel
theorem dJ13_bitCount_95d88_21 : decode cJ13_bitCount_95d88 21 = .ok (.land, 1) := by decide +kernel
theorem dJ13_bitCount_95d88_22 : decode cJ13_bitCount_95d88 22 = .ok (.ladd, 1) := by decide +kernel
theorem dJ13_bitCount_95d88_23 : decode cJ13_bitCount_95d88 23 = .ok (.lstore_n 0, 1) := by decide +kernel
theorem dJ13_bitCount_95d88_24 : decode cJ13_bitCount_95d88 24 = .ok (.lload_n 0, 1) := by decide +kernel
theorem dJ13_bitCount_95d88_25 : decode cJ13_bitCount_95d88 25 = .ok (.lload_n 0, 1) := by decide +kernel
theorem dJ13_bitCount_95d88_26 : decode cJ13_bitCount_95d88 26 = .ok (.iconst 4, 1) := by decide +kernel
theorem dJ13_bitCount_95d88_27 : decode cJ13_bitCount_95d88 27 = .ok (.lushr, 1) := by decide +kernel
theorem dJ13_bitCount_95d88_28 : decode cJ13_bitCount_95d88 28 = .ok (.ladd, 1) := by decide +kernel
theorem dJ13_bitCount_95d88_29 : decode cJ13_bitCount_95d88 29 = .ok (.ldc2_w 318, 3) := by decide +kernel
theorem dJ13_bitCount_95d88_32 : decode cJ13_bitCount_95d88 32 = .ok (.land, 1) := by decide +kernel
theorem dJ13_bitCount_95d88_33 : decode cJ13_bitCount_95d88 33 = .ok (.lstore_n 0, 1) := by decide +kernel
theorem dJ13_bitCount_95d88_34 : decode cJ13_bitCount_95d88 34 = .ok (.lload_n 0, 1) := by decide +kernel
theorem dJ13_bitCount_95d88_35 : decode cJ13_bitCount_95d88 35 = .ok (.lload_n 0, 1) := by decide +kernel
theorem dJ13_bitCount_95d88_36 : decode cJ13_bitCount_95d88 36 = .ok (.bipush 8, 2) := by decide +kernel
theorem dJ13_bitCount_95d88_38 : decode cJ13_bitCount_95d88 38 = .ok (.lushr, 1) := by decide +kernel
theorem dJ13_bitCount_95d88_39 : decode cJ13_bitCount_95d88 39 = .ok (.ladd, 1) := by decide +kernel
theorem dJ13_bitCount_95d88_40 : decode cJ13_bitCount_95d88 40 = .ok (.lstore_n 0, 1) := by decide +kernel
theorem dJ13_bitCount_95d88_41 : decode cJ13_bitCount_95d88 41 = .ok (.lload_n 0, 1) := by decide +kernel
theorem dJ13_bitCount_95d88_42 : decode cJ13_bitCount_95d88 42 = .ok (.lload_n 0, 1) := by decide +kernel
theorem dJ13_bitCount_95d88_43 : decode cJ13_bitCount_95d88 43 = .ok (.bipush 16, 2) := by decide +kernel
theorem dJ13_bitCount_95d88_45 : decode cJ13_bitCount_95d88 45 = .ok (.lushr, 1) := by decide +kernel
theorem dJ13_bitCount_95d88_46 : decode cJ13_bitCount_95d88 46 = .ok (.ladd, 1) := by decide +kernel
theorem dJ13_bitCount_95d88_47 : decode cJ13_bitCount_95d88 47 = .ok (.lstore_n 0, 1) := by decide +kernel
theorem dJ13_bitCount_95d88_48 : decode cJ13_bitCount_95d88 48 = .ok (.lload_n 0, 1) := by decide +kernel
theorem dJ13_bitCount_95d88_49 : decode cJ13_bitCount_95d88 49 = .ok (.lload_n 0, 1) := by decide +kernel
theorem dJ13_bitCount_95d88_50 : decode cJ13_bitCount_95d88 50 = .ok (.bipush 32, 2) := by decide +kernel
theorem dJ13_bitCount_95d88_52 : decode cJ13_bitCount_95d88 52 = .ok (.lushr, 1) := by decide +kernel
theorem dJ13_bitCount_95d88_53 : decode cJ13_bitCount_95d88 53 = .ok (.ladd, 1) := by decide +kernel
theorem dJ13_bitCount_95d88_54 : decode cJ13_bitCount_95d88 54 = .ok (.lstore_n 0, 1) := by decide +kernel
theorem dJ13_bitCount_95d88_55 : decode cJ13_bitCount_95d88 55 = .ok (.lload_n 0, 1) := by decide +kernel
theorem dJ13_bitCount_95d88_56 : decode cJ13_bitCount_95d88 56 = .ok (.l2i, 1) := by decide +kernel
theorem dJ13_bitCount_95d88_57 : decode cJ13_bitCount_95d88 57 = .ok (.bipush 127, 2) := by decide +kernel
theorem dJ13_bitCount_95d88_59 : decode cJ13_bitCount_95d88 59 = .ok (.iand, 1) := by decide +kernel
theorem dJ13_bitCount_95d88_60 : decode cJ13_bitCount_95d88 60 = .ok (.ireturn, 1) := by decide +kernel
theorem dJ7_fill_53178_0 : decode cJ7_fill_53178 0 = .ok (.iconst 0, 1) := by decide +kernel
theorem dJ7_fill_53178_1 : decode cJ7_fill_53178 1 = .ok (.istore_n 2, 1) := by decide +kernel
theorem dJ7_fill_53178_2 : decode cJ7_fill_53178 2 = .ok (.aload_n 0, 1) := by decide +kernel
theorem dJ7_fill_53178_3 : decode cJ7_fill_53178 3 = .ok (.arraylength, 1) := by decide +kernel
theorem dJ7_fill_53178_4 : decode cJ7_fill_53178 4 = .ok (.istore_n 3, 1) := by decide +kernel
theorem dJ7_fill_53178_5 : decode cJ7_fill_53178 5 = .ok (.iload_n 2, 1) := by decide +kernel
theorem dJ7_fill_53178_6 : decode cJ7_fill_53178 6 = .ok (.iload_n 3, 1) := by decide +kernel
theorem dJ7_fill_53178_7 : decode cJ7_fill_53178 7 = .ok (.if_icmp .ge 13, 3) := by decide +kernel
theorem dJ7_fill_53178_10 : decode cJ7_fill_53178 10 = .ok (.aload_n 0, 1) := by decide +kernel
theorem dJ7_fill_53178_11 : decode cJ7_fill_53178 11 = .ok (.iload_n 2, 1) := by decide +kernel
theorem dJ7_fill_53178_12 : decode cJ7_fill_53178 12 = .ok (.iload_n 1, 1) := by decide +kernel
theorem dJ7_fill_53178_13 : decode cJ7_fill_53178 13 = .ok (.iastore, 1) := by decide +kernel
theorem dJ7_fill_53178_14 : decode cJ7_fill_53178 14 = .ok (.iinc 2 1, 3) := by decide +kernel
theorem dJ7_fill_53178_17 : decode cJ7_fill_53178 17 = .ok (.goto (-12), 3) := by decide +kernel
theorem dJ7_fill_53178_20 : decode cJ7_fill_53178 20 = .ok (.return_, 1) := by decide +kernel
theorem dL_law_0 : decode cL_law 0 = .ok (.new 7, 3) := by decide +kernel
theorem dL_law_3 : decode cL_law 3 = .ok (.dup, 1) := by decide +kernel
theorem dL_law_4 : decode cL_law 4 = .ok (.invokespecial 9, 3) := by decide +kernel
theorem dL_law_7 : decode cL_law 7 = .ok (.astore_n 1, 1) := by decide +kernel
theorem dL_law_8 : decode cL_law 8 = .ok (.new 10, 3) := by decide +kernel
theorem dL_law_11 : decode cL_law 11 = .ok (.dup, 1) := by decide +kernel
theorem dL_law_12 : decode cL_law 12 = .ok (.invokespecial 12, 3) := by decide +kernel
theorem dL_law_15 : decode cL_law 15 = .ok (.astore_n 2, 1) := by decide +kernel
theorem dL_law_16 : decode cL_law 16 = .ok (.iconst 0, 1) := by decide +kernel
theorem dL_law_17 : decode cL_law 17 = .ok (.istore_n 3, 1) := by decide +kernel
theorem dL_law_18 : decode cL_law 18 = .ok (.iload_n 3, 1) := by decide +kernel
theorem dL_law_19 : decode cL_law 19 = .ok (.aload_n 0, 1) := by decide +kernel
theorem dL_law_20 : decode cL_law 20 = .ok (.arraylength, 1) := by decide +kernel
theorem dL_law_21 : decode cL_law 21 = .ok (.iconst 4, 1) := by decide +kernel
theorem dL_law_22 : decode cL_law 22 = .ok (.isub, 1) := by decide +kernel
theorem dL_law_23 : decode cL_law 23 = .ok (.if_icmp .gt 751, 3) := by decide +kernel
theorem dL_law_26 : decode cL_law 26 = .ok (.aload_n 0, 1) := by decide +kernel
theorem dL_law_27 : decode cL_law 27 = .ok (.iload_n 3, 1) := by decide +kernel
theorem dL_law_28 : decode cL_law 28 = .ok (.iaload, 1) := by decide +kernel
theorem dL_law_29 : decode cL_law 29 = .ok (.bipush 31, 2) := by decide +kernel
theorem dL_law_31 : decode cL_law 31 = .ok (.iand, 1) := by decide +kernel
theorem dL_law_32 : decode cL_law 32 = .ok (.tableswitch 736 0 26 #[124, 147, 160, 173, 206, 239, 262, 285, 308, 331, 354, 367, 390, 403, 416, 439, 482, 505, 528, 551, 594, 607, 620, 653, 676, 699, 722], 124) := by decide +kernel
theorem dL_law_156 : decode cL_law 156 = .ok (.aload_n 1, 1) := by decide +kernel
theorem dL_law_157 : decode cL_law 157 = .ok (.aload_n 0, 1) := by decide +kernel
theorem dL_law_158 : decode cL_law 158 = .ok (.iload_n 3, 1) := by decide +kernel
theorem dL_law_159 : decode cL_law 159 = .ok (.iconst 1, 1) := by decide +kernel
theorem dL_law_160 : decode cL_law 160 = .ok (.iadd, 1) := by decide +kernel
theorem dL_law_161 : decode cL_law 161 = .ok (.iaload, 1) := by decide +kernel
theorem dL_law_162 : decode cL_law 162 = .ok (.invokevirtual 13, 3) := by decide +kernel
theorem dL_law_165 : decode cL_law 165 = .ok (.aload_n 2, 1) := by decide +kernel
theorem dL_law_166 : decode cL_law 166 = .ok (.aload_n 0, 1) := by decide +kernel
theorem dL_law_167 : decode cL_law 167 = .ok (.iload_n 3, 1) := by decide +kernel
theorem dL_law_168 : decode cL_law 168 = .ok (.iconst 1, 1) := by decide +kernel
theorem dL_law_169 : decode cL_law 169 = .ok (.iadd, 1) := by decide +kernel
theorem dL_law_170 : decode cL_law 170 = .ok (.iaload, 1) := by decide +kernel
theorem dL_law_171 : decode cL_law 171 = .ok (.invokevirtual 17, 3) := by decide +kernel
theorem dL_law_174 : decode cL_law 174 = .ok (.if_icmp .eq 594, 3) := by decide +kernel
theorem dL_law_177 : decode cL_law 177 = .ok (.iconst 0, 1) := by decide +kernel
theorem dL_law_178 : decode cL_law 178 = .ok (.ireturn, 1) := by decide +kernel
theorem dL_law_179 : decode cL_law 179 = .ok (.aload_n 1, 1) := by decide +kernel
theorem dL_law_180 : decode cL_law 180 = .ok (.invokevirtual 18, 3) := by decide +kernel
theorem dL_law_183 : decode cL_law 183 = .ok (.aload_n 2, 1) := by decide +kernel
theorem dL_law_184 : decode cL_law 184 = .ok (.invokevirtual 22, 3) := by decide +kernel
theorem dL_law_187 : decode cL_law 187 = .ok (.if_icmp .eq 581, 3) := by decide +kernel
theorem dL_law_190 : decode cL_law 190 = .ok (.iconst 0, 1) := by decide +kernel
theorem dL_law_191 : decode cL_law 191 = .ok (.ireturn, 1) := by decide +kernel
theorem dL_law_192 : decode cL_law 192 = .ok (.aload_n 1, 1) := by decide +kernel
theorem dL_law_193 : decode cL_law 193 = .ok (.invokevirtual 23, 3) := by decide +kernel
theorem dL_law_196 : decode cL_law 196 = .ok (.aload_n 2, 1) := by decide +kernel
theorem dL_law_197 : decode cL_law 197 = .ok (.invokevirtual 26, 3) := by decide +kernel
theorem dL_law_200 : decode cL_law 200 = .ok (.if_icmp .eq 568, 3) := by decide +kernel
theorem dL_law_203 : decode cL_law 203 = .ok (.iconst 0, 1) := by decide +kernel
theorem dL_law_204 : decode cL_law 204 = .ok (.ireturn, 1) := by decide +kernel
theorem dL_law_205 : decode cL_law 205 = .ok (.aload_n 1, 1) := by decide +kernel
theorem dL_law_206 : decode cL_law 206 = .ok (.aload_n 0, 1) := by decide +kernel
theorem dL_law_207 : decode cL_law 207 = .ok (.iload_n 3, 1) := by decide +kernel
theorem dL_law_208 : decode cL_law 208 = .ok (.iconst 1, 1) := by decide +kernel
theorem dL_law_209 : decode cL_law 209 = .ok (.iadd, 1) := by decide +kernel
theorem dL_law_210 : decode cL_law 210 = .ok (.iaload, 1) := by decide +kernel
theorem dL_law_211 : decode cL_law 211 = .ok (.aload_n 0, 1) := by decide +kernel
theorem dL_law_212 : decode cL_law 212 = .ok (.iload_n 3, 1) := by decide +kernel
theorem dL_law_213 : decode cL_law 213 = .ok (.iconst 2, 1) := by decide +kernel
theorem dL_law_214 : decode cL_law 214 = .ok (.iadd, 1) := by decide +kernel
theorem dL_law_215 : decode cL_law 215 = .ok (.iaload, 1) := by decide +kernel
theorem dL_law_216 : decode cL_law 216 = .ok (.invokevirtual 27, 3) := by decide +kernel
theorem dL_law_219 : decode cL_law 219 = .ok (.aload_n 2, 1) := by decide +kernel
theorem dL_law_220 : decode cL_law 220 = .ok (.aload_n 0, 1) := by decide +kernel
theorem dL_law_221 : decode cL_law 221 = .ok (.iload_n 3, 1) := by decide +kernel
theorem dL_law_222 : decode cL_law 222 = .ok (.iconst 1, 1) := by decide +kernel
theorem dL_law_223 : decode cL_law 223 = .ok (.iadd, 1) := by decide +kernel
theorem dL_law_224 : decode cL_law 224 = .ok (.iaload, 1) := by decide +kernel
theorem dL_law_225 : decode cL_law 225 = .ok (.aload_n 0, 1) := by decide +kernel
theorem dL_law_226 : decode cL_law 226 = .ok (.iload_n 3, 1) := by decide +kernel
theorem dL_law_227 : decode cL_law 227 = .ok (.iconst 2, 1) := by decide +kernel
theorem dL_law_228 : decode cL_law 228 = .ok (.iadd, 1) := by decide +kernel
theorem dL_law_229 : decode cL_law 229 = .ok (.iaload, 1) := by decide +kernel
theorem dL_law_230 : decode cL_law 230 = .ok (.invokevirtual 31, 3) := by decide +kernel
theorem dL_law_233 : decode cL_law 233 = .ok (.if_icmp .eq 535, 3) := by decide +kernel
theorem dL_law_236 : decode cL_law 236 = .ok (.iconst 0, 1) := by decide +kernel
theorem dL_law_237 : decode cL_law 237 = .ok (.ireturn, 1) := by decide +kernel
theorem dL_law_238 : decode cL_law 238 = .ok (.aload_n 1, 1) := by decide +kernel
theorem dL_law_239 : decode cL_law 239 = .ok (.aload_n 0, 1) := by decide +kernel
theorem dL_law_240 : decode cL_law 240 = .ok (.iload_n 3, 1) := by decide +kernel
theorem dL_law_241 : decode cL_law 241 = .ok (.iconst 1, 1) := by decide +kernel
theorem dL_law_242 : decode cL_law 242 = .ok (.iadd, 1) := by decide +kernel
theorem dL_law_243 : decode cL_law 243 = .ok (.iaload, 1) := by decide +kernel
theorem dL_law_244 : decode cL_law 244 = .ok (.aload_n 0, 1) := by decide +kernel
theorem dL_law_245 : decode cL_law 245 = .ok (.iload_n 3, 1) := by decide +kernel
theorem dL_law_246 : decode cL_law 246 = .ok (.iconst 2, 1) := by decide +kernel
theorem dL_law_247 : decode cL_law 247 = .ok (.iadd, 1) := by decide +kernel
theorem dL_law_248 : decode cL_law 248 = .ok (.iaload, 1) := by decide +kernel
theorem dL_law_249 : decode cL_law 249 = .ok (.invokevirtual 32, 3) := by decide +kernel
theorem dL_law_252 : decode cL_law 252 = .ok (.aload_n 2, 1) := by decide +kernel
theorem dL_law_253 : decode cL_law 253 = .ok (.aload_n 0, 1) := by decide +kernel
theorem dL_law_254 : decode cL_law 254 = .ok (.iload_n 3, 1) := by decide +kernel
theorem dL_law_255 : decode cL_law 255 = .ok (.iconst 1, 1) := by decide +kernel
theorem dL_law_256 : decode cL_law 256 = .ok (.iadd, 1) := by decide +kernel
theorem dL_law_257 : decode cL_law 257 = .ok (.iaload, 1) := by decide +kernel
theorem dL_law_258 : decode cL_law 258 = .ok (.aload_n 0, 1) := by decide +kernel
theorem dL_law_259 : decode cL_law 259 = .ok (.iload_n 3, 1) := by decide +kernel
theorem dL_law_260 : decode cL_law 260 = .ok (.iconst 2, 1) := by decide +kernel
theorem dL_law_261 : decode cL_law 261 = .ok (.iadd, 1) := by decide +kernel
theorem dL_law_262 : decode cL_law 262 = .ok (.iaload, 1) := by decide +kernel
theorem dL_law_263 : decode cL_law 263 = .ok (.invokevirtual 35, 3) := by decide +kernel
theorem dL_law_266 : decode cL_law 266 = .ok (.if_icmp .eq 502, 3) := by decide +kernel
theorem dL_law_269 : decode cL_law 269 = .ok (.iconst 0, 1) := by decide +kernel
theorem dL_law_270 : decode cL_law 270 = .ok (.ireturn, 1) := by decide +kernel
theorem dL_law_271 : decode cL_law 271 = .ok (.aload_n 1, 1) := by decide +kernel
theorem dL_law_272 : decode cL_law 272 = .ok (.aload_n 0, 1) := by decide +kernel
theorem dL_law_273 : decode cL_law 273 = .ok (.iload_n 3, 1) := by decide +kernel
theorem dL_law_274 : decode cL_law 274 = .ok (.iconst 1, 1) := by decide +kernel
theorem dL_law_275 : decode cL_law 275 = .ok (.iadd, 1) := by decide +kernel
theorem dL_law_276 : decode cL_law 276 = .ok (.iaload, 1) := by decide +kernel
theorem dL_law_277 : decode cL_law 277 = .ok (.invokevirtual 36, 3) := by decide +kernel
theorem dL_law_280 : decode cL_law 280 = .ok (.aload_n 2, 1) := by decide +kernel
theorem dL_law_281 : decode cL_law 281 = .ok (.aload_n 0, 1) := by decide +kernel
theorem dL_law_282 : decode cL_law 282 = .ok (.iload_n 3, 1) := by decide +kernel
theorem dL_law_283 : decode cL_law 283 = .ok (.iconst 1, 1) := by decide +kernel
theorem dL_law_284 : decode cL_law 284 = .ok (.iadd, 1) := by decide +kernel
theorem dL_law_285 : decode cL_law 285 = .ok (.iaload, 1) := by decide +kernel
theorem dL_law_286 : decode cL_law 286 = .ok (.invokevirtual 39, 3) := by decide +kernel
theorem dL_law_289 : decode cL_law 289 = .ok (.if_icmp .eq 479, 3) := by decide +kernel
theorem dL_law_292 : decode cL_law 292 = .ok (.iconst 0, 1) := by decide +kernel
theorem dL_law_293 : decode cL_law 293 = .ok (.ireturn, 1) := by decide +kernel
theorem dL_law_294 : decode cL_law 294 = .ok (.aload_n 1, 1) := by decide +kernel
theorem dL_law_295 : decode cL_law 295 = .ok (.aload_n 0, 1) := by decide +kernel
theorem dL_law_296 : decode cL_law 296 = .ok (.iload_n 3, 1) := by decide +kernel
theorem dL_law_297 : decode cL_law 297 = .ok (.iconst 1, 1) := by decide +kernel
theorem dL_law_298 : decode cL_law 298 = .ok (.iadd, 1) := by decide +kernel
theorem dL_law_299 : decode cL_law 299 = .ok (.iaload, 1) := by decide +kernel
theorem dL_law_300 : decode cL_law 300 = .ok (.invokevirtual 40, 3) := by decide +kernel
theorem dL_law_303 : decode cL_law 303 = .ok (.aload_n 2, 1) := by decide +kernel
theorem dL_law_304 : decode cL_law 304 = .ok (.aload_n 0, 1) := by decide +kernel
theorem dL_law_305 : decode cL_law 305 = .ok (.iload_n 3, 1) := by decide +kernel
theorem dL_law_306 : decode cL_law 306 = .ok (.iconst 1, 1) := by decide +kernel
theorem dL_law_307 : decode cL_law 307 = .ok (.iadd, 1) := by decide +kernel
theorem dL_law_308 : decode cL_law 308 = .ok (.iaload, 1) := by decide +kernel
theorem dL_law_309 : decode cL_law 309 = .ok (.invokevirtual 43, 3) := by decide +kernel
theorem dL_law_312 : decode cL_law 312 = .ok (.if_icmp .eq 456, 3) := by decide +kernel
theorem dL_law_315 : decode cL_law 315 = .ok (.iconst 0, 1) := by decide +kernel
theorem dL_law_316 : decode cL_law 316 = .ok (.ireturn, 1) := by decide +kernel
theorem dL_law_317 : decode cL_law 317 = .ok (.aload_n 1, 1) := by decide +kernel
theorem dL_law_318 : decode cL_law 318 = .ok (.aload_n 0, 1) := by decide +kernel
theorem dL_law_319 : decode cL_law 319 = .ok (.iload_n 3, 1) := by decide +kernel
theorem dL_law_320 : decode cL_law 320 = .ok (.iconst 1, 1) := by decide +kernel
theorem dL_law_321 : decode cL_law 321 = .ok (.iadd, 1) := by decide +kernel
theorem dL_law_322 : decode cL_law 322 = .ok (.iaload, 1) := by decide +kernel
theorem dL_law_323 : decode cL_law 323 = .ok (.invokevirtual 44, 3) := by decide +kernel
theorem dL_law_326 : decode cL_law 326 = .ok (.aload_n 2, 1) := by decide +kernel
theorem dL_law_327 : decode cL_law 327 = .ok (.aload_n 0, 1) := by decide +kernel
theorem dL_law_328 : decode cL_law 328 = .ok (.iload_n 3, 1) := by decide +kernel
theorem dL_law_329 : decode cL_law 329 = .ok (.iconst 1, 1) := by decide +kernel
theorem dL_law_330 : decode cL_law 330 = .ok (.iadd, 1) := by decide +kernel
theorem dL_law_331 : decode cL_law 331 = .ok (.iaload, 1) := by decide +kernel
theorem dL_law_332 : decode cL_law 332 = .ok (.invokevirtual 47, 3) := by decide +kernel
theorem dL_law_335 : decode cL_law 335 = .ok (.if_icmp .eq 433, 3) := by decide +kernel
theorem dL_law_338 : decode cL_law 338 = .ok (.iconst 0, 1) := by decide +kernel
theorem dL_law_339 : decode cL_law 339 = .ok (.ireturn, 1) := by decide +kernel
theorem dL_law_340 : decode cL_law 340 = .ok (.aload_n 1, 1) := by decide +kernel
theorem dL_law_341 : decode cL_law 341 = .ok (.aload_n 0, 1) := by decide +kernel
theorem dL_law_342 : decode cL_law 342 = .ok (.iload_n 3, 1) := by decide +kernel
theorem dL_law_343 : decode cL_law 343 = .ok (.iconst 1, 1) := by decide +kernel
theorem dL_law_344 : decode cL_law 344 = .ok (.iadd, 1) := by decide +kernel
theorem dL_law_345 : decode cL_law 345 = .ok (.iaload, 1) := by decide +kernel
theorem dL_law_346 : decode cL_law 346 = .ok (.invokevirtual 48, 3) := by decide +kernel
theorem dL_law_349 : decode cL_law 349 = .ok (.aload_n 2, 1) := by decide +kernel
theorem dL_law_350 : decode cL_law 350 = .ok (.aload_n 0, 1) := by decide +kernel
theorem dL_law_351 : decode cL_law 351 = .ok (.iload_n 3, 1) := by decide +kernel
theorem dL_law_352 : decode cL_law 352 = .ok (.iconst 1, 1) := by decide +kernel
theorem dL_law_353 : decode cL_law 353 = .ok (.iadd, 1) := by decide +kernel
theorem dL_law_354 : decode cL_law 354 = .ok (.iaload, 1) := by decide +kernel
theorem dL_law_355 : decode cL_law 355 = .ok (.invokevirtual 51, 3) := by decide +kernel
theorem dL_law_358 : decode cL_law 358 = .ok (.if_icmp .eq 410, 3) := by decide +kernel
theorem dL_law_361 : decode cL_law 361 = .ok (.iconst 0, 1) := by decide +kernel
theorem dL_law_362 : decode cL_law 362 = .ok (.ireturn, 1) := by decide +kernel
theorem dL_law_363 : decode cL_law 363 = .ok (.aload_n 1, 1) := by decide +kernel
theorem dL_law_364 : decode cL_law 364 = .ok (.aload_n 0, 1) := by decide +kernel
theorem dL_law_365 : decode cL_law 365 = .ok (.iload_n 3, 1) := by decide +kernel
theorem dL_law_366 : decode cL_law 366 = .ok (.iconst 1, 1) := by decide +kernel
theorem dL_law_367 : decode cL_law 367 = .ok (.iadd, 1) := by decide +kernel
theorem dL_law_368 : decode cL_law 368 = .ok (.iaload, 1) := by decide +kernel
theorem dL_law_369 : decode cL_law 369 = .ok (.invokevirtual 52, 3) := by decide +kernel
theorem dL_law_372 : decode cL_law 372 = .ok (.aload_n 2, 1) := by decide +kernel
theorem dL_law_373 : decode cL_law 373 = .ok (.aload_n 0, 1) := by decide +kernel
theorem dL_law_374 : decode cL_law 374 = .ok (.iload_n 3, 1) := by decide +kernel
theorem dL_law_375 : decode cL_law 375 = .ok (.iconst 1, 1) := by decide +kernel
theorem dL_law_376 : decode cL_law 376 = .ok (.iadd, 1) := by decide +kernel
theorem dL_law_377 : decode cL_law 377 = .ok (.iaload, 1) := by decide +kernel
theorem dL_law_378 : decode cL_law 378 = .ok (.invokevirtual 55, 3) := by decide +kernel
theorem dL_law_381 : decode cL_law 381 = .ok (.if_icmp .eq 387, 3) := by decide +kernel
theorem dL_law_384 : decode cL_law 384 = .ok (.iconst 0, 1) := by decide +kernel
theorem dL_law_385 : decode cL_law 385 = .ok (.ireturn, 1) := by decide +kernel
theorem dL_law_386 : decode cL_law 386 = .ok (.aload_n 1, 1) := by decide +kernel
theorem dL_law_387 : decode cL_law 387 = .ok (.invokevirtual 56, 3) := by decide +kernel
theorem dL_law_390 : decode cL_law 390 = .ok (.aload_n 2, 1) := by decide +kernel
theorem dL_law_391 : decode cL_law 391 = .ok (.invokevirtual 59, 3) := by decide +kernel
theorem dL_law_394 : decode cL_law 394 = .ok (.if_icmp .eq 374, 3) := by decide +kernel
theorem dL_law_397 : decode cL_law 397 = .ok (.iconst 0, 1) := by decide +kernel
theorem dL_law_398 : decode cL_law 398 = .ok (.ireturn, 1) := by decide +kernel
theorem dL_law_399 : decode cL_law 399 = .ok (.aload_n 1, 1) := by decide +kernel
theorem dL_law_400 : decode cL_law 400 = .ok (.aload_n 0, 1) := by decide +kernel
theorem dL_law_401 : decode cL_law 401 = .ok (.iload_n 3, 1) := by decide +kernel
theorem dL_law_402 : decode cL_law 402 = .ok (.iconst 1, 1) := by decide +kernel
theorem dL_law_403 : decode cL_law 403 = .ok (.iadd, 1) := by decide +kernel
theorem dL_law_404 : decode cL_law 404 = .ok (.iaload, 1) := by decide +kernel
theorem dL_law_405 : decode cL_law 405 = .ok (.invokevirtual 60, 3) := by decide +kernel
theorem dL_law_408 : decode cL_law 408 = .ok (.aload_n 2, 1) := by decide +kernel
theorem dL_law_409 : decode cL_law 409 = .ok (.aload_n 0, 1) := by decide +kernel
theorem dL_law_410 : decode cL_law 410 = .ok (.iload_n 3, 1) := by decide +kernel
theorem dL_law_411 : decode cL_law 411 = .ok (.iconst 1, 1) := by decide +kernel
theorem dL_law_412 : decode cL_law 412 = .ok (.iadd, 1) := by decide +kernel
theorem dL_law_413 : decode cL_law 413 = .ok (.iaload, 1) := by decide +kernel
theorem dL_law_414 : decode cL_law 414 = .ok (.invokevirtual 63, 3) := by decide +kernel
theorem dL_law_417 : decode cL_law 417 = .ok (.if_icmp .eq 351, 3) := by decide +kernel
theorem dL_law_420 : decode cL_law 420 = .ok (.iconst 0, 1) := by decide +kernel
theorem dL_law_421 : decode cL_law 421 = .ok (.ireturn, 1) := by decide +kernel
theorem dL_law_422 : decode cL_law 422 = .ok (.aload_n 1, 1) := by decide +kernel
theorem dL_law_423 : decode cL_law 423 = .ok (.invokevirtual 64, 3) := by decide +kernel
theorem dL_law_426 : decode cL_law 426 = .ok (.aload_n 2, 1) := by decide +kernel
theorem dL_law_427 : decode cL_law 427 = .ok (.invokevirtual 67, 3) := by decide +kernel
theorem dL_law_430 : decode cL_law 430 = .ok (.if_icmp .eq 338, 3) := by decide +kernel
theorem dL_law_433 : decode cL_law 433 = .ok (.iconst 0, 1) := by decide +kernel
theorem dL_law_434 : decode cL_law 434 = .ok (.ireturn, 1) := by decide +kernel
theorem dL_law_435 : decode cL_law 435 = .ok (.aload_n 1, 1) := by decide +kernel
theorem dL_law_436 : decode cL_law 436 = .ok (.invokevirtual 68, 3) := by decide +kernel
theorem dL_law_439 : decode cL_law 439 = .ok (.aload_n 2, 1) := by decide +kernel
theorem dL_law_440 : decode cL_law 440 = .ok (.invokevirtual 71, 3) := by decide +kernel
theorem dL_law_443 : decode cL_law 443 = .ok (.if_icmp .eq 325, 3) := by decide +kernel
theorem dL_law_446 : decode cL_law 446 = .ok (.iconst 0, 1) := by decide +kernel
theorem dL_law_447 : decode cL_law 447 = .ok (.ireturn, 1) := by decide +kernel
theorem dL_law_448 : decode cL_law 448 = .ok (.aload_n 1, 1) := by decide +kernel
theorem dL_law_449 : decode cL_law 449 = .ok (.aload_n 0, 1) := by decide +kernel
theorem dL_law_450 : decode cL_law 450 = .ok (.iload_n 3, 1) := by decide +kernel
theorem dL_law_451 : decode cL_law 451 = .ok (.iconst 1, 1) := by decide +kernel
theorem dL_law_452 : decode cL_law 452 = .ok (.iadd, 1) := by decide +kernel
theorem dL_law_453 : decode cL_law 453 = .ok (.iaload, 1) := by decide +kernel
theorem dL_law_454 : decode cL_law 454 = .ok (.invokevirtual 72, 3) := by decide +kernel
theorem dL_law_457 : decode cL_law 457 = .ok (.aload_n 2, 1) := by decide +kernel
theorem dL_law_458 : decode cL_law 458 = .ok (.aload_n 0, 1) := by decide +kernel
theorem dL_law_459 : decode cL_law 459 = .ok (.iload_n 3, 1) := by decide +kernel
theorem dL_law_460 : decode cL_law 460 = .ok (.iconst 1, 1) := by decide +kernel
theorem dL_law_461 : decode cL_law 461 = .ok (.iadd, 1) := by decide +kernel
theorem dL_law_462 : decode cL_law 462 = .ok (.iaload, 1) := by decide +kernel
theorem dL_law_463 : decode cL_law 463 = .ok (.invokevirtual 75, 3) := by decide +kernel
theorem dL_law_466 : decode cL_law 466 = .ok (.if_icmp .eq 302, 3) := by decide +kernel
theorem dL_law_469 : decode cL_law 469 = .ok (.iconst 0, 1) := by decide +kernel
theorem dL_law_470 : decode cL_law 470 = .ok (.ireturn, 1) := by decide +kernel
theorem dL_law_471 : decode cL_law 471 = .ok (.aload_n 1, 1) := by decide +kernel
theorem dL_law_472 : decode cL_law 472 = .ok (.aload_n 0, 1) := by decide +kernel
theorem dL_law_473 : decode cL_law 473 = .ok (.iload_n 3, 1) := by decide +kernel
theorem dL_law_474 : decode cL_law 474 = .ok (.iconst 1, 1) := by decide +kernel
theorem dL_law_475 : decode cL_law 475 = .ok (.iadd, 1) := by decide +kernel
theorem dL_law_476 : decode cL_law 476 = .ok (.iaload, 1) := by decide +kernel
theorem dL_law_477 : decode cL_law 477 = .ok (.aload_n 0, 1) := by decide +kernel
theorem dL_law_478 : decode cL_law 478 = .ok (.iload_n 3, 1) := by decide +kernel
theorem dL_law_479 : decode cL_law 479 = .ok (.iconst 2, 1) := by decide +kernel
theorem dL_law_480 : decode cL_law 480 = .ok (.iadd, 1) := by decide +kernel
theorem dL_law_481 : decode cL_law 481 = .ok (.iaload, 1) := by decide +kernel
theorem dL_law_482 : decode cL_law 482 = .ok (.aload_n 0, 1) := by decide +kernel
theorem dL_law_483 : decode cL_law 483 = .ok (.iload_n 3, 1) := by decide +kernel
theorem dL_law_484 : decode cL_law 484 = .ok (.iconst 3, 1) := by decide +kernel
theorem dL_law_485 : decode cL_law 485 = .ok (.iadd, 1) := by decide +kernel
theorem dL_law_486 : decode cL_law 486 = .ok (.iaload, 1) := by decide +kernel
theorem dL_law_487 : decode cL_law 487 = .ok (.invokevirtual 76, 3) := by decide +kernel
theorem dL_law_490 : decode cL_law 490 = .ok (.aload_n 2, 1) := by decide +kernel
theorem dL_law_491 : decode cL_law 491 = .ok (.aload_n 0, 1) := by decide +kernel
theorem dL_law_492 : decode cL_law 492 = .ok (.iload_n 3, 1) := by decide +kernel
theorem dL_law_493 : decode cL_law 493 = .ok (.iconst 1, 1) := by decide +kernel
theorem dL_law_494 : decode cL_law 494 = .ok (.iadd, 1) := by decide +kernel
theorem dL_law_495 : decode cL_law 495 = .ok (.iaload, 1) := by decide +kernel
theorem dL_law_496 : decode cL_law 496 = .ok (.aload_n 0, 1) := by decide +kernel
theorem dL_law_497 : decode cL_law 497 = .ok (.iload_n 3, 1) := by decide +kernel
theorem dL_law_498 : decode cL_law 498 = .ok (.iconst 2, 1) := by decide +kernel
theorem dL_law_499 : decode cL_law 499 = .ok (.iadd, 1) := by decide +kernel
theorem dL_law_500 : decode cL_law 500 = .ok (.iaload, 1) := by decide +kernel
theorem dL_law_501 : decode cL_law 501 = .ok (.aload_n 0, 1) := by decide +kernel
theorem dL_law_502 : decode cL_law 502 = .ok (.iload_n 3, 1) := by decide +kernel
theorem dL_law_503 : decode cL_law 503 = .ok (.iconst 3, 1) := by decide +kernel
theorem dL_law_504 : decode cL_law 504 = .ok (.iadd, 1) := by decide +kernel
theorem dL_law_505 : decode cL_law 505 = .ok (.iaload, 1) := by decide +kernel
theorem dL_law_506 : decode cL_law 506 = .ok (.invokevirtual 80, 3) := by decide +kernel
theorem dL_law_509 : decode cL_law 509 = .ok (.if_icmp .eq 259, 3) := by decide +kernel
theorem dL_law_512 : decode cL_law 512 = .ok (.iconst 0, 1) := by decide +kernel
theorem dL_law_513 : decode cL_law 513 = .ok (.ireturn, 1) := by decide +kernel
theorem dL_law_514 : decode cL_law 514 = .ok (.aload_n 1, 1) := by decide +kernel
theorem dL_law_515 : decode cL_law 515 = .ok (.aload_n 0, 1) := by decide +kernel
theorem dL_law_516 : decode cL_law 516 = .ok (.iload_n 3, 1) := by decide +kernel
theorem dL_law_517 : decode cL_law 517 = .ok (.iconst 1, 1) := by decide +kernel
theorem dL_law_518 : decode cL_law 518 = .ok (.iadd, 1) := by decide +kernel
theorem dL_law_519 : decode cL_law 519 = .ok (.iaload, 1) := by decide +kernel
theorem dL_law_520 : decode cL_law 520 = .ok (.invokevirtual 81, 3) := by decide +kernel
theorem dL_law_523 : decode cL_law 523 = .ok (.aload_n 2, 1) := by decide +kernel
theorem dL_law_524 : decode cL_law 524 = .ok (.aload_n 0, 1) := by decide +kernel
theorem dL_law_525 : decode cL_law 525 = .ok (.iload_n 3, 1) := by decide +kernel
theorem dL_law_526 : decode cL_law 526 = .ok (.iconst 1, 1) := by decide +kernel
theorem dL_law_527 : decode cL_law 527 = .ok (.iadd, 1) := by decide +kernel
theorem dL_law_528 : decode cL_law 528 = .ok (.iaload, 1) := by decide +kernel
theorem dL_law_529 : decode cL_law 529 = .ok (.invokevirtual 84, 3) := by decide +kernel
theorem dL_law_532 : decode cL_law 532 = .ok (.if_icmp .eq 236, 3) := by decide +kernel
theorem dL_law_535 : decode cL_law 535 = .ok (.iconst 0, 1) := by decide +kernel
theorem dL_law_536 : decode cL_law 536 = .ok (.ireturn, 1) := by decide +kernel
theorem dL_law_537 : decode cL_law 537 = .ok (.aload_n 1, 1) := by decide +kernel
theorem dL_law_538 : decode cL_law 538 = .ok (.aload_n 0, 1) := by decide +kernel
theorem dL_law_539 : decode cL_law 539 = .ok (.iload_n 3, 1) := by decide +kernel
theorem dL_law_540 : decode cL_law 540 = .ok (.iconst 1, 1) := by decide +kernel
theorem dL_law_541 : decode cL_law 541 = .ok (.iadd, 1) := by decide +kernel
theorem dL_law_542 : decode cL_law 542 = .ok (.iaload, 1) := by decide +kernel
theorem dL_law_543 : decode cL_law 543 = .ok (.invokevirtual 85, 3) := by decide +kernel
theorem dL_law_546 : decode cL_law 546 = .ok (.aload_n 2, 1) := by decide +kernel
theorem dL_law_547 : decode cL_law 547 = .ok (.aload_n 0, 1) := by decide +kernel
theorem dL_law_548 : decode cL_law 548 = .ok (.iload_n 3, 1) := by decide +kernel
theorem dL_law_549 : decode cL_law 549 = .ok (.iconst 1, 1) := by decide +kernel
theorem dL_law_550 : decode cL_law 550 = .ok (.iadd, 1) := by decide +kernel
theorem dL_law_551 : decode cL_law 551 = .ok (.iaload, 1) := by decide +kernel
theorem dL_law_552 : decode cL_law 552 = .ok (.invokevirtual 88, 3) := by decide +kernel
theorem dL_law_555 : decode cL_law 555 = .ok (.if_icmp .eq 213, 3) := by decide +kernel
theorem dL_law_558 : decode cL_law 558 = .ok (.iconst 0, 1) := by decide +kernel
theorem dL_law_559 : decode cL_law 559 = .ok (.ireturn, 1) := by decide +kernel
theorem dL_law_560 : decode cL_law 560 = .ok (.aload_n 1, 1) := by decide +kernel
theorem dL_law_561 : decode cL_law 561 = .ok (.aload_n 0, 1) := by decide +kernel
theorem dL_law_562 : decode cL_law 562 = .ok (.iload_n 3, 1) := by decide +kernel
theorem dL_law_563 : decode cL_law 563 = .ok (.iconst 1, 1) := by decide +kernel
theorem dL_law_564 : decode cL_law 564 = .ok (.iadd, 1) := by decide +kernel
theorem dL_law_565 : decode cL_law 565 = .ok (.iaload, 1) := by decide +kernel
theorem dL_law_566 : decode cL_law 566 = .ok (.invokevirtual 89, 3) := by decide +kernel
theorem dL_law_569 : decode cL_law 569 = .ok (.aload_n 2, 1) := by decide +kernel
theorem dL_law_570 : decode cL_law 570 = .ok (.aload_n 0, 1) := by decide +kernel
theorem dL_law_571 : decode cL_law 571 = .ok (.iload_n 3, 1) := by decide +kernel
theorem dL_law_572 : decode cL_law 572 = .ok (.iconst 1, 1) := by decide +kernel
theorem dL_law_573 : decode cL_law 573 = .ok (.iadd, 1) := by decide +kernel
theorem dL_law_574 : decode cL_law 574 = .ok (.iaload, 1) := by decide +kernel
theorem dL_law_575 : decode cL_law 575 = .ok (.invokevirtual 92, 3) := by decide +kernel
theorem dL_law_578 : decode cL_law 578 = .ok (.if_icmp .eq 190, 3) := by decide +kernel
theorem dL_law_581 : decode cL_law 581 = .ok (.iconst 0, 1) := by decide +kernel
theorem dL_law_582 : decode cL_law 582 = .ok (.ireturn, 1) := by decide +kernel
theorem dL_law_583 : decode cL_law 583 = .ok (.aload_n 1, 1) := by decide +kernel
theorem dL_law_584 : decode cL_law 584 = .ok (.aload_n 0, 1) := by decide +kernel
theorem dL_law_585 : decode cL_law 585 = .ok (.iload_n 3, 1) := by decide +kernel
theorem dL_law_586 : decode cL_law 586 = .ok (.iconst 1, 1) := by decide +kernel
theorem dL_law_587 : decode cL_law 587 = .ok (.iadd, 1) := by decide +kernel
theorem dL_law_588 : decode cL_law 588 = .ok (.iaload, 1) := by decide +kernel
theorem dL_law_589 : decode cL_law 589 = .ok (.aload_n 0, 1) := by decide +kernel
theorem dL_law_590 : decode cL_law 590 = .ok (.iload_n 3, 1) := by decide +kernel
theorem dL_law_591 : decode cL_law 591 = .ok (.iconst 2, 1) := by decide +kernel
theorem dL_law_592 : decode cL_law 592 = .ok (.iadd, 1) := by decide +kernel
theorem dL_law_593 : decode cL_law 593 = .ok (.iaload, 1) := by decide +kernel
theorem dL_law_594 : decode cL_law 594 = .ok (.aload_n 0, 1) := by decide +kernel
theorem dL_law_595 : decode cL_law 595 = .ok (.iload_n 3, 1) := by decide +kernel
theorem dL_law_596 : decode cL_law 596 = .ok (.iconst 3, 1) := by decide +kernel
theorem dL_law_597 : decode cL_law 597 = .ok (.iadd, 1) := by decide +kernel
theorem dL_law_598 : decode cL_law 598 = .ok (.iaload, 1) := by decide +kernel
theorem dL_law_599 : decode cL_law 599 = .ok (.invokevirtual 93, 3) := by decide +kernel
theorem dL_law_602 : decode cL_law 602 = .ok (.aload_n 2, 1) := by decide +kernel
theorem dL_law_603 : decode cL_law 603 = .ok (.aload_n 0, 1) := by decide +kernel
theorem dL_law_604 : decode cL_law 604 = .ok (.iload_n 3, 1) := by decide +kernel
theorem dL_law_605 : decode cL_law 605 = .ok (.iconst 1, 1) := by decide +kernel
theorem dL_law_606 : decode cL_law 606 = .ok (.iadd, 1) := by decide +kernel
theorem dL_law_607 : decode cL_law 607 = .ok (.iaload, 1) := by decide +kernel
theorem dL_law_608 : decode cL_law 608 = .ok (.aload_n 0, 1) := by decide +kernel
theorem dL_law_609 : decode cL_law 609 = .ok (.iload_n 3, 1) := by decide +kernel
theorem dL_law_610 : decode cL_law 610 = .ok (.iconst 2, 1) := by decide +kernel
theorem dL_law_611 : decode cL_law 611 = .ok (.iadd, 1) := by decide +kernel
theorem dL_law_612 : decode cL_law 612 = .ok (.iaload, 1) := by decide +kernel
theorem dL_law_613 : decode cL_law 613 = .ok (.aload_n 0, 1) := by decide +kernel
theorem dL_law_614 : decode cL_law 614 = .ok (.iload_n 3, 1) := by decide +kernel
theorem dL_law_615 : decode cL_law 615 = .ok (.iconst 3, 1) := by decide +kernel
theorem dL_law_616 : decode cL_law 616 = .ok (.iadd, 1) := by decide +kernel
theorem dL_law_617 : decode cL_law 617 = .ok (.iaload, 1) := by decide +kernel
theorem dL_law_618 : decode cL_law 618 = .ok (.invokevirtual 96, 3) := by decide +kernel
theorem dL_law_621 : decode cL_law 621 = .ok (.if_icmp .eq 147, 3) := by decide +kernel
theorem dL_law_624 : decode cL_law 624 = .ok (.iconst 0, 1) := by decide +kernel
theorem dL_law_625 : decode cL_law 625 = .ok (.ireturn, 1) := by decide +kernel
theorem dL_law_626 : decode cL_law 626 = .ok (.aload_n 1, 1) := by decide +kernel
theorem dL_law_627 : decode cL_law 627 = .ok (.invokevirtual 97, 3) := by decide +kernel
theorem dL_law_630 : decode cL_law 630 = .ok (.aload_n 2, 1) := by decide +kernel
theorem dL_law_631 : decode cL_law 631 = .ok (.invokevirtual 100, 3) := by decide +kernel
theorem dL_law_634 : decode cL_law 634 = .ok (.if_icmp .eq 134, 3) := by decide +kernel
theorem dL_law_637 : decode cL_law 637 = .ok (.iconst 0, 1) := by decide +kernel
theorem dL_law_638 : decode cL_law 638 = .ok (.ireturn, 1) := by decide +kernel
theorem dL_law_639 : decode cL_law 639 = .ok (.aload_n 1, 1) := by decide +kernel
theorem dL_law_640 : decode cL_law 640 = .ok (.invokevirtual 101, 3) := by decide +kernel
theorem dL_law_643 : decode cL_law 643 = .ok (.aload_n 2, 1) := by decide +kernel
theorem dL_law_644 : decode cL_law 644 = .ok (.invokevirtual 104, 3) := by decide +kernel
theorem dL_law_647 : decode cL_law 647 = .ok (.if_icmp .eq 121, 3) := by decide +kernel
theorem dL_law_650 : decode cL_law 650 = .ok (.iconst 0, 1) := by decide +kernel
theorem dL_law_651 : decode cL_law 651 = .ok (.ireturn, 1) := by decide +kernel
theorem dL_law_652 : decode cL_law 652 = .ok (.aload_n 1, 1) := by decide +kernel
theorem dL_law_653 : decode cL_law 653 = .ok (.aload_n 0, 1) := by decide +kernel
theorem dL_law_654 : decode cL_law 654 = .ok (.iload_n 3, 1) := by decide +kernel
theorem dL_law_655 : decode cL_law 655 = .ok (.iconst 1, 1) := by decide +kernel
theorem dL_law_656 : decode cL_law 656 = .ok (.iadd, 1) := by decide +kernel
theorem dL_law_657 : decode cL_law 657 = .ok (.iaload, 1) := by decide +kernel
theorem dL_law_658 : decode cL_law 658 = .ok (.aload_n 0, 1) := by decide +kernel
theorem dL_law_659 : decode cL_law 659 = .ok (.iload_n 3, 1) := by decide +kernel
theorem dL_law_660 : decode cL_law 660 = .ok (.iconst 2, 1) := by decide +kernel
theorem dL_law_661 : decode cL_law 661 = .ok (.iadd, 1) := by decide +kernel
theorem dL_law_662 : decode cL_law 662 = .ok (.iaload, 1) := by decide +kernel
theorem dL_law_663 : decode cL_law 663 = .ok (.invokevirtual 105, 3) := by decide +kernel
theorem dL_law_666 : decode cL_law 666 = .ok (.aload_n 2, 1) := by decide +kernel
theorem dL_law_667 : decode cL_law 667 = .ok (.aload_n 0, 1) := by decide +kernel
theorem dL_law_668 : decode cL_law 668 = .ok (.iload_n 3, 1) := by decide +kernel
theorem dL_law_669 : decode cL_law 669 = .ok (.iconst 1, 1) := by decide +kernel
theorem dL_law_670 : decode cL_law 670 = .ok (.iadd, 1) := by decide +kernel
theorem dL_law_671 : decode cL_law 671 = .ok (.iaload, 1) := by decide +kernel
theorem dL_law_672 : decode cL_law 672 = .ok (.aload_n 0, 1) := by decide +kernel
theorem dL_law_673 : decode cL_law 673 = .ok (.iload_n 3, 1) := by decide +kernel
theorem dL_law_674 : decode cL_law 674 = .ok (.iconst 2, 1) := by decide +kernel
theorem dL_law_675 : decode cL_law 675 = .ok (.iadd, 1) := by decide +kernel
theorem dL_law_676 : decode cL_law 676 = .ok (.iaload, 1) := by decide +kernel
theorem dL_law_677 : decode cL_law 677 = .ok (.invokevirtual 108, 3) := by decide +kernel
theorem dL_law_680 : decode cL_law 680 = .ok (.if_icmp .eq 88, 3) := by decide +kernel
theorem dL_law_683 : decode cL_law 683 = .ok (.iconst 0, 1) := by decide +kernel
theorem dL_law_684 : decode cL_law 684 = .ok (.ireturn, 1) := by decide +kernel
theorem dL_law_685 : decode cL_law 685 = .ok (.aload_n 1, 1) := by decide +kernel
theorem dL_law_686 : decode cL_law 686 = .ok (.aload_n 0, 1) := by decide +kernel
theorem dL_law_687 : decode cL_law 687 = .ok (.iload_n 3, 1) := by decide +kernel
theorem dL_law_688 : decode cL_law 688 = .ok (.iconst 1, 1) := by decide +kernel
theorem dL_law_689 : decode cL_law 689 = .ok (.iadd, 1) := by decide +kernel
theorem dL_law_690 : decode cL_law 690 = .ok (.iaload, 1) := by decide +kernel
theorem dL_law_691 : decode cL_law 691 = .ok (.invokevirtual 109, 3) := by decide +kernel
theorem dL_law_694 : decode cL_law 694 = .ok (.aload_n 2, 1) := by decide +kernel
theorem dL_law_695 : decode cL_law 695 = .ok (.aload_n 0, 1) := by decide +kernel
theorem dL_law_696 : decode cL_law 696 = .ok (.iload_n 3, 1) := by decide +kernel
theorem dL_law_697 : decode cL_law 697 = .ok (.iconst 1, 1) := by decide +kernel
theorem dL_law_698 : decode cL_law 698 = .ok (.iadd, 1) := by decide +kernel
theorem dL_law_699 : decode cL_law 699 = .ok (.iaload, 1) := by decide +kernel
theorem dL_law_700 : decode cL_law 700 = .ok (.invokevirtual 112, 3) := by decide +kernel
theorem dL_law_703 : decode cL_law 703 = .ok (.if_icmp .eq 65, 3) := by decide +kernel
theorem dL_law_706 : decode cL_law 706 = .ok (.iconst 0, 1) := by decide +kernel
theorem dL_law_707 : decode cL_law 707 = .ok (.ireturn, 1) := by decide +kernel
theorem dL_law_708 : decode cL_law 708 = .ok (.aload_n 1, 1) := by decide +kernel
theorem dL_law_709 : decode cL_law 709 = .ok (.aload_n 0, 1) := by decide +kernel
theorem dL_law_710 : decode cL_law 710 = .ok (.iload_n 3, 1) := by decide +kernel
theorem dL_law_711 : decode cL_law 711 = .ok (.iconst 1, 1) := by decide +kernel
theorem dL_law_712 : decode cL_law 712 = .ok (.iadd, 1) := by decide +kernel
theorem dL_law_713 : decode cL_law 713 = .ok (.iaload, 1) := by decide +kernel
theorem dL_law_714 : decode cL_law 714 = .ok (.invokevirtual 113, 3) := by decide +kernel
theorem dL_law_717 : decode cL_law 717 = .ok (.aload_n 2, 1) := by decide +kernel
theorem dL_law_718 : decode cL_law 718 = .ok (.aload_n 0, 1) := by decide +kernel
theorem dL_law_719 : decode cL_law 719 = .ok (.iload_n 3, 1) := by decide +kernel
theorem dL_law_720 : decode cL_law 720 = .ok (.iconst 1, 1) := by decide +kernel
theorem dL_law_721 : decode cL_law 721 = .ok (.iadd, 1) := by decide +kernel
theorem dL_law_722 : decode cL_law 722 = .ok (.iaload, 1) := by decide +kernel
theorem dL_law_723 : decode cL_law 723 = .ok (.invokevirtual 116, 3) := by decide +kernel
theorem dL_law_726 : decode cL_law 726 = .ok (.if_icmp .eq 42, 3) := by decide +kernel
theorem dL_law_729 : decode cL_law 729 = .ok (.iconst 0, 1) := by decide +kernel
theorem dL_law_730 : decode cL_law 730 = .ok (.ireturn, 1) := by decide +kernel
theorem dL_law_731 : decode cL_law 731 = .ok (.aload_n 1, 1) := by decide +kernel
theorem dL_law_732 : decode cL_law 732 = .ok (.aload_n 0, 1) := by decide +kernel
theorem dL_law_733 : decode cL_law 733 = .ok (.iload_n 3, 1) := by decide +kernel
theorem dL_law_734 : decode cL_law 734 = .ok (.iconst 1, 1) := by decide +kernel
theorem dL_law_735 : decode cL_law 735 = .ok (.iadd, 1) := by decide +kernel
theorem dL_law_736 : decode cL_law 736 = .ok (.iaload, 1) := by decide +kernel
theorem dL_law_737 : decode cL_law 737 = .ok (.invokevirtual 117, 3) := by decide +kernel
theorem dL_law_740 : decode cL_law 740 = .ok (.aload_n 2, 1) := by decide +kernel
theorem dL_law_741 : decode cL_law 741 = .ok (.aload_n 0, 1) := by decide +kernel
theorem dL_law_742 : decode cL_law 742 = .ok (.iload_n 3, 1) := by decide +kernel
theorem dL_law_743 : decode cL_law 743 = .ok (.iconst 1, 1) := by decide +kernel
theorem dL_law_744 : decode cL_law 744 = .ok (.iadd, 1) := by decide +kernel
theorem dL_law_745 : decode cL_law 745 = .ok (.iaload, 1) := by decide +kernel
theorem dL_law_746 : decode cL_law 746 = .ok (.invokevirtual 120, 3) := by decide +kernel
theorem dL_law_749 : decode cL_law 749 = .ok (.if_icmp .eq 19, 3) := by decide +kernel
theorem dL_law_752 : decode cL_law 752 = .ok (.iconst 0, 1) := by decide +kernel
theorem dL_law_753 : decode cL_law 753 = .ok (.ireturn, 1) := by decide +kernel
theorem dL_law_754 : decode cL_law 754 = .ok (.aload_n 1, 1) := by decide +kernel
theorem dL_law_755 : decode cL_law 755 = .ok (.invokevirtual 121, 3) := by decide +kernel
theorem dL_law_758 : decode cL_law 758 = .ok (.aload_n 2, 1) := by decide +kernel
theorem dL_law_759 : decode cL_law 759 = .ok (.invokevirtual 125, 3) := by decide +kernel
theorem dL_law_762 : decode cL_law 762 = .ok (.lcmp, 1) := by decide +kernel
theorem dL_law_763 : decode cL_law 763 = .ok (.ifCond .eq 5, 3) := by decide +kernel
theorem dL_law_766 : decode cL_law 766 = .ok (.iconst 0, 1) := by decide +kernel
theorem dL_law_767 : decode cL_law 767 = .ok (.ireturn, 1) := by decide +kernel
theorem dL_law_768 : decode cL_law 768 = .ok (.iinc 3 4, 3) := by decide +kernel
theorem dL_law_771 : decode cL_law 771 = .ok (.goto (-753), 3) := by decide +kernel
theorem dL_law_774 : decode cL_law 774 = .ok (.iconst 1, 1) := by decide +kernel
theorem dL_law_775 : decode cL_law 775 = .ok (.ireturn, 1) := by decide +kernel
